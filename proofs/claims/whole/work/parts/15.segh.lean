/-! the segments of the program, printed by wip/whole/segs.py -/
-- method 331: MillTownLaw.law([I)Z
theorem c_331_0 : pg_cd 331 0 = (60, 11, 7, 12, 0) := by decide +kernel
theorem c_331_3 : pg_cd 331 3 = (33, 1, 0, 0, 0) := by decide +kernel
theorem c_331_4 : pg_cd 331 4 = (80, 140, 9, 0, 0) := by decide +kernel
theorem c_331_7 : pg_cd 331 7 = (8, 1, 0, 1, 0) := by decide +kernel
theorem c_331_8 : pg_cd 331 8 = (60, 12, 10, 43, 0) := by decide +kernel
theorem c_331_11 : pg_cd 331 11 = (33, 1, 0, 0, 0) := by decide +kernel
theorem c_331_12 : pg_cd 331 12 = (80, 194, 12, 0, 0) := by decide +kernel
theorem c_331_15 : pg_cd 331 15 = (8, 1, 0, 2, 0) := by decide +kernel
theorem c_331_16 : pg_cd 331 16 = (1, 1, 0, 0, 0) := by decide +kernel
theorem c_331_17 : pg_cd 331 17 = (6, 1, 0, 3, 0) := by decide +kernel
theorem c_331_18 : pg_cd 331 18 = (3, 1, 0, 3, 0) := by decide +kernel
theorem c_331_19 : pg_cd 331 19 = (5, 1, 0, 0, 0) := by decide +kernel
theorem c_331_20 : pg_cd 331 20 = (58, 0, 0, 0, 0) := by decide +kernel
theorem c_331_21 : pg_cd 331 21 = (1, 2, 0, 0, 7) := by decide +kernel
theorem c_331_23 : pg_cd 331 23 = (11, 1, 0, 0, 0) := by decide +kernel
theorem c_331_24 : pg_cd 331 24 = (37, 3, 0, 4, 1829) := by decide +kernel
theorem c_331_27 : pg_cd 331 27 = (5, 1, 0, 0, 0) := by decide +kernel
theorem c_331_28 : pg_cd 331 28 = (3, 1, 0, 3, 0) := by decide +kernel
theorem c_331_29 : pg_cd 331 29 = (50, 1, 0, 0, 0) := by decide +kernel
theorem c_331_30 : pg_cd 331 30 = (1, 2, 0, 0, 63) := by decide +kernel
theorem c_331_32 : pg_cd 331 32 = (13, 1, 0, 0, 0) := by decide +kernel
theorem c_331_33 : pg_cd 331 33 = (42, 10, 187, 0, 0) := by decide +kernel
theorem c_331_220 : pg_cd 331 220 = (5, 1, 0, 1, 0) := by decide +kernel
theorem c_331_221 : pg_cd 331 221 = (5, 1, 0, 0, 0) := by decide +kernel
theorem c_331_222 : pg_cd 331 222 = (3, 1, 0, 3, 0) := by decide +kernel
theorem c_331_223 : pg_cd 331 223 = (1, 1, 0, 0, 1) := by decide +kernel
theorem c_331_224 : pg_cd 331 224 = (10, 1, 0, 0, 0) := by decide +kernel
theorem c_331_225 : pg_cd 331 225 = (50, 1, 0, 0, 0) := by decide +kernel
theorem c_331_226 : pg_cd 331 226 = (5, 1, 0, 0, 0) := by decide +kernel
theorem c_331_227 : pg_cd 331 227 = (3, 1, 0, 3, 0) := by decide +kernel
theorem c_331_228 : pg_cd 331 228 = (1, 1, 0, 0, 2) := by decide +kernel
theorem c_331_229 : pg_cd 331 229 = (10, 1, 0, 0, 0) := by decide +kernel
theorem c_331_230 : pg_cd 331 230 = (50, 1, 0, 0, 0) := by decide +kernel
theorem c_331_231 : pg_cd 331 231 = (5, 1, 0, 0, 0) := by decide +kernel
theorem c_331_232 : pg_cd 331 232 = (3, 1, 0, 3, 0) := by decide +kernel
theorem c_331_233 : pg_cd 331 233 = (1, 1, 0, 0, 3) := by decide +kernel
theorem c_331_234 : pg_cd 331 234 = (10, 1, 0, 0, 0) := by decide +kernel
theorem c_331_235 : pg_cd 331 235 = (50, 1, 0, 0, 0) := by decide +kernel
theorem c_331_236 : pg_cd 331 236 = (5, 1, 0, 0, 0) := by decide +kernel
theorem c_331_237 : pg_cd 331 237 = (3, 1, 0, 3, 0) := by decide +kernel
theorem c_331_238 : pg_cd 331 238 = (1, 1, 0, 0, 4) := by decide +kernel
theorem c_331_239 : pg_cd 331 239 = (10, 1, 0, 0, 0) := by decide +kernel
theorem c_331_240 : pg_cd 331 240 = (50, 1, 0, 0, 0) := by decide +kernel
theorem c_331_241 : pg_cd 331 241 = (5, 1, 0, 0, 0) := by decide +kernel
theorem c_331_242 : pg_cd 331 242 = (3, 1, 0, 3, 0) := by decide +kernel
theorem c_331_243 : pg_cd 331 243 = (1, 1, 0, 0, 5) := by decide +kernel
theorem c_331_244 : pg_cd 331 244 = (10, 1, 0, 0, 0) := by decide +kernel
theorem c_331_245 : pg_cd 331 245 = (50, 1, 0, 0, 0) := by decide +kernel
theorem c_331_246 : pg_cd 331 246 = (5, 1, 0, 0, 0) := by decide +kernel
theorem c_331_247 : pg_cd 331 247 = (3, 1, 0, 3, 0) := by decide +kernel
theorem c_331_248 : pg_cd 331 248 = (1, 2, 0, 0, 6) := by decide +kernel
theorem c_331_250 : pg_cd 331 250 = (10, 1, 0, 0, 0) := by decide +kernel
theorem c_331_251 : pg_cd 331 251 = (50, 1, 0, 0, 0) := by decide +kernel
theorem c_331_252 : pg_cd 331 252 = (80, 145, 13, 0, 0) := by decide +kernel
theorem c_331_255 : pg_cd 331 255 = (5, 1, 0, 2, 0) := by decide +kernel
theorem c_331_256 : pg_cd 331 256 = (5, 1, 0, 0, 0) := by decide +kernel
theorem c_331_257 : pg_cd 331 257 = (3, 1, 0, 3, 0) := by decide +kernel
theorem c_331_258 : pg_cd 331 258 = (1, 1, 0, 0, 1) := by decide +kernel
theorem c_331_259 : pg_cd 331 259 = (10, 1, 0, 0, 0) := by decide +kernel
theorem c_331_260 : pg_cd 331 260 = (50, 1, 0, 0, 0) := by decide +kernel
theorem c_331_261 : pg_cd 331 261 = (5, 1, 0, 0, 0) := by decide +kernel
theorem c_331_262 : pg_cd 331 262 = (3, 1, 0, 3, 0) := by decide +kernel
theorem c_331_263 : pg_cd 331 263 = (1, 1, 0, 0, 2) := by decide +kernel
theorem c_331_264 : pg_cd 331 264 = (10, 1, 0, 0, 0) := by decide +kernel
theorem c_331_265 : pg_cd 331 265 = (50, 1, 0, 0, 0) := by decide +kernel
theorem c_331_266 : pg_cd 331 266 = (5, 1, 0, 0, 0) := by decide +kernel
theorem c_331_267 : pg_cd 331 267 = (3, 1, 0, 3, 0) := by decide +kernel
theorem c_331_268 : pg_cd 331 268 = (1, 1, 0, 0, 3) := by decide +kernel
theorem c_331_269 : pg_cd 331 269 = (10, 1, 0, 0, 0) := by decide +kernel
theorem c_331_270 : pg_cd 331 270 = (50, 1, 0, 0, 0) := by decide +kernel
theorem c_331_271 : pg_cd 331 271 = (5, 1, 0, 0, 0) := by decide +kernel
theorem c_331_272 : pg_cd 331 272 = (3, 1, 0, 3, 0) := by decide +kernel
theorem c_331_273 : pg_cd 331 273 = (1, 1, 0, 0, 4) := by decide +kernel
theorem c_331_274 : pg_cd 331 274 = (10, 1, 0, 0, 0) := by decide +kernel
theorem c_331_275 : pg_cd 331 275 = (50, 1, 0, 0, 0) := by decide +kernel
theorem c_331_276 : pg_cd 331 276 = (5, 1, 0, 0, 0) := by decide +kernel
theorem c_331_277 : pg_cd 331 277 = (3, 1, 0, 3, 0) := by decide +kernel
theorem c_331_278 : pg_cd 331 278 = (1, 1, 0, 0, 5) := by decide +kernel
theorem c_331_279 : pg_cd 331 279 = (10, 1, 0, 0, 0) := by decide +kernel
theorem c_331_280 : pg_cd 331 280 = (50, 1, 0, 0, 0) := by decide +kernel
theorem c_331_281 : pg_cd 331 281 = (5, 1, 0, 0, 0) := by decide +kernel
theorem c_331_282 : pg_cd 331 282 = (3, 1, 0, 3, 0) := by decide +kernel
theorem c_331_283 : pg_cd 331 283 = (1, 2, 0, 0, 6) := by decide +kernel
theorem c_331_285 : pg_cd 331 285 = (10, 1, 0, 0, 0) := by decide +kernel
theorem c_331_286 : pg_cd 331 286 = (50, 1, 0, 0, 0) := by decide +kernel
theorem c_331_287 : pg_cd 331 287 = (80, 206, 17, 0, 0) := by decide +kernel
theorem c_331_290 : pg_cd 331 290 = (37, 3, 0, 0, 1557) := by decide +kernel
theorem c_331_293 : pg_cd 331 293 = (1, 1, 0, 0, 0) := by decide +kernel
theorem c_331_294 : pg_cd 331 294 = (91, 0, 0, 0, 0) := by decide +kernel
theorem c_331_295 : pg_cd 331 295 = (5, 1, 0, 1, 0) := by decide +kernel
theorem c_331_296 : pg_cd 331 296 = (5, 1, 0, 0, 0) := by decide +kernel
theorem c_331_297 : pg_cd 331 297 = (3, 1, 0, 3, 0) := by decide +kernel
theorem c_331_298 : pg_cd 331 298 = (1, 1, 0, 0, 1) := by decide +kernel
theorem c_331_299 : pg_cd 331 299 = (10, 1, 0, 0, 0) := by decide +kernel
theorem c_331_300 : pg_cd 331 300 = (50, 1, 0, 0, 0) := by decide +kernel
theorem c_331_301 : pg_cd 331 301 = (5, 1, 0, 0, 0) := by decide +kernel
theorem c_331_302 : pg_cd 331 302 = (3, 1, 0, 3, 0) := by decide +kernel
theorem c_331_303 : pg_cd 331 303 = (1, 1, 0, 0, 2) := by decide +kernel
theorem c_331_304 : pg_cd 331 304 = (10, 1, 0, 0, 0) := by decide +kernel
theorem c_331_305 : pg_cd 331 305 = (50, 1, 0, 0, 0) := by decide +kernel
theorem c_331_306 : pg_cd 331 306 = (5, 1, 0, 0, 0) := by decide +kernel
theorem c_331_307 : pg_cd 331 307 = (3, 1, 0, 3, 0) := by decide +kernel
theorem c_331_308 : pg_cd 331 308 = (1, 1, 0, 0, 3) := by decide +kernel
theorem c_331_309 : pg_cd 331 309 = (10, 1, 0, 0, 0) := by decide +kernel
theorem c_331_310 : pg_cd 331 310 = (50, 1, 0, 0, 0) := by decide +kernel
theorem c_331_311 : pg_cd 331 311 = (80, 146, 18, 0, 0) := by decide +kernel
theorem c_331_314 : pg_cd 331 314 = (5, 1, 0, 2, 0) := by decide +kernel
theorem c_331_315 : pg_cd 331 315 = (5, 1, 0, 0, 0) := by decide +kernel
theorem c_331_316 : pg_cd 331 316 = (3, 1, 0, 3, 0) := by decide +kernel
theorem c_331_317 : pg_cd 331 317 = (1, 1, 0, 0, 1) := by decide +kernel
theorem c_331_318 : pg_cd 331 318 = (10, 1, 0, 0, 0) := by decide +kernel
theorem c_331_319 : pg_cd 331 319 = (50, 1, 0, 0, 0) := by decide +kernel
theorem c_331_320 : pg_cd 331 320 = (5, 1, 0, 0, 0) := by decide +kernel
theorem c_331_321 : pg_cd 331 321 = (3, 1, 0, 3, 0) := by decide +kernel
theorem c_331_322 : pg_cd 331 322 = (1, 1, 0, 0, 2) := by decide +kernel
theorem c_331_323 : pg_cd 331 323 = (10, 1, 0, 0, 0) := by decide +kernel
theorem c_331_324 : pg_cd 331 324 = (50, 1, 0, 0, 0) := by decide +kernel
theorem c_331_325 : pg_cd 331 325 = (5, 1, 0, 0, 0) := by decide +kernel
theorem c_331_326 : pg_cd 331 326 = (3, 1, 0, 3, 0) := by decide +kernel
theorem c_331_327 : pg_cd 331 327 = (1, 1, 0, 0, 3) := by decide +kernel
theorem c_331_328 : pg_cd 331 328 = (10, 1, 0, 0, 0) := by decide +kernel
theorem c_331_329 : pg_cd 331 329 = (50, 1, 0, 0, 0) := by decide +kernel
theorem c_331_330 : pg_cd 331 330 = (80, 207, 22, 0, 0) := by decide +kernel
theorem c_331_333 : pg_cd 331 333 = (37, 3, 0, 0, 1514) := by decide +kernel
theorem c_331_336 : pg_cd 331 336 = (1, 1, 0, 0, 0) := by decide +kernel
theorem c_331_337 : pg_cd 331 337 = (91, 0, 0, 0, 0) := by decide +kernel
theorem c_331_338 : pg_cd 331 338 = (5, 1, 0, 1, 0) := by decide +kernel
theorem c_331_339 : pg_cd 331 339 = (5, 1, 0, 0, 0) := by decide +kernel
theorem c_331_340 : pg_cd 331 340 = (3, 1, 0, 3, 0) := by decide +kernel
theorem c_331_341 : pg_cd 331 341 = (1, 1, 0, 0, 1) := by decide +kernel
theorem c_331_342 : pg_cd 331 342 = (10, 1, 0, 0, 0) := by decide +kernel
theorem c_331_343 : pg_cd 331 343 = (50, 1, 0, 0, 0) := by decide +kernel
theorem c_331_344 : pg_cd 331 344 = (5, 1, 0, 0, 0) := by decide +kernel
theorem c_331_345 : pg_cd 331 345 = (3, 1, 0, 3, 0) := by decide +kernel
theorem c_331_346 : pg_cd 331 346 = (1, 1, 0, 0, 2) := by decide +kernel
theorem c_331_347 : pg_cd 331 347 = (10, 1, 0, 0, 0) := by decide +kernel
theorem c_331_348 : pg_cd 331 348 = (50, 1, 0, 0, 0) := by decide +kernel
theorem c_331_349 : pg_cd 331 349 = (80, 147, 23, 0, 0) := by decide +kernel
theorem c_331_352 : pg_cd 331 352 = (5, 1, 0, 2, 0) := by decide +kernel
theorem c_331_353 : pg_cd 331 353 = (5, 1, 0, 0, 0) := by decide +kernel
theorem c_331_354 : pg_cd 331 354 = (3, 1, 0, 3, 0) := by decide +kernel
theorem c_331_355 : pg_cd 331 355 = (1, 1, 0, 0, 1) := by decide +kernel
theorem c_331_356 : pg_cd 331 356 = (10, 1, 0, 0, 0) := by decide +kernel
theorem c_331_357 : pg_cd 331 357 = (50, 1, 0, 0, 0) := by decide +kernel
theorem c_331_358 : pg_cd 331 358 = (5, 1, 0, 0, 0) := by decide +kernel
theorem c_331_359 : pg_cd 331 359 = (3, 1, 0, 3, 0) := by decide +kernel
theorem c_331_360 : pg_cd 331 360 = (1, 1, 0, 0, 2) := by decide +kernel
theorem c_331_361 : pg_cd 331 361 = (10, 1, 0, 0, 0) := by decide +kernel
theorem c_331_362 : pg_cd 331 362 = (50, 1, 0, 0, 0) := by decide +kernel
theorem c_331_363 : pg_cd 331 363 = (80, 208, 27, 0, 0) := by decide +kernel
theorem c_331_366 : pg_cd 331 366 = (37, 3, 0, 0, 1481) := by decide +kernel
theorem c_331_369 : pg_cd 331 369 = (1, 1, 0, 0, 0) := by decide +kernel
theorem c_331_370 : pg_cd 331 370 = (91, 0, 0, 0, 0) := by decide +kernel
theorem c_331_371 : pg_cd 331 371 = (5, 1, 0, 1, 0) := by decide +kernel
theorem c_331_372 : pg_cd 331 372 = (5, 1, 0, 0, 0) := by decide +kernel
theorem c_331_373 : pg_cd 331 373 = (3, 1, 0, 3, 0) := by decide +kernel
theorem c_331_374 : pg_cd 331 374 = (1, 1, 0, 0, 1) := by decide +kernel
theorem c_331_375 : pg_cd 331 375 = (10, 1, 0, 0, 0) := by decide +kernel
theorem c_331_376 : pg_cd 331 376 = (50, 1, 0, 0, 0) := by decide +kernel
theorem c_331_377 : pg_cd 331 377 = (5, 1, 0, 0, 0) := by decide +kernel
theorem c_331_378 : pg_cd 331 378 = (3, 1, 0, 3, 0) := by decide +kernel
theorem c_331_379 : pg_cd 331 379 = (1, 1, 0, 0, 2) := by decide +kernel
theorem c_331_380 : pg_cd 331 380 = (10, 1, 0, 0, 0) := by decide +kernel
theorem c_331_381 : pg_cd 331 381 = (50, 1, 0, 0, 0) := by decide +kernel
theorem c_331_382 : pg_cd 331 382 = (80, 148, 28, 0, 0) := by decide +kernel
theorem c_331_385 : pg_cd 331 385 = (5, 1, 0, 2, 0) := by decide +kernel
theorem c_331_386 : pg_cd 331 386 = (5, 1, 0, 0, 0) := by decide +kernel
theorem c_331_387 : pg_cd 331 387 = (3, 1, 0, 3, 0) := by decide +kernel
theorem c_331_388 : pg_cd 331 388 = (1, 1, 0, 0, 1) := by decide +kernel
theorem c_331_389 : pg_cd 331 389 = (10, 1, 0, 0, 0) := by decide +kernel
theorem c_331_390 : pg_cd 331 390 = (50, 1, 0, 0, 0) := by decide +kernel
theorem c_331_391 : pg_cd 331 391 = (5, 1, 0, 0, 0) := by decide +kernel
theorem c_331_392 : pg_cd 331 392 = (3, 1, 0, 3, 0) := by decide +kernel
theorem c_331_393 : pg_cd 331 393 = (1, 1, 0, 0, 2) := by decide +kernel
theorem c_331_394 : pg_cd 331 394 = (10, 1, 0, 0, 0) := by decide +kernel
theorem c_331_395 : pg_cd 331 395 = (50, 1, 0, 0, 0) := by decide +kernel
theorem c_331_396 : pg_cd 331 396 = (80, 210, 32, 0, 0) := by decide +kernel
theorem c_331_399 : pg_cd 331 399 = (37, 3, 0, 0, 1448) := by decide +kernel
theorem c_331_402 : pg_cd 331 402 = (1, 1, 0, 0, 0) := by decide +kernel
theorem c_331_403 : pg_cd 331 403 = (91, 0, 0, 0, 0) := by decide +kernel
theorem c_331_404 : pg_cd 331 404 = (5, 1, 0, 1, 0) := by decide +kernel
theorem c_331_405 : pg_cd 331 405 = (5, 1, 0, 0, 0) := by decide +kernel
theorem c_331_406 : pg_cd 331 406 = (3, 1, 0, 3, 0) := by decide +kernel
theorem c_331_407 : pg_cd 331 407 = (1, 1, 0, 0, 1) := by decide +kernel
theorem c_331_408 : pg_cd 331 408 = (10, 1, 0, 0, 0) := by decide +kernel
theorem c_331_409 : pg_cd 331 409 = (50, 1, 0, 0, 0) := by decide +kernel
theorem c_331_410 : pg_cd 331 410 = (5, 1, 0, 0, 0) := by decide +kernel
theorem c_331_411 : pg_cd 331 411 = (3, 1, 0, 3, 0) := by decide +kernel
theorem c_331_412 : pg_cd 331 412 = (1, 1, 0, 0, 2) := by decide +kernel
theorem c_331_413 : pg_cd 331 413 = (10, 1, 0, 0, 0) := by decide +kernel
theorem c_331_414 : pg_cd 331 414 = (50, 1, 0, 0, 0) := by decide +kernel
theorem c_331_415 : pg_cd 331 415 = (5, 1, 0, 0, 0) := by decide +kernel
theorem c_331_416 : pg_cd 331 416 = (3, 1, 0, 3, 0) := by decide +kernel
theorem c_331_417 : pg_cd 331 417 = (1, 1, 0, 0, 3) := by decide +kernel
theorem c_331_418 : pg_cd 331 418 = (10, 1, 0, 0, 0) := by decide +kernel
theorem c_331_419 : pg_cd 331 419 = (50, 1, 0, 0, 0) := by decide +kernel
theorem c_331_420 : pg_cd 331 420 = (5, 1, 0, 0, 0) := by decide +kernel
theorem c_331_421 : pg_cd 331 421 = (3, 1, 0, 3, 0) := by decide +kernel
theorem c_331_422 : pg_cd 331 422 = (1, 1, 0, 0, 4) := by decide +kernel
theorem c_331_423 : pg_cd 331 423 = (10, 1, 0, 0, 0) := by decide +kernel
theorem c_331_424 : pg_cd 331 424 = (50, 1, 0, 0, 0) := by decide +kernel
theorem c_331_425 : pg_cd 331 425 = (80, 149, 33, 0, 0) := by decide +kernel
theorem c_331_428 : pg_cd 331 428 = (5, 1, 0, 2, 0) := by decide +kernel
theorem c_331_429 : pg_cd 331 429 = (5, 1, 0, 0, 0) := by decide +kernel
theorem c_331_430 : pg_cd 331 430 = (3, 1, 0, 3, 0) := by decide +kernel
theorem c_331_431 : pg_cd 331 431 = (1, 1, 0, 0, 1) := by decide +kernel
theorem c_331_432 : pg_cd 331 432 = (10, 1, 0, 0, 0) := by decide +kernel
theorem c_331_433 : pg_cd 331 433 = (50, 1, 0, 0, 0) := by decide +kernel
theorem c_331_434 : pg_cd 331 434 = (5, 1, 0, 0, 0) := by decide +kernel
theorem c_331_435 : pg_cd 331 435 = (3, 1, 0, 3, 0) := by decide +kernel
theorem c_331_436 : pg_cd 331 436 = (1, 1, 0, 0, 2) := by decide +kernel
theorem c_331_437 : pg_cd 331 437 = (10, 1, 0, 0, 0) := by decide +kernel
theorem c_331_438 : pg_cd 331 438 = (50, 1, 0, 0, 0) := by decide +kernel
theorem c_331_439 : pg_cd 331 439 = (5, 1, 0, 0, 0) := by decide +kernel
theorem c_331_440 : pg_cd 331 440 = (3, 1, 0, 3, 0) := by decide +kernel
theorem c_331_441 : pg_cd 331 441 = (1, 1, 0, 0, 3) := by decide +kernel
theorem c_331_442 : pg_cd 331 442 = (10, 1, 0, 0, 0) := by decide +kernel
theorem c_331_443 : pg_cd 331 443 = (50, 1, 0, 0, 0) := by decide +kernel
theorem c_331_444 : pg_cd 331 444 = (5, 1, 0, 0, 0) := by decide +kernel
theorem c_331_445 : pg_cd 331 445 = (3, 1, 0, 3, 0) := by decide +kernel
theorem c_331_446 : pg_cd 331 446 = (1, 1, 0, 0, 4) := by decide +kernel
theorem c_331_447 : pg_cd 331 447 = (10, 1, 0, 0, 0) := by decide +kernel
theorem c_331_448 : pg_cd 331 448 = (50, 1, 0, 0, 0) := by decide +kernel
theorem c_331_449 : pg_cd 331 449 = (80, 211, 37, 0, 0) := by decide +kernel
theorem c_331_452 : pg_cd 331 452 = (37, 3, 0, 0, 1395) := by decide +kernel
theorem c_331_455 : pg_cd 331 455 = (1, 1, 0, 0, 0) := by decide +kernel
theorem c_331_456 : pg_cd 331 456 = (91, 0, 0, 0, 0) := by decide +kernel
theorem c_331_457 : pg_cd 331 457 = (5, 1, 0, 1, 0) := by decide +kernel
theorem c_331_458 : pg_cd 331 458 = (5, 1, 0, 0, 0) := by decide +kernel
theorem c_331_459 : pg_cd 331 459 = (3, 1, 0, 3, 0) := by decide +kernel
theorem c_331_460 : pg_cd 331 460 = (1, 1, 0, 0, 1) := by decide +kernel
theorem c_331_461 : pg_cd 331 461 = (10, 1, 0, 0, 0) := by decide +kernel
theorem c_331_462 : pg_cd 331 462 = (50, 1, 0, 0, 0) := by decide +kernel
theorem c_331_463 : pg_cd 331 463 = (5, 1, 0, 0, 0) := by decide +kernel
theorem c_331_464 : pg_cd 331 464 = (3, 1, 0, 3, 0) := by decide +kernel
theorem c_331_465 : pg_cd 331 465 = (1, 1, 0, 0, 2) := by decide +kernel
theorem c_331_466 : pg_cd 331 466 = (10, 1, 0, 0, 0) := by decide +kernel
theorem c_331_467 : pg_cd 331 467 = (50, 1, 0, 0, 0) := by decide +kernel
theorem c_331_468 : pg_cd 331 468 = (5, 1, 0, 0, 0) := by decide +kernel
theorem c_331_469 : pg_cd 331 469 = (3, 1, 0, 3, 0) := by decide +kernel
theorem c_331_470 : pg_cd 331 470 = (1, 1, 0, 0, 3) := by decide +kernel
theorem c_331_471 : pg_cd 331 471 = (10, 1, 0, 0, 0) := by decide +kernel
theorem c_331_472 : pg_cd 331 472 = (50, 1, 0, 0, 0) := by decide +kernel
theorem c_331_473 : pg_cd 331 473 = (80, 150, 38, 0, 0) := by decide +kernel
theorem c_331_476 : pg_cd 331 476 = (5, 1, 0, 2, 0) := by decide +kernel
theorem c_331_477 : pg_cd 331 477 = (5, 1, 0, 0, 0) := by decide +kernel
theorem c_331_478 : pg_cd 331 478 = (3, 1, 0, 3, 0) := by decide +kernel
theorem c_331_479 : pg_cd 331 479 = (1, 1, 0, 0, 1) := by decide +kernel
theorem c_331_480 : pg_cd 331 480 = (10, 1, 0, 0, 0) := by decide +kernel
theorem c_331_481 : pg_cd 331 481 = (50, 1, 0, 0, 0) := by decide +kernel
theorem c_331_482 : pg_cd 331 482 = (5, 1, 0, 0, 0) := by decide +kernel
theorem c_331_483 : pg_cd 331 483 = (3, 1, 0, 3, 0) := by decide +kernel
theorem c_331_484 : pg_cd 331 484 = (1, 1, 0, 0, 2) := by decide +kernel
theorem c_331_485 : pg_cd 331 485 = (10, 1, 0, 0, 0) := by decide +kernel
theorem c_331_486 : pg_cd 331 486 = (50, 1, 0, 0, 0) := by decide +kernel
theorem c_331_487 : pg_cd 331 487 = (5, 1, 0, 0, 0) := by decide +kernel
theorem c_331_488 : pg_cd 331 488 = (3, 1, 0, 3, 0) := by decide +kernel
theorem c_331_489 : pg_cd 331 489 = (1, 1, 0, 0, 3) := by decide +kernel
theorem c_331_490 : pg_cd 331 490 = (10, 1, 0, 0, 0) := by decide +kernel
theorem c_331_491 : pg_cd 331 491 = (50, 1, 0, 0, 0) := by decide +kernel
theorem c_331_492 : pg_cd 331 492 = (80, 212, 42, 0, 0) := by decide +kernel
theorem c_331_495 : pg_cd 331 495 = (37, 3, 0, 0, 1352) := by decide +kernel
theorem c_331_498 : pg_cd 331 498 = (1, 1, 0, 0, 0) := by decide +kernel
theorem c_331_499 : pg_cd 331 499 = (91, 0, 0, 0, 0) := by decide +kernel
theorem c_331_500 : pg_cd 331 500 = (5, 1, 0, 1, 0) := by decide +kernel
theorem c_331_501 : pg_cd 331 501 = (5, 1, 0, 0, 0) := by decide +kernel
theorem c_331_502 : pg_cd 331 502 = (3, 1, 0, 3, 0) := by decide +kernel
theorem c_331_503 : pg_cd 331 503 = (1, 1, 0, 0, 1) := by decide +kernel
theorem c_331_504 : pg_cd 331 504 = (10, 1, 0, 0, 0) := by decide +kernel
theorem c_331_505 : pg_cd 331 505 = (50, 1, 0, 0, 0) := by decide +kernel
theorem c_331_506 : pg_cd 331 506 = (5, 1, 0, 0, 0) := by decide +kernel
theorem c_331_507 : pg_cd 331 507 = (3, 1, 0, 3, 0) := by decide +kernel
theorem c_331_508 : pg_cd 331 508 = (1, 1, 0, 0, 2) := by decide +kernel
theorem c_331_509 : pg_cd 331 509 = (10, 1, 0, 0, 0) := by decide +kernel
theorem c_331_510 : pg_cd 331 510 = (50, 1, 0, 0, 0) := by decide +kernel
theorem c_331_511 : pg_cd 331 511 = (80, 151, 43, 0, 0) := by decide +kernel
theorem c_331_514 : pg_cd 331 514 = (5, 1, 0, 2, 0) := by decide +kernel
theorem c_331_515 : pg_cd 331 515 = (5, 1, 0, 0, 0) := by decide +kernel
theorem c_331_516 : pg_cd 331 516 = (3, 1, 0, 3, 0) := by decide +kernel
theorem c_331_517 : pg_cd 331 517 = (1, 1, 0, 0, 1) := by decide +kernel
theorem c_331_518 : pg_cd 331 518 = (10, 1, 0, 0, 0) := by decide +kernel
theorem c_331_519 : pg_cd 331 519 = (50, 1, 0, 0, 0) := by decide +kernel
theorem c_331_520 : pg_cd 331 520 = (5, 1, 0, 0, 0) := by decide +kernel
theorem c_331_521 : pg_cd 331 521 = (3, 1, 0, 3, 0) := by decide +kernel
theorem c_331_522 : pg_cd 331 522 = (1, 1, 0, 0, 2) := by decide +kernel
theorem c_331_523 : pg_cd 331 523 = (10, 1, 0, 0, 0) := by decide +kernel
theorem c_331_524 : pg_cd 331 524 = (50, 1, 0, 0, 0) := by decide +kernel
theorem c_331_525 : pg_cd 331 525 = (80, 213, 46, 0, 0) := by decide +kernel
theorem c_331_528 : pg_cd 331 528 = (37, 3, 0, 0, 1319) := by decide +kernel
theorem c_331_531 : pg_cd 331 531 = (1, 1, 0, 0, 0) := by decide +kernel
theorem c_331_532 : pg_cd 331 532 = (91, 0, 0, 0, 0) := by decide +kernel
theorem c_331_533 : pg_cd 331 533 = (5, 1, 0, 1, 0) := by decide +kernel
theorem c_331_534 : pg_cd 331 534 = (5, 1, 0, 0, 0) := by decide +kernel
theorem c_331_535 : pg_cd 331 535 = (3, 1, 0, 3, 0) := by decide +kernel
theorem c_331_536 : pg_cd 331 536 = (1, 1, 0, 0, 1) := by decide +kernel
theorem c_331_537 : pg_cd 331 537 = (10, 1, 0, 0, 0) := by decide +kernel
theorem c_331_538 : pg_cd 331 538 = (50, 1, 0, 0, 0) := by decide +kernel
theorem c_331_539 : pg_cd 331 539 = (5, 1, 0, 0, 0) := by decide +kernel
theorem c_331_540 : pg_cd 331 540 = (3, 1, 0, 3, 0) := by decide +kernel
theorem c_331_541 : pg_cd 331 541 = (1, 1, 0, 0, 2) := by decide +kernel
theorem c_331_542 : pg_cd 331 542 = (10, 1, 0, 0, 0) := by decide +kernel
theorem c_331_543 : pg_cd 331 543 = (50, 1, 0, 0, 0) := by decide +kernel
theorem c_331_544 : pg_cd 331 544 = (5, 1, 0, 0, 0) := by decide +kernel
theorem c_331_545 : pg_cd 331 545 = (3, 1, 0, 3, 0) := by decide +kernel
theorem c_331_546 : pg_cd 331 546 = (1, 1, 0, 0, 3) := by decide +kernel
theorem c_331_547 : pg_cd 331 547 = (10, 1, 0, 0, 0) := by decide +kernel
theorem c_331_548 : pg_cd 331 548 = (50, 1, 0, 0, 0) := by decide +kernel
theorem c_331_549 : pg_cd 331 549 = (80, 152, 47, 0, 0) := by decide +kernel
theorem c_331_552 : pg_cd 331 552 = (5, 1, 0, 2, 0) := by decide +kernel
theorem c_331_553 : pg_cd 331 553 = (5, 1, 0, 0, 0) := by decide +kernel
theorem c_331_554 : pg_cd 331 554 = (3, 1, 0, 3, 0) := by decide +kernel
theorem c_331_555 : pg_cd 331 555 = (1, 1, 0, 0, 1) := by decide +kernel
theorem c_331_556 : pg_cd 331 556 = (10, 1, 0, 0, 0) := by decide +kernel
theorem c_331_557 : pg_cd 331 557 = (50, 1, 0, 0, 0) := by decide +kernel
theorem c_331_558 : pg_cd 331 558 = (5, 1, 0, 0, 0) := by decide +kernel
theorem c_331_559 : pg_cd 331 559 = (3, 1, 0, 3, 0) := by decide +kernel
theorem c_331_560 : pg_cd 331 560 = (1, 1, 0, 0, 2) := by decide +kernel
theorem c_331_561 : pg_cd 331 561 = (10, 1, 0, 0, 0) := by decide +kernel
theorem c_331_562 : pg_cd 331 562 = (50, 1, 0, 0, 0) := by decide +kernel
theorem c_331_563 : pg_cd 331 563 = (5, 1, 0, 0, 0) := by decide +kernel
theorem c_331_564 : pg_cd 331 564 = (3, 1, 0, 3, 0) := by decide +kernel
theorem c_331_565 : pg_cd 331 565 = (1, 1, 0, 0, 3) := by decide +kernel
theorem c_331_566 : pg_cd 331 566 = (10, 1, 0, 0, 0) := by decide +kernel
theorem c_331_567 : pg_cd 331 567 = (50, 1, 0, 0, 0) := by decide +kernel
theorem c_331_568 : pg_cd 331 568 = (80, 214, 50, 0, 0) := by decide +kernel
theorem c_331_571 : pg_cd 331 571 = (37, 3, 0, 0, 1276) := by decide +kernel
theorem c_331_574 : pg_cd 331 574 = (1, 1, 0, 0, 0) := by decide +kernel
theorem c_331_575 : pg_cd 331 575 = (91, 0, 0, 0, 0) := by decide +kernel
theorem c_331_576 : pg_cd 331 576 = (5, 1, 0, 1, 0) := by decide +kernel
theorem c_331_577 : pg_cd 331 577 = (5, 1, 0, 0, 0) := by decide +kernel
theorem c_331_578 : pg_cd 331 578 = (3, 1, 0, 3, 0) := by decide +kernel
theorem c_331_579 : pg_cd 331 579 = (1, 1, 0, 0, 1) := by decide +kernel
theorem c_331_580 : pg_cd 331 580 = (10, 1, 0, 0, 0) := by decide +kernel
theorem c_331_581 : pg_cd 331 581 = (50, 1, 0, 0, 0) := by decide +kernel
theorem c_331_582 : pg_cd 331 582 = (5, 1, 0, 0, 0) := by decide +kernel
theorem c_331_583 : pg_cd 331 583 = (3, 1, 0, 3, 0) := by decide +kernel
theorem c_331_584 : pg_cd 331 584 = (1, 1, 0, 0, 2) := by decide +kernel
theorem c_331_585 : pg_cd 331 585 = (10, 1, 0, 0, 0) := by decide +kernel
theorem c_331_586 : pg_cd 331 586 = (50, 1, 0, 0, 0) := by decide +kernel
theorem c_331_587 : pg_cd 331 587 = (5, 1, 0, 0, 0) := by decide +kernel
theorem c_331_588 : pg_cd 331 588 = (3, 1, 0, 3, 0) := by decide +kernel
theorem c_331_589 : pg_cd 331 589 = (1, 1, 0, 0, 3) := by decide +kernel
theorem c_331_590 : pg_cd 331 590 = (10, 1, 0, 0, 0) := by decide +kernel
theorem c_331_591 : pg_cd 331 591 = (50, 1, 0, 0, 0) := by decide +kernel
theorem c_331_592 : pg_cd 331 592 = (5, 1, 0, 0, 0) := by decide +kernel
theorem c_331_593 : pg_cd 331 593 = (3, 1, 0, 3, 0) := by decide +kernel
theorem c_331_594 : pg_cd 331 594 = (1, 1, 0, 0, 4) := by decide +kernel
theorem c_331_595 : pg_cd 331 595 = (10, 1, 0, 0, 0) := by decide +kernel
theorem c_331_596 : pg_cd 331 596 = (50, 1, 0, 0, 0) := by decide +kernel
theorem c_331_597 : pg_cd 331 597 = (80, 153, 51, 0, 0) := by decide +kernel
theorem c_331_600 : pg_cd 331 600 = (5, 1, 0, 2, 0) := by decide +kernel
theorem c_331_601 : pg_cd 331 601 = (5, 1, 0, 0, 0) := by decide +kernel
theorem c_331_602 : pg_cd 331 602 = (3, 1, 0, 3, 0) := by decide +kernel
theorem c_331_603 : pg_cd 331 603 = (1, 1, 0, 0, 1) := by decide +kernel
theorem c_331_604 : pg_cd 331 604 = (10, 1, 0, 0, 0) := by decide +kernel
theorem c_331_605 : pg_cd 331 605 = (50, 1, 0, 0, 0) := by decide +kernel
theorem c_331_606 : pg_cd 331 606 = (5, 1, 0, 0, 0) := by decide +kernel
theorem c_331_607 : pg_cd 331 607 = (3, 1, 0, 3, 0) := by decide +kernel
theorem c_331_608 : pg_cd 331 608 = (1, 1, 0, 0, 2) := by decide +kernel
theorem c_331_609 : pg_cd 331 609 = (10, 1, 0, 0, 0) := by decide +kernel
theorem c_331_610 : pg_cd 331 610 = (50, 1, 0, 0, 0) := by decide +kernel
theorem c_331_611 : pg_cd 331 611 = (5, 1, 0, 0, 0) := by decide +kernel
theorem c_331_612 : pg_cd 331 612 = (3, 1, 0, 3, 0) := by decide +kernel
theorem c_331_613 : pg_cd 331 613 = (1, 1, 0, 0, 3) := by decide +kernel
theorem c_331_614 : pg_cd 331 614 = (10, 1, 0, 0, 0) := by decide +kernel
theorem c_331_615 : pg_cd 331 615 = (50, 1, 0, 0, 0) := by decide +kernel
theorem c_331_616 : pg_cd 331 616 = (5, 1, 0, 0, 0) := by decide +kernel
theorem c_331_617 : pg_cd 331 617 = (3, 1, 0, 3, 0) := by decide +kernel
theorem c_331_618 : pg_cd 331 618 = (1, 1, 0, 0, 4) := by decide +kernel
theorem c_331_619 : pg_cd 331 619 = (10, 1, 0, 0, 0) := by decide +kernel
theorem c_331_620 : pg_cd 331 620 = (50, 1, 0, 0, 0) := by decide +kernel
theorem c_331_621 : pg_cd 331 621 = (80, 218, 55, 0, 0) := by decide +kernel
theorem c_331_624 : pg_cd 331 624 = (37, 3, 0, 0, 1223) := by decide +kernel
theorem c_331_627 : pg_cd 331 627 = (1, 1, 0, 0, 0) := by decide +kernel
theorem c_331_628 : pg_cd 331 628 = (91, 0, 0, 0, 0) := by decide +kernel
theorem c_331_629 : pg_cd 331 629 = (5, 1, 0, 1, 0) := by decide +kernel
theorem c_331_630 : pg_cd 331 630 = (5, 1, 0, 0, 0) := by decide +kernel
theorem c_331_631 : pg_cd 331 631 = (3, 1, 0, 3, 0) := by decide +kernel
theorem c_331_632 : pg_cd 331 632 = (1, 1, 0, 0, 1) := by decide +kernel
theorem c_331_633 : pg_cd 331 633 = (10, 1, 0, 0, 0) := by decide +kernel
theorem c_331_634 : pg_cd 331 634 = (50, 1, 0, 0, 0) := by decide +kernel
theorem c_331_635 : pg_cd 331 635 = (5, 1, 0, 0, 0) := by decide +kernel
theorem c_331_636 : pg_cd 331 636 = (3, 1, 0, 3, 0) := by decide +kernel
theorem c_331_637 : pg_cd 331 637 = (1, 1, 0, 0, 2) := by decide +kernel
theorem c_331_638 : pg_cd 331 638 = (10, 1, 0, 0, 0) := by decide +kernel
theorem c_331_639 : pg_cd 331 639 = (50, 1, 0, 0, 0) := by decide +kernel
theorem c_331_640 : pg_cd 331 640 = (5, 1, 0, 0, 0) := by decide +kernel
theorem c_331_641 : pg_cd 331 641 = (3, 1, 0, 3, 0) := by decide +kernel
theorem c_331_642 : pg_cd 331 642 = (1, 1, 0, 0, 3) := by decide +kernel
theorem c_331_643 : pg_cd 331 643 = (10, 1, 0, 0, 0) := by decide +kernel
theorem c_331_644 : pg_cd 331 644 = (50, 1, 0, 0, 0) := by decide +kernel
theorem c_331_645 : pg_cd 331 645 = (5, 1, 0, 0, 0) := by decide +kernel
theorem c_331_646 : pg_cd 331 646 = (3, 1, 0, 3, 0) := by decide +kernel
theorem c_331_647 : pg_cd 331 647 = (1, 1, 0, 0, 4) := by decide +kernel
theorem c_331_648 : pg_cd 331 648 = (10, 1, 0, 0, 0) := by decide +kernel
theorem c_331_649 : pg_cd 331 649 = (50, 1, 0, 0, 0) := by decide +kernel
theorem c_331_650 : pg_cd 331 650 = (5, 1, 0, 0, 0) := by decide +kernel
theorem c_331_651 : pg_cd 331 651 = (3, 1, 0, 3, 0) := by decide +kernel
theorem c_331_652 : pg_cd 331 652 = (1, 1, 0, 0, 5) := by decide +kernel
theorem c_331_653 : pg_cd 331 653 = (10, 1, 0, 0, 0) := by decide +kernel
theorem c_331_654 : pg_cd 331 654 = (50, 1, 0, 0, 0) := by decide +kernel
theorem c_331_655 : pg_cd 331 655 = (80, 156, 56, 0, 0) := by decide +kernel
theorem c_331_658 : pg_cd 331 658 = (5, 1, 0, 2, 0) := by decide +kernel
theorem c_331_659 : pg_cd 331 659 = (5, 1, 0, 0, 0) := by decide +kernel
theorem c_331_660 : pg_cd 331 660 = (3, 1, 0, 3, 0) := by decide +kernel
theorem c_331_661 : pg_cd 331 661 = (1, 1, 0, 0, 1) := by decide +kernel
theorem c_331_662 : pg_cd 331 662 = (10, 1, 0, 0, 0) := by decide +kernel
theorem c_331_663 : pg_cd 331 663 = (50, 1, 0, 0, 0) := by decide +kernel
theorem c_331_664 : pg_cd 331 664 = (5, 1, 0, 0, 0) := by decide +kernel
theorem c_331_665 : pg_cd 331 665 = (3, 1, 0, 3, 0) := by decide +kernel
theorem c_331_666 : pg_cd 331 666 = (1, 1, 0, 0, 2) := by decide +kernel
theorem c_331_667 : pg_cd 331 667 = (10, 1, 0, 0, 0) := by decide +kernel
theorem c_331_668 : pg_cd 331 668 = (50, 1, 0, 0, 0) := by decide +kernel
theorem c_331_669 : pg_cd 331 669 = (5, 1, 0, 0, 0) := by decide +kernel
theorem c_331_670 : pg_cd 331 670 = (3, 1, 0, 3, 0) := by decide +kernel
theorem c_331_671 : pg_cd 331 671 = (1, 1, 0, 0, 3) := by decide +kernel
theorem c_331_672 : pg_cd 331 672 = (10, 1, 0, 0, 0) := by decide +kernel
theorem c_331_673 : pg_cd 331 673 = (50, 1, 0, 0, 0) := by decide +kernel
theorem c_331_674 : pg_cd 331 674 = (5, 1, 0, 0, 0) := by decide +kernel
theorem c_331_675 : pg_cd 331 675 = (3, 1, 0, 3, 0) := by decide +kernel
theorem c_331_676 : pg_cd 331 676 = (1, 1, 0, 0, 4) := by decide +kernel
theorem c_331_677 : pg_cd 331 677 = (10, 1, 0, 0, 0) := by decide +kernel
theorem c_331_678 : pg_cd 331 678 = (50, 1, 0, 0, 0) := by decide +kernel
theorem c_331_679 : pg_cd 331 679 = (5, 1, 0, 0, 0) := by decide +kernel
theorem c_331_680 : pg_cd 331 680 = (3, 1, 0, 3, 0) := by decide +kernel
theorem c_331_681 : pg_cd 331 681 = (1, 1, 0, 0, 5) := by decide +kernel
theorem c_331_682 : pg_cd 331 682 = (10, 1, 0, 0, 0) := by decide +kernel
theorem c_331_683 : pg_cd 331 683 = (50, 1, 0, 0, 0) := by decide +kernel
theorem c_331_684 : pg_cd 331 684 = (80, 226, 60, 0, 0) := by decide +kernel
theorem c_331_687 : pg_cd 331 687 = (37, 3, 0, 0, 1160) := by decide +kernel
theorem c_331_690 : pg_cd 331 690 = (1, 1, 0, 0, 0) := by decide +kernel
theorem c_331_691 : pg_cd 331 691 = (91, 0, 0, 0, 0) := by decide +kernel
theorem c_331_692 : pg_cd 331 692 = (5, 1, 0, 1, 0) := by decide +kernel
theorem c_331_693 : pg_cd 331 693 = (5, 1, 0, 0, 0) := by decide +kernel
theorem c_331_694 : pg_cd 331 694 = (3, 1, 0, 3, 0) := by decide +kernel
theorem c_331_695 : pg_cd 331 695 = (1, 1, 0, 0, 1) := by decide +kernel
theorem c_331_696 : pg_cd 331 696 = (10, 1, 0, 0, 0) := by decide +kernel
theorem c_331_697 : pg_cd 331 697 = (50, 1, 0, 0, 0) := by decide +kernel
theorem c_331_698 : pg_cd 331 698 = (80, 158, 61, 0, 0) := by decide +kernel
theorem c_331_701 : pg_cd 331 701 = (5, 1, 0, 2, 0) := by decide +kernel
theorem c_331_702 : pg_cd 331 702 = (5, 1, 0, 0, 0) := by decide +kernel
theorem c_331_703 : pg_cd 331 703 = (3, 1, 0, 3, 0) := by decide +kernel
theorem c_331_704 : pg_cd 331 704 = (1, 1, 0, 0, 1) := by decide +kernel
theorem c_331_705 : pg_cd 331 705 = (10, 1, 0, 0, 0) := by decide +kernel
theorem c_331_706 : pg_cd 331 706 = (50, 1, 0, 0, 0) := by decide +kernel
theorem c_331_707 : pg_cd 331 707 = (80, 227, 65, 0, 0) := by decide +kernel
theorem c_331_710 : pg_cd 331 710 = (37, 3, 0, 0, 1137) := by decide +kernel
theorem c_331_713 : pg_cd 331 713 = (1, 1, 0, 0, 0) := by decide +kernel
theorem c_331_714 : pg_cd 331 714 = (91, 0, 0, 0, 0) := by decide +kernel
theorem c_331_715 : pg_cd 331 715 = (5, 1, 0, 1, 0) := by decide +kernel
theorem c_331_716 : pg_cd 331 716 = (80, 159, 66, 0, 0) := by decide +kernel
theorem c_331_719 : pg_cd 331 719 = (5, 1, 0, 2, 0) := by decide +kernel
theorem c_331_720 : pg_cd 331 720 = (80, 259, 70, 0, 0) := by decide +kernel
theorem c_331_723 : pg_cd 331 723 = (37, 3, 0, 0, 1124) := by decide +kernel
theorem c_331_726 : pg_cd 331 726 = (1, 1, 0, 0, 0) := by decide +kernel
theorem c_331_727 : pg_cd 331 727 = (91, 0, 0, 0, 0) := by decide +kernel
theorem c_331_728 : pg_cd 331 728 = (5, 1, 0, 1, 0) := by decide +kernel
theorem c_331_729 : pg_cd 331 729 = (5, 1, 0, 0, 0) := by decide +kernel
theorem c_331_730 : pg_cd 331 730 = (3, 1, 0, 3, 0) := by decide +kernel
theorem c_331_731 : pg_cd 331 731 = (1, 1, 0, 0, 1) := by decide +kernel
theorem c_331_732 : pg_cd 331 732 = (10, 1, 0, 0, 0) := by decide +kernel
theorem c_331_733 : pg_cd 331 733 = (50, 1, 0, 0, 0) := by decide +kernel
theorem c_331_734 : pg_cd 331 734 = (80, 160, 71, 0, 0) := by decide +kernel
theorem c_331_737 : pg_cd 331 737 = (5, 1, 0, 2, 0) := by decide +kernel
theorem c_331_738 : pg_cd 331 738 = (5, 1, 0, 0, 0) := by decide +kernel
theorem c_331_739 : pg_cd 331 739 = (3, 1, 0, 3, 0) := by decide +kernel
theorem c_331_740 : pg_cd 331 740 = (1, 1, 0, 0, 1) := by decide +kernel
theorem c_331_741 : pg_cd 331 741 = (10, 1, 0, 0, 0) := by decide +kernel
theorem c_331_742 : pg_cd 331 742 = (50, 1, 0, 0, 0) := by decide +kernel
theorem c_331_743 : pg_cd 331 743 = (80, 260, 74, 0, 0) := by decide +kernel
theorem c_331_746 : pg_cd 331 746 = (37, 3, 0, 0, 1101) := by decide +kernel
theorem c_331_749 : pg_cd 331 749 = (1, 1, 0, 0, 0) := by decide +kernel
theorem c_331_750 : pg_cd 331 750 = (91, 0, 0, 0, 0) := by decide +kernel
theorem c_331_751 : pg_cd 331 751 = (5, 1, 0, 1, 0) := by decide +kernel
theorem c_331_752 : pg_cd 331 752 = (5, 1, 0, 0, 0) := by decide +kernel
theorem c_331_753 : pg_cd 331 753 = (3, 1, 0, 3, 0) := by decide +kernel
theorem c_331_754 : pg_cd 331 754 = (1, 1, 0, 0, 1) := by decide +kernel
theorem c_331_755 : pg_cd 331 755 = (10, 1, 0, 0, 0) := by decide +kernel
theorem c_331_756 : pg_cd 331 756 = (50, 1, 0, 0, 0) := by decide +kernel
theorem c_331_757 : pg_cd 331 757 = (5, 1, 0, 0, 0) := by decide +kernel
theorem c_331_758 : pg_cd 331 758 = (3, 1, 0, 3, 0) := by decide +kernel
theorem c_331_759 : pg_cd 331 759 = (1, 1, 0, 0, 2) := by decide +kernel
theorem c_331_760 : pg_cd 331 760 = (10, 1, 0, 0, 0) := by decide +kernel
theorem c_331_761 : pg_cd 331 761 = (50, 1, 0, 0, 0) := by decide +kernel
theorem c_331_762 : pg_cd 331 762 = (5, 1, 0, 0, 0) := by decide +kernel
theorem c_331_763 : pg_cd 331 763 = (3, 1, 0, 3, 0) := by decide +kernel
theorem c_331_764 : pg_cd 331 764 = (1, 1, 0, 0, 3) := by decide +kernel
theorem c_331_765 : pg_cd 331 765 = (10, 1, 0, 0, 0) := by decide +kernel
theorem c_331_766 : pg_cd 331 766 = (50, 1, 0, 0, 0) := by decide +kernel
theorem c_331_767 : pg_cd 331 767 = (5, 1, 0, 0, 0) := by decide +kernel
theorem c_331_768 : pg_cd 331 768 = (3, 1, 0, 3, 0) := by decide +kernel
theorem c_331_769 : pg_cd 331 769 = (1, 1, 0, 0, 4) := by decide +kernel
theorem c_331_770 : pg_cd 331 770 = (10, 1, 0, 0, 0) := by decide +kernel
theorem c_331_771 : pg_cd 331 771 = (50, 1, 0, 0, 0) := by decide +kernel
theorem c_331_772 : pg_cd 331 772 = (80, 161, 75, 0, 0) := by decide +kernel
theorem c_331_775 : pg_cd 331 775 = (5, 1, 0, 2, 0) := by decide +kernel
theorem c_331_776 : pg_cd 331 776 = (5, 1, 0, 0, 0) := by decide +kernel
theorem c_331_777 : pg_cd 331 777 = (3, 1, 0, 3, 0) := by decide +kernel
theorem c_331_778 : pg_cd 331 778 = (1, 1, 0, 0, 1) := by decide +kernel
theorem c_331_779 : pg_cd 331 779 = (10, 1, 0, 0, 0) := by decide +kernel
theorem c_331_780 : pg_cd 331 780 = (50, 1, 0, 0, 0) := by decide +kernel
theorem c_331_781 : pg_cd 331 781 = (5, 1, 0, 0, 0) := by decide +kernel
theorem c_331_782 : pg_cd 331 782 = (3, 1, 0, 3, 0) := by decide +kernel
theorem c_331_783 : pg_cd 331 783 = (1, 1, 0, 0, 2) := by decide +kernel
theorem c_331_784 : pg_cd 331 784 = (10, 1, 0, 0, 0) := by decide +kernel
theorem c_331_785 : pg_cd 331 785 = (50, 1, 0, 0, 0) := by decide +kernel
theorem c_331_786 : pg_cd 331 786 = (5, 1, 0, 0, 0) := by decide +kernel
theorem c_331_787 : pg_cd 331 787 = (3, 1, 0, 3, 0) := by decide +kernel
theorem c_331_788 : pg_cd 331 788 = (1, 1, 0, 0, 3) := by decide +kernel
theorem c_331_789 : pg_cd 331 789 = (10, 1, 0, 0, 0) := by decide +kernel
theorem c_331_790 : pg_cd 331 790 = (50, 1, 0, 0, 0) := by decide +kernel
theorem c_331_791 : pg_cd 331 791 = (5, 1, 0, 0, 0) := by decide +kernel
theorem c_331_792 : pg_cd 331 792 = (3, 1, 0, 3, 0) := by decide +kernel
theorem c_331_793 : pg_cd 331 793 = (1, 1, 0, 0, 4) := by decide +kernel
theorem c_331_794 : pg_cd 331 794 = (10, 1, 0, 0, 0) := by decide +kernel
theorem c_331_795 : pg_cd 331 795 = (50, 1, 0, 0, 0) := by decide +kernel
theorem c_331_796 : pg_cd 331 796 = (80, 219, 78, 0, 0) := by decide +kernel
theorem c_331_799 : pg_cd 331 799 = (37, 3, 0, 0, 1048) := by decide +kernel
theorem c_331_802 : pg_cd 331 802 = (1, 1, 0, 0, 0) := by decide +kernel
theorem c_331_803 : pg_cd 331 803 = (91, 0, 0, 0, 0) := by decide +kernel
theorem c_331_804 : pg_cd 331 804 = (5, 1, 0, 1, 0) := by decide +kernel
theorem c_331_805 : pg_cd 331 805 = (5, 1, 0, 0, 0) := by decide +kernel
theorem c_331_806 : pg_cd 331 806 = (3, 1, 0, 3, 0) := by decide +kernel
theorem c_331_807 : pg_cd 331 807 = (1, 1, 0, 0, 1) := by decide +kernel
theorem c_331_808 : pg_cd 331 808 = (10, 1, 0, 0, 0) := by decide +kernel
theorem c_331_809 : pg_cd 331 809 = (50, 1, 0, 0, 0) := by decide +kernel
theorem c_331_810 : pg_cd 331 810 = (5, 1, 0, 0, 0) := by decide +kernel
theorem c_331_811 : pg_cd 331 811 = (3, 1, 0, 3, 0) := by decide +kernel
theorem c_331_812 : pg_cd 331 812 = (1, 1, 0, 0, 2) := by decide +kernel
theorem c_331_813 : pg_cd 331 813 = (10, 1, 0, 0, 0) := by decide +kernel
theorem c_331_814 : pg_cd 331 814 = (50, 1, 0, 0, 0) := by decide +kernel
theorem c_331_815 : pg_cd 331 815 = (5, 1, 0, 0, 0) := by decide +kernel
theorem c_331_816 : pg_cd 331 816 = (3, 1, 0, 3, 0) := by decide +kernel
theorem c_331_817 : pg_cd 331 817 = (1, 1, 0, 0, 3) := by decide +kernel
theorem c_331_818 : pg_cd 331 818 = (10, 1, 0, 0, 0) := by decide +kernel
theorem c_331_819 : pg_cd 331 819 = (50, 1, 0, 0, 0) := by decide +kernel
theorem c_331_820 : pg_cd 331 820 = (5, 1, 0, 0, 0) := by decide +kernel
theorem c_331_821 : pg_cd 331 821 = (3, 1, 0, 3, 0) := by decide +kernel
theorem c_331_822 : pg_cd 331 822 = (1, 1, 0, 0, 4) := by decide +kernel
theorem c_331_823 : pg_cd 331 823 = (10, 1, 0, 0, 0) := by decide +kernel
theorem c_331_824 : pg_cd 331 824 = (50, 1, 0, 0, 0) := by decide +kernel
theorem c_331_825 : pg_cd 331 825 = (80, 163, 79, 0, 0) := by decide +kernel
theorem c_331_828 : pg_cd 331 828 = (5, 1, 0, 2, 0) := by decide +kernel
theorem c_331_829 : pg_cd 331 829 = (5, 1, 0, 0, 0) := by decide +kernel
theorem c_331_830 : pg_cd 331 830 = (3, 1, 0, 3, 0) := by decide +kernel
theorem c_331_831 : pg_cd 331 831 = (1, 1, 0, 0, 1) := by decide +kernel
theorem c_331_832 : pg_cd 331 832 = (10, 1, 0, 0, 0) := by decide +kernel
theorem c_331_833 : pg_cd 331 833 = (50, 1, 0, 0, 0) := by decide +kernel
theorem c_331_834 : pg_cd 331 834 = (5, 1, 0, 0, 0) := by decide +kernel
theorem c_331_835 : pg_cd 331 835 = (3, 1, 0, 3, 0) := by decide +kernel
theorem c_331_836 : pg_cd 331 836 = (1, 1, 0, 0, 2) := by decide +kernel
theorem c_331_837 : pg_cd 331 837 = (10, 1, 0, 0, 0) := by decide +kernel
theorem c_331_838 : pg_cd 331 838 = (50, 1, 0, 0, 0) := by decide +kernel
theorem c_331_839 : pg_cd 331 839 = (5, 1, 0, 0, 0) := by decide +kernel
theorem c_331_840 : pg_cd 331 840 = (3, 1, 0, 3, 0) := by decide +kernel
theorem c_331_841 : pg_cd 331 841 = (1, 1, 0, 0, 3) := by decide +kernel
theorem c_331_842 : pg_cd 331 842 = (10, 1, 0, 0, 0) := by decide +kernel
theorem c_331_843 : pg_cd 331 843 = (50, 1, 0, 0, 0) := by decide +kernel
theorem c_331_844 : pg_cd 331 844 = (5, 1, 0, 0, 0) := by decide +kernel
theorem c_331_845 : pg_cd 331 845 = (3, 1, 0, 3, 0) := by decide +kernel
theorem c_331_846 : pg_cd 331 846 = (1, 1, 0, 0, 4) := by decide +kernel
theorem c_331_847 : pg_cd 331 847 = (10, 1, 0, 0, 0) := by decide +kernel
theorem c_331_848 : pg_cd 331 848 = (50, 1, 0, 0, 0) := by decide +kernel
theorem c_331_849 : pg_cd 331 849 = (80, 273, 82, 0, 0) := by decide +kernel
theorem c_331_852 : pg_cd 331 852 = (37, 3, 0, 0, 995) := by decide +kernel
theorem c_331_855 : pg_cd 331 855 = (1, 1, 0, 0, 0) := by decide +kernel
theorem c_331_856 : pg_cd 331 856 = (91, 0, 0, 0, 0) := by decide +kernel
theorem c_331_857 : pg_cd 331 857 = (5, 1, 0, 1, 0) := by decide +kernel
theorem c_331_858 : pg_cd 331 858 = (5, 1, 0, 0, 0) := by decide +kernel
theorem c_331_859 : pg_cd 331 859 = (3, 1, 0, 3, 0) := by decide +kernel
theorem c_331_860 : pg_cd 331 860 = (1, 1, 0, 0, 1) := by decide +kernel
theorem c_331_861 : pg_cd 331 861 = (10, 1, 0, 0, 0) := by decide +kernel
theorem c_331_862 : pg_cd 331 862 = (50, 1, 0, 0, 0) := by decide +kernel
theorem c_331_863 : pg_cd 331 863 = (5, 1, 0, 0, 0) := by decide +kernel
theorem c_331_864 : pg_cd 331 864 = (3, 1, 0, 3, 0) := by decide +kernel
theorem c_331_865 : pg_cd 331 865 = (1, 1, 0, 0, 2) := by decide +kernel
theorem c_331_866 : pg_cd 331 866 = (10, 1, 0, 0, 0) := by decide +kernel
theorem c_331_867 : pg_cd 331 867 = (50, 1, 0, 0, 0) := by decide +kernel
theorem c_331_868 : pg_cd 331 868 = (5, 1, 0, 0, 0) := by decide +kernel
theorem c_331_869 : pg_cd 331 869 = (3, 1, 0, 3, 0) := by decide +kernel
theorem c_331_870 : pg_cd 331 870 = (1, 1, 0, 0, 3) := by decide +kernel
theorem c_331_871 : pg_cd 331 871 = (10, 1, 0, 0, 0) := by decide +kernel
theorem c_331_872 : pg_cd 331 872 = (50, 1, 0, 0, 0) := by decide +kernel
theorem c_331_873 : pg_cd 331 873 = (5, 1, 0, 0, 0) := by decide +kernel
theorem c_331_874 : pg_cd 331 874 = (3, 1, 0, 3, 0) := by decide +kernel
theorem c_331_875 : pg_cd 331 875 = (1, 1, 0, 0, 4) := by decide +kernel
theorem c_331_876 : pg_cd 331 876 = (10, 1, 0, 0, 0) := by decide +kernel
theorem c_331_877 : pg_cd 331 877 = (50, 1, 0, 0, 0) := by decide +kernel
theorem c_331_878 : pg_cd 331 878 = (5, 1, 0, 0, 0) := by decide +kernel
theorem c_331_879 : pg_cd 331 879 = (3, 1, 0, 3, 0) := by decide +kernel
theorem c_331_880 : pg_cd 331 880 = (1, 1, 0, 0, 5) := by decide +kernel
theorem c_331_881 : pg_cd 331 881 = (10, 1, 0, 0, 0) := by decide +kernel
theorem c_331_882 : pg_cd 331 882 = (50, 1, 0, 0, 0) := by decide +kernel
theorem c_331_883 : pg_cd 331 883 = (80, 164, 83, 0, 0) := by decide +kernel
theorem c_331_886 : pg_cd 331 886 = (5, 1, 0, 2, 0) := by decide +kernel
theorem c_331_887 : pg_cd 331 887 = (5, 1, 0, 0, 0) := by decide +kernel
theorem c_331_888 : pg_cd 331 888 = (3, 1, 0, 3, 0) := by decide +kernel
theorem c_331_889 : pg_cd 331 889 = (1, 1, 0, 0, 1) := by decide +kernel
theorem c_331_890 : pg_cd 331 890 = (10, 1, 0, 0, 0) := by decide +kernel
theorem c_331_891 : pg_cd 331 891 = (50, 1, 0, 0, 0) := by decide +kernel
theorem c_331_892 : pg_cd 331 892 = (5, 1, 0, 0, 0) := by decide +kernel
theorem c_331_893 : pg_cd 331 893 = (3, 1, 0, 3, 0) := by decide +kernel
theorem c_331_894 : pg_cd 331 894 = (1, 1, 0, 0, 2) := by decide +kernel
theorem c_331_895 : pg_cd 331 895 = (10, 1, 0, 0, 0) := by decide +kernel
theorem c_331_896 : pg_cd 331 896 = (50, 1, 0, 0, 0) := by decide +kernel
theorem c_331_897 : pg_cd 331 897 = (5, 1, 0, 0, 0) := by decide +kernel
theorem c_331_898 : pg_cd 331 898 = (3, 1, 0, 3, 0) := by decide +kernel
theorem c_331_899 : pg_cd 331 899 = (1, 1, 0, 0, 3) := by decide +kernel
theorem c_331_900 : pg_cd 331 900 = (10, 1, 0, 0, 0) := by decide +kernel
theorem c_331_901 : pg_cd 331 901 = (50, 1, 0, 0, 0) := by decide +kernel
theorem c_331_902 : pg_cd 331 902 = (5, 1, 0, 0, 0) := by decide +kernel
theorem c_331_903 : pg_cd 331 903 = (3, 1, 0, 3, 0) := by decide +kernel
theorem c_331_904 : pg_cd 331 904 = (1, 1, 0, 0, 4) := by decide +kernel
theorem c_331_905 : pg_cd 331 905 = (10, 1, 0, 0, 0) := by decide +kernel
theorem c_331_906 : pg_cd 331 906 = (50, 1, 0, 0, 0) := by decide +kernel
theorem c_331_907 : pg_cd 331 907 = (5, 1, 0, 0, 0) := by decide +kernel
theorem c_331_908 : pg_cd 331 908 = (3, 1, 0, 3, 0) := by decide +kernel
theorem c_331_909 : pg_cd 331 909 = (1, 1, 0, 0, 5) := by decide +kernel
theorem c_331_910 : pg_cd 331 910 = (10, 1, 0, 0, 0) := by decide +kernel
theorem c_331_911 : pg_cd 331 911 = (50, 1, 0, 0, 0) := by decide +kernel
theorem c_331_912 : pg_cd 331 912 = (80, 274, 86, 0, 0) := by decide +kernel
theorem c_331_915 : pg_cd 331 915 = (37, 3, 0, 0, 932) := by decide +kernel
theorem c_331_918 : pg_cd 331 918 = (1, 1, 0, 0, 0) := by decide +kernel
theorem c_331_919 : pg_cd 331 919 = (91, 0, 0, 0, 0) := by decide +kernel
theorem c_331_920 : pg_cd 331 920 = (5, 1, 0, 1, 0) := by decide +kernel
theorem c_331_921 : pg_cd 331 921 = (5, 1, 0, 0, 0) := by decide +kernel
theorem c_331_922 : pg_cd 331 922 = (3, 1, 0, 3, 0) := by decide +kernel
theorem c_331_923 : pg_cd 331 923 = (1, 1, 0, 0, 1) := by decide +kernel
theorem c_331_924 : pg_cd 331 924 = (10, 1, 0, 0, 0) := by decide +kernel
theorem c_331_925 : pg_cd 331 925 = (50, 1, 0, 0, 0) := by decide +kernel
theorem c_331_926 : pg_cd 331 926 = (5, 1, 0, 0, 0) := by decide +kernel
theorem c_331_927 : pg_cd 331 927 = (3, 1, 0, 3, 0) := by decide +kernel
theorem c_331_928 : pg_cd 331 928 = (1, 1, 0, 0, 2) := by decide +kernel
theorem c_331_929 : pg_cd 331 929 = (10, 1, 0, 0, 0) := by decide +kernel
theorem c_331_930 : pg_cd 331 930 = (50, 1, 0, 0, 0) := by decide +kernel
theorem c_331_931 : pg_cd 331 931 = (5, 1, 0, 0, 0) := by decide +kernel
theorem c_331_932 : pg_cd 331 932 = (3, 1, 0, 3, 0) := by decide +kernel
theorem c_331_933 : pg_cd 331 933 = (1, 1, 0, 0, 3) := by decide +kernel
theorem c_331_934 : pg_cd 331 934 = (10, 1, 0, 0, 0) := by decide +kernel
theorem c_331_935 : pg_cd 331 935 = (50, 1, 0, 0, 0) := by decide +kernel
theorem c_331_936 : pg_cd 331 936 = (5, 1, 0, 0, 0) := by decide +kernel
theorem c_331_937 : pg_cd 331 937 = (3, 1, 0, 3, 0) := by decide +kernel
theorem c_331_938 : pg_cd 331 938 = (1, 1, 0, 0, 4) := by decide +kernel
theorem c_331_939 : pg_cd 331 939 = (10, 1, 0, 0, 0) := by decide +kernel
theorem c_331_940 : pg_cd 331 940 = (50, 1, 0, 0, 0) := by decide +kernel
theorem c_331_941 : pg_cd 331 941 = (80, 165, 87, 0, 0) := by decide +kernel
theorem c_331_944 : pg_cd 331 944 = (5, 1, 0, 2, 0) := by decide +kernel
theorem c_331_945 : pg_cd 331 945 = (5, 1, 0, 0, 0) := by decide +kernel
theorem c_331_946 : pg_cd 331 946 = (3, 1, 0, 3, 0) := by decide +kernel
theorem c_331_947 : pg_cd 331 947 = (1, 1, 0, 0, 1) := by decide +kernel
theorem c_331_948 : pg_cd 331 948 = (10, 1, 0, 0, 0) := by decide +kernel
theorem c_331_949 : pg_cd 331 949 = (50, 1, 0, 0, 0) := by decide +kernel
theorem c_331_950 : pg_cd 331 950 = (5, 1, 0, 0, 0) := by decide +kernel
theorem c_331_951 : pg_cd 331 951 = (3, 1, 0, 3, 0) := by decide +kernel
theorem c_331_952 : pg_cd 331 952 = (1, 1, 0, 0, 2) := by decide +kernel
theorem c_331_953 : pg_cd 331 953 = (10, 1, 0, 0, 0) := by decide +kernel
theorem c_331_954 : pg_cd 331 954 = (50, 1, 0, 0, 0) := by decide +kernel
theorem c_331_955 : pg_cd 331 955 = (5, 1, 0, 0, 0) := by decide +kernel
theorem c_331_956 : pg_cd 331 956 = (3, 1, 0, 3, 0) := by decide +kernel
theorem c_331_957 : pg_cd 331 957 = (1, 1, 0, 0, 3) := by decide +kernel
theorem c_331_958 : pg_cd 331 958 = (10, 1, 0, 0, 0) := by decide +kernel
theorem c_331_959 : pg_cd 331 959 = (50, 1, 0, 0, 0) := by decide +kernel
theorem c_331_960 : pg_cd 331 960 = (5, 1, 0, 0, 0) := by decide +kernel
theorem c_331_961 : pg_cd 331 961 = (3, 1, 0, 3, 0) := by decide +kernel
theorem c_331_962 : pg_cd 331 962 = (1, 1, 0, 0, 4) := by decide +kernel
theorem c_331_963 : pg_cd 331 963 = (10, 1, 0, 0, 0) := by decide +kernel
theorem c_331_964 : pg_cd 331 964 = (50, 1, 0, 0, 0) := by decide +kernel
theorem c_331_965 : pg_cd 331 965 = (80, 277, 90, 0, 0) := by decide +kernel
theorem c_331_968 : pg_cd 331 968 = (37, 3, 0, 0, 879) := by decide +kernel
theorem c_331_971 : pg_cd 331 971 = (1, 1, 0, 0, 0) := by decide +kernel
theorem c_331_972 : pg_cd 331 972 = (91, 0, 0, 0, 0) := by decide +kernel
theorem c_331_973 : pg_cd 331 973 = (5, 1, 0, 1, 0) := by decide +kernel
theorem c_331_974 : pg_cd 331 974 = (5, 1, 0, 0, 0) := by decide +kernel
theorem c_331_975 : pg_cd 331 975 = (3, 1, 0, 3, 0) := by decide +kernel
theorem c_331_976 : pg_cd 331 976 = (1, 1, 0, 0, 1) := by decide +kernel
theorem c_331_977 : pg_cd 331 977 = (10, 1, 0, 0, 0) := by decide +kernel
theorem c_331_978 : pg_cd 331 978 = (50, 1, 0, 0, 0) := by decide +kernel
theorem c_331_979 : pg_cd 331 979 = (5, 1, 0, 0, 0) := by decide +kernel
theorem c_331_980 : pg_cd 331 980 = (3, 1, 0, 3, 0) := by decide +kernel
theorem c_331_981 : pg_cd 331 981 = (1, 1, 0, 0, 2) := by decide +kernel
theorem c_331_982 : pg_cd 331 982 = (10, 1, 0, 0, 0) := by decide +kernel
theorem c_331_983 : pg_cd 331 983 = (50, 1, 0, 0, 0) := by decide +kernel
theorem c_331_984 : pg_cd 331 984 = (5, 1, 0, 0, 0) := by decide +kernel
theorem c_331_985 : pg_cd 331 985 = (3, 1, 0, 3, 0) := by decide +kernel
theorem c_331_986 : pg_cd 331 986 = (1, 1, 0, 0, 3) := by decide +kernel
theorem c_331_987 : pg_cd 331 987 = (10, 1, 0, 0, 0) := by decide +kernel
theorem c_331_988 : pg_cd 331 988 = (50, 1, 0, 0, 0) := by decide +kernel
theorem c_331_989 : pg_cd 331 989 = (5, 1, 0, 0, 0) := by decide +kernel
theorem c_331_990 : pg_cd 331 990 = (3, 1, 0, 3, 0) := by decide +kernel
theorem c_331_991 : pg_cd 331 991 = (1, 1, 0, 0, 4) := by decide +kernel
theorem c_331_992 : pg_cd 331 992 = (10, 1, 0, 0, 0) := by decide +kernel
theorem c_331_993 : pg_cd 331 993 = (50, 1, 0, 0, 0) := by decide +kernel
theorem c_331_994 : pg_cd 331 994 = (5, 1, 0, 0, 0) := by decide +kernel
theorem c_331_995 : pg_cd 331 995 = (3, 1, 0, 3, 0) := by decide +kernel
theorem c_331_996 : pg_cd 331 996 = (1, 1, 0, 0, 5) := by decide +kernel
theorem c_331_997 : pg_cd 331 997 = (10, 1, 0, 0, 0) := by decide +kernel
theorem c_331_998 : pg_cd 331 998 = (50, 1, 0, 0, 0) := by decide +kernel
theorem c_331_999 : pg_cd 331 999 = (80, 166, 91, 0, 0) := by decide +kernel
theorem c_331_1002 : pg_cd 331 1002 = (5, 1, 0, 2, 0) := by decide +kernel
theorem c_331_1003 : pg_cd 331 1003 = (5, 1, 0, 0, 0) := by decide +kernel
theorem c_331_1004 : pg_cd 331 1004 = (3, 1, 0, 3, 0) := by decide +kernel
theorem c_331_1005 : pg_cd 331 1005 = (1, 1, 0, 0, 1) := by decide +kernel
theorem c_331_1006 : pg_cd 331 1006 = (10, 1, 0, 0, 0) := by decide +kernel
theorem c_331_1007 : pg_cd 331 1007 = (50, 1, 0, 0, 0) := by decide +kernel
theorem c_331_1008 : pg_cd 331 1008 = (5, 1, 0, 0, 0) := by decide +kernel
theorem c_331_1009 : pg_cd 331 1009 = (3, 1, 0, 3, 0) := by decide +kernel
theorem c_331_1010 : pg_cd 331 1010 = (1, 1, 0, 0, 2) := by decide +kernel
theorem c_331_1011 : pg_cd 331 1011 = (10, 1, 0, 0, 0) := by decide +kernel
theorem c_331_1012 : pg_cd 331 1012 = (50, 1, 0, 0, 0) := by decide +kernel
theorem c_331_1013 : pg_cd 331 1013 = (5, 1, 0, 0, 0) := by decide +kernel
theorem c_331_1014 : pg_cd 331 1014 = (3, 1, 0, 3, 0) := by decide +kernel
theorem c_331_1015 : pg_cd 331 1015 = (1, 1, 0, 0, 3) := by decide +kernel
theorem c_331_1016 : pg_cd 331 1016 = (10, 1, 0, 0, 0) := by decide +kernel
theorem c_331_1017 : pg_cd 331 1017 = (50, 1, 0, 0, 0) := by decide +kernel
theorem c_331_1018 : pg_cd 331 1018 = (5, 1, 0, 0, 0) := by decide +kernel
theorem c_331_1019 : pg_cd 331 1019 = (3, 1, 0, 3, 0) := by decide +kernel
theorem c_331_1020 : pg_cd 331 1020 = (1, 1, 0, 0, 4) := by decide +kernel
theorem c_331_1021 : pg_cd 331 1021 = (10, 1, 0, 0, 0) := by decide +kernel
theorem c_331_1022 : pg_cd 331 1022 = (50, 1, 0, 0, 0) := by decide +kernel
theorem c_331_1023 : pg_cd 331 1023 = (5, 1, 0, 0, 0) := by decide +kernel
theorem c_331_1024 : pg_cd 331 1024 = (3, 1, 0, 3, 0) := by decide +kernel
theorem c_331_1025 : pg_cd 331 1025 = (1, 1, 0, 0, 5) := by decide +kernel
theorem c_331_1026 : pg_cd 331 1026 = (10, 1, 0, 0, 0) := by decide +kernel
theorem c_331_1027 : pg_cd 331 1027 = (50, 1, 0, 0, 0) := by decide +kernel
theorem c_331_1028 : pg_cd 331 1028 = (80, 221, 94, 0, 0) := by decide +kernel
theorem c_331_1031 : pg_cd 331 1031 = (37, 3, 0, 0, 816) := by decide +kernel
theorem c_331_1034 : pg_cd 331 1034 = (1, 1, 0, 0, 0) := by decide +kernel
theorem c_331_1035 : pg_cd 331 1035 = (91, 0, 0, 0, 0) := by decide +kernel
theorem c_331_1036 : pg_cd 331 1036 = (5, 1, 0, 1, 0) := by decide +kernel
theorem c_331_1037 : pg_cd 331 1037 = (5, 1, 0, 0, 0) := by decide +kernel
theorem c_331_1038 : pg_cd 331 1038 = (3, 1, 0, 3, 0) := by decide +kernel
theorem c_331_1039 : pg_cd 331 1039 = (1, 1, 0, 0, 1) := by decide +kernel
theorem c_331_1040 : pg_cd 331 1040 = (10, 1, 0, 0, 0) := by decide +kernel
theorem c_331_1041 : pg_cd 331 1041 = (50, 1, 0, 0, 0) := by decide +kernel
theorem c_331_1042 : pg_cd 331 1042 = (5, 1, 0, 0, 0) := by decide +kernel
theorem c_331_1043 : pg_cd 331 1043 = (3, 1, 0, 3, 0) := by decide +kernel
theorem c_331_1044 : pg_cd 331 1044 = (1, 1, 0, 0, 2) := by decide +kernel
theorem c_331_1045 : pg_cd 331 1045 = (10, 1, 0, 0, 0) := by decide +kernel
theorem c_331_1046 : pg_cd 331 1046 = (50, 1, 0, 0, 0) := by decide +kernel
theorem c_331_1047 : pg_cd 331 1047 = (80, 167, 95, 0, 0) := by decide +kernel
theorem c_331_1050 : pg_cd 331 1050 = (5, 1, 0, 2, 0) := by decide +kernel
theorem c_331_1051 : pg_cd 331 1051 = (5, 1, 0, 0, 0) := by decide +kernel
theorem c_331_1052 : pg_cd 331 1052 = (3, 1, 0, 3, 0) := by decide +kernel
theorem c_331_1053 : pg_cd 331 1053 = (1, 1, 0, 0, 1) := by decide +kernel
theorem c_331_1054 : pg_cd 331 1054 = (10, 1, 0, 0, 0) := by decide +kernel
theorem c_331_1055 : pg_cd 331 1055 = (50, 1, 0, 0, 0) := by decide +kernel
theorem c_331_1056 : pg_cd 331 1056 = (5, 1, 0, 0, 0) := by decide +kernel
theorem c_331_1057 : pg_cd 331 1057 = (3, 1, 0, 3, 0) := by decide +kernel
theorem c_331_1058 : pg_cd 331 1058 = (1, 1, 0, 0, 2) := by decide +kernel
theorem c_331_1059 : pg_cd 331 1059 = (10, 1, 0, 0, 0) := by decide +kernel
theorem c_331_1060 : pg_cd 331 1060 = (50, 1, 0, 0, 0) := by decide +kernel
theorem c_331_1061 : pg_cd 331 1061 = (80, 222, 98, 0, 0) := by decide +kernel
theorem c_331_1064 : pg_cd 331 1064 = (37, 3, 0, 0, 783) := by decide +kernel
theorem c_331_1067 : pg_cd 331 1067 = (1, 1, 0, 0, 0) := by decide +kernel
theorem c_331_1068 : pg_cd 331 1068 = (91, 0, 0, 0, 0) := by decide +kernel
theorem c_331_1069 : pg_cd 331 1069 = (5, 1, 0, 1, 0) := by decide +kernel
theorem c_331_1070 : pg_cd 331 1070 = (5, 1, 0, 0, 0) := by decide +kernel
theorem c_331_1071 : pg_cd 331 1071 = (3, 1, 0, 3, 0) := by decide +kernel
theorem c_331_1072 : pg_cd 331 1072 = (1, 1, 0, 0, 1) := by decide +kernel
theorem c_331_1073 : pg_cd 331 1073 = (10, 1, 0, 0, 0) := by decide +kernel
theorem c_331_1074 : pg_cd 331 1074 = (50, 1, 0, 0, 0) := by decide +kernel
theorem c_331_1075 : pg_cd 331 1075 = (5, 1, 0, 0, 0) := by decide +kernel
theorem c_331_1076 : pg_cd 331 1076 = (3, 1, 0, 3, 0) := by decide +kernel
theorem c_331_1077 : pg_cd 331 1077 = (1, 1, 0, 0, 2) := by decide +kernel
theorem c_331_1078 : pg_cd 331 1078 = (10, 1, 0, 0, 0) := by decide +kernel
theorem c_331_1079 : pg_cd 331 1079 = (50, 1, 0, 0, 0) := by decide +kernel
theorem c_331_1080 : pg_cd 331 1080 = (5, 1, 0, 0, 0) := by decide +kernel
theorem c_331_1081 : pg_cd 331 1081 = (3, 1, 0, 3, 0) := by decide +kernel
theorem c_331_1082 : pg_cd 331 1082 = (1, 1, 0, 0, 3) := by decide +kernel
theorem c_331_1083 : pg_cd 331 1083 = (10, 1, 0, 0, 0) := by decide +kernel
theorem c_331_1084 : pg_cd 331 1084 = (50, 1, 0, 0, 0) := by decide +kernel
theorem c_331_1085 : pg_cd 331 1085 = (80, 168, 99, 0, 0) := by decide +kernel
theorem c_331_1088 : pg_cd 331 1088 = (5, 1, 0, 2, 0) := by decide +kernel
theorem c_331_1089 : pg_cd 331 1089 = (5, 1, 0, 0, 0) := by decide +kernel
theorem c_331_1090 : pg_cd 331 1090 = (3, 1, 0, 3, 0) := by decide +kernel
theorem c_331_1091 : pg_cd 331 1091 = (1, 1, 0, 0, 1) := by decide +kernel
theorem c_331_1092 : pg_cd 331 1092 = (10, 1, 0, 0, 0) := by decide +kernel
theorem c_331_1093 : pg_cd 331 1093 = (50, 1, 0, 0, 0) := by decide +kernel
theorem c_331_1094 : pg_cd 331 1094 = (5, 1, 0, 0, 0) := by decide +kernel
theorem c_331_1095 : pg_cd 331 1095 = (3, 1, 0, 3, 0) := by decide +kernel
theorem c_331_1096 : pg_cd 331 1096 = (1, 1, 0, 0, 2) := by decide +kernel
theorem c_331_1097 : pg_cd 331 1097 = (10, 1, 0, 0, 0) := by decide +kernel
theorem c_331_1098 : pg_cd 331 1098 = (50, 1, 0, 0, 0) := by decide +kernel
theorem c_331_1099 : pg_cd 331 1099 = (5, 1, 0, 0, 0) := by decide +kernel
theorem c_331_1100 : pg_cd 331 1100 = (3, 1, 0, 3, 0) := by decide +kernel
theorem c_331_1101 : pg_cd 331 1101 = (1, 1, 0, 0, 3) := by decide +kernel
theorem c_331_1102 : pg_cd 331 1102 = (10, 1, 0, 0, 0) := by decide +kernel
theorem c_331_1103 : pg_cd 331 1103 = (50, 1, 0, 0, 0) := by decide +kernel
theorem c_331_1104 : pg_cd 331 1104 = (80, 223, 102, 0, 0) := by decide +kernel
theorem c_331_1107 : pg_cd 331 1107 = (37, 3, 0, 0, 740) := by decide +kernel
theorem c_331_1110 : pg_cd 331 1110 = (1, 1, 0, 0, 0) := by decide +kernel
theorem c_331_1111 : pg_cd 331 1111 = (91, 0, 0, 0, 0) := by decide +kernel
theorem c_331_1112 : pg_cd 331 1112 = (5, 1, 0, 1, 0) := by decide +kernel
theorem c_331_1113 : pg_cd 331 1113 = (5, 1, 0, 0, 0) := by decide +kernel
theorem c_331_1114 : pg_cd 331 1114 = (3, 1, 0, 3, 0) := by decide +kernel
theorem c_331_1115 : pg_cd 331 1115 = (1, 1, 0, 0, 1) := by decide +kernel
theorem c_331_1116 : pg_cd 331 1116 = (10, 1, 0, 0, 0) := by decide +kernel
theorem c_331_1117 : pg_cd 331 1117 = (50, 1, 0, 0, 0) := by decide +kernel
theorem c_331_1118 : pg_cd 331 1118 = (5, 1, 0, 0, 0) := by decide +kernel
theorem c_331_1119 : pg_cd 331 1119 = (3, 1, 0, 3, 0) := by decide +kernel
theorem c_331_1120 : pg_cd 331 1120 = (1, 1, 0, 0, 2) := by decide +kernel
theorem c_331_1121 : pg_cd 331 1121 = (10, 1, 0, 0, 0) := by decide +kernel
theorem c_331_1122 : pg_cd 331 1122 = (50, 1, 0, 0, 0) := by decide +kernel
theorem c_331_1123 : pg_cd 331 1123 = (36, 3, 0, 0, 7) := by decide +kernel
theorem c_331_1126 : pg_cd 331 1126 = (1, 1, 0, 0, 1) := by decide +kernel
theorem c_331_1127 : pg_cd 331 1127 = (38, 3, 0, 0, 4) := by decide +kernel
theorem c_331_1130 : pg_cd 331 1130 = (1, 1, 0, 0, 0) := by decide +kernel
theorem c_331_1131 : pg_cd 331 1131 = (80, 169, 103, 0, 0) := by decide +kernel
theorem c_331_1134 : pg_cd 331 1134 = (5, 1, 0, 2, 0) := by decide +kernel
theorem c_331_1135 : pg_cd 331 1135 = (5, 1, 0, 0, 0) := by decide +kernel
theorem c_331_1136 : pg_cd 331 1136 = (3, 1, 0, 3, 0) := by decide +kernel
theorem c_331_1137 : pg_cd 331 1137 = (1, 1, 0, 0, 1) := by decide +kernel
theorem c_331_1138 : pg_cd 331 1138 = (10, 1, 0, 0, 0) := by decide +kernel
theorem c_331_1139 : pg_cd 331 1139 = (50, 1, 0, 0, 0) := by decide +kernel
theorem c_331_1140 : pg_cd 331 1140 = (5, 1, 0, 0, 0) := by decide +kernel
theorem c_331_1141 : pg_cd 331 1141 = (3, 1, 0, 3, 0) := by decide +kernel
theorem c_331_1142 : pg_cd 331 1142 = (1, 1, 0, 0, 2) := by decide +kernel
theorem c_331_1143 : pg_cd 331 1143 = (10, 1, 0, 0, 0) := by decide +kernel
theorem c_331_1144 : pg_cd 331 1144 = (50, 1, 0, 0, 0) := by decide +kernel
theorem c_331_1145 : pg_cd 331 1145 = (36, 3, 0, 0, 7) := by decide +kernel
theorem c_331_1148 : pg_cd 331 1148 = (1, 1, 0, 0, 1) := by decide +kernel
theorem c_331_1149 : pg_cd 331 1149 = (38, 3, 0, 0, 4) := by decide +kernel
theorem c_331_1152 : pg_cd 331 1152 = (1, 1, 0, 0, 0) := by decide +kernel
theorem c_331_1153 : pg_cd 331 1153 = (80, 224, 107, 0, 0) := by decide +kernel
theorem c_331_1156 : pg_cd 331 1156 = (37, 3, 0, 0, 691) := by decide +kernel
theorem c_331_1159 : pg_cd 331 1159 = (1, 1, 0, 0, 0) := by decide +kernel
theorem c_331_1160 : pg_cd 331 1160 = (91, 0, 0, 0, 0) := by decide +kernel
theorem c_331_1161 : pg_cd 331 1161 = (5, 1, 0, 1, 0) := by decide +kernel
theorem c_331_1162 : pg_cd 331 1162 = (5, 1, 0, 0, 0) := by decide +kernel
theorem c_331_1163 : pg_cd 331 1163 = (3, 1, 0, 3, 0) := by decide +kernel
theorem c_331_1164 : pg_cd 331 1164 = (1, 1, 0, 0, 1) := by decide +kernel
theorem c_331_1165 : pg_cd 331 1165 = (10, 1, 0, 0, 0) := by decide +kernel
theorem c_331_1166 : pg_cd 331 1166 = (50, 1, 0, 0, 0) := by decide +kernel
theorem c_331_1167 : pg_cd 331 1167 = (80, 170, 108, 0, 0) := by decide +kernel
theorem c_331_1170 : pg_cd 331 1170 = (5, 1, 0, 2, 0) := by decide +kernel
theorem c_331_1171 : pg_cd 331 1171 = (5, 1, 0, 0, 0) := by decide +kernel
theorem c_331_1172 : pg_cd 331 1172 = (3, 1, 0, 3, 0) := by decide +kernel
theorem c_331_1173 : pg_cd 331 1173 = (1, 1, 0, 0, 1) := by decide +kernel
theorem c_331_1174 : pg_cd 331 1174 = (10, 1, 0, 0, 0) := by decide +kernel
theorem c_331_1175 : pg_cd 331 1175 = (50, 1, 0, 0, 0) := by decide +kernel
theorem c_331_1176 : pg_cd 331 1176 = (80, 294, 111, 0, 0) := by decide +kernel
theorem c_331_1179 : pg_cd 331 1179 = (37, 3, 0, 0, 668) := by decide +kernel
theorem c_331_1182 : pg_cd 331 1182 = (1, 1, 0, 0, 0) := by decide +kernel
theorem c_331_1183 : pg_cd 331 1183 = (91, 0, 0, 0, 0) := by decide +kernel
theorem c_331_1184 : pg_cd 331 1184 = (5, 1, 0, 1, 0) := by decide +kernel
theorem c_331_1185 : pg_cd 331 1185 = (5, 1, 0, 0, 0) := by decide +kernel
theorem c_331_1186 : pg_cd 331 1186 = (3, 1, 0, 3, 0) := by decide +kernel
theorem c_331_1187 : pg_cd 331 1187 = (1, 1, 0, 0, 1) := by decide +kernel
theorem c_331_1188 : pg_cd 331 1188 = (10, 1, 0, 0, 0) := by decide +kernel
theorem c_331_1189 : pg_cd 331 1189 = (50, 1, 0, 0, 0) := by decide +kernel
theorem c_331_1190 : pg_cd 331 1190 = (5, 1, 0, 0, 0) := by decide +kernel
theorem c_331_1191 : pg_cd 331 1191 = (3, 1, 0, 3, 0) := by decide +kernel
theorem c_331_1192 : pg_cd 331 1192 = (1, 1, 0, 0, 2) := by decide +kernel
theorem c_331_1193 : pg_cd 331 1193 = (10, 1, 0, 0, 0) := by decide +kernel
theorem c_331_1194 : pg_cd 331 1194 = (50, 1, 0, 0, 0) := by decide +kernel
theorem c_331_1195 : pg_cd 331 1195 = (80, 171, 112, 0, 0) := by decide +kernel
theorem c_331_1198 : pg_cd 331 1198 = (5, 1, 0, 2, 0) := by decide +kernel
theorem c_331_1199 : pg_cd 331 1199 = (5, 1, 0, 0, 0) := by decide +kernel
theorem c_331_1200 : pg_cd 331 1200 = (3, 1, 0, 3, 0) := by decide +kernel
theorem c_331_1201 : pg_cd 331 1201 = (1, 1, 0, 0, 1) := by decide +kernel
theorem c_331_1202 : pg_cd 331 1202 = (10, 1, 0, 0, 0) := by decide +kernel
theorem c_331_1203 : pg_cd 331 1203 = (50, 1, 0, 0, 0) := by decide +kernel
theorem c_331_1204 : pg_cd 331 1204 = (5, 1, 0, 0, 0) := by decide +kernel
theorem c_331_1205 : pg_cd 331 1205 = (3, 1, 0, 3, 0) := by decide +kernel
theorem c_331_1206 : pg_cd 331 1206 = (1, 1, 0, 0, 2) := by decide +kernel
theorem c_331_1207 : pg_cd 331 1207 = (10, 1, 0, 0, 0) := by decide +kernel
theorem c_331_1208 : pg_cd 331 1208 = (50, 1, 0, 0, 0) := by decide +kernel
theorem c_331_1209 : pg_cd 331 1209 = (80, 295, 115, 0, 0) := by decide +kernel
theorem c_331_1212 : pg_cd 331 1212 = (37, 3, 0, 0, 635) := by decide +kernel
theorem c_331_1215 : pg_cd 331 1215 = (1, 1, 0, 0, 0) := by decide +kernel
theorem c_331_1216 : pg_cd 331 1216 = (91, 0, 0, 0, 0) := by decide +kernel
theorem c_331_1217 : pg_cd 331 1217 = (5, 1, 0, 1, 0) := by decide +kernel
theorem c_331_1218 : pg_cd 331 1218 = (5, 1, 0, 0, 0) := by decide +kernel
theorem c_331_1219 : pg_cd 331 1219 = (3, 1, 0, 3, 0) := by decide +kernel
theorem c_331_1220 : pg_cd 331 1220 = (1, 1, 0, 0, 1) := by decide +kernel
theorem c_331_1221 : pg_cd 331 1221 = (10, 1, 0, 0, 0) := by decide +kernel
theorem c_331_1222 : pg_cd 331 1222 = (50, 1, 0, 0, 0) := by decide +kernel
theorem c_331_1223 : pg_cd 331 1223 = (5, 1, 0, 0, 0) := by decide +kernel
theorem c_331_1224 : pg_cd 331 1224 = (3, 1, 0, 3, 0) := by decide +kernel
theorem c_331_1225 : pg_cd 331 1225 = (1, 1, 0, 0, 2) := by decide +kernel
theorem c_331_1226 : pg_cd 331 1226 = (10, 1, 0, 0, 0) := by decide +kernel
theorem c_331_1227 : pg_cd 331 1227 = (50, 1, 0, 0, 0) := by decide +kernel
theorem c_331_1228 : pg_cd 331 1228 = (80, 172, 116, 0, 0) := by decide +kernel
theorem c_331_1231 : pg_cd 331 1231 = (5, 1, 0, 2, 0) := by decide +kernel
theorem c_331_1232 : pg_cd 331 1232 = (5, 1, 0, 0, 0) := by decide +kernel
theorem c_331_1233 : pg_cd 331 1233 = (3, 1, 0, 3, 0) := by decide +kernel
theorem c_331_1234 : pg_cd 331 1234 = (1, 1, 0, 0, 1) := by decide +kernel
theorem c_331_1235 : pg_cd 331 1235 = (10, 1, 0, 0, 0) := by decide +kernel
theorem c_331_1236 : pg_cd 331 1236 = (50, 1, 0, 0, 0) := by decide +kernel
theorem c_331_1237 : pg_cd 331 1237 = (5, 1, 0, 0, 0) := by decide +kernel
theorem c_331_1238 : pg_cd 331 1238 = (3, 1, 0, 3, 0) := by decide +kernel
theorem c_331_1239 : pg_cd 331 1239 = (1, 1, 0, 0, 2) := by decide +kernel
theorem c_331_1240 : pg_cd 331 1240 = (10, 1, 0, 0, 0) := by decide +kernel
theorem c_331_1241 : pg_cd 331 1241 = (50, 1, 0, 0, 0) := by decide +kernel
theorem c_331_1242 : pg_cd 331 1242 = (80, 297, 119, 0, 0) := by decide +kernel
theorem c_331_1245 : pg_cd 331 1245 = (37, 3, 0, 0, 602) := by decide +kernel
theorem c_331_1248 : pg_cd 331 1248 = (1, 1, 0, 0, 0) := by decide +kernel
theorem c_331_1249 : pg_cd 331 1249 = (91, 0, 0, 0, 0) := by decide +kernel
theorem c_331_1250 : pg_cd 331 1250 = (5, 1, 0, 1, 0) := by decide +kernel
theorem c_331_1251 : pg_cd 331 1251 = (5, 1, 0, 0, 0) := by decide +kernel
theorem c_331_1252 : pg_cd 331 1252 = (3, 1, 0, 3, 0) := by decide +kernel
theorem c_331_1253 : pg_cd 331 1253 = (1, 1, 0, 0, 1) := by decide +kernel
theorem c_331_1254 : pg_cd 331 1254 = (10, 1, 0, 0, 0) := by decide +kernel
theorem c_331_1255 : pg_cd 331 1255 = (50, 1, 0, 0, 0) := by decide +kernel
theorem c_331_1256 : pg_cd 331 1256 = (5, 1, 0, 0, 0) := by decide +kernel
theorem c_331_1257 : pg_cd 331 1257 = (3, 1, 0, 3, 0) := by decide +kernel
theorem c_331_1258 : pg_cd 331 1258 = (1, 1, 0, 0, 2) := by decide +kernel
theorem c_331_1259 : pg_cd 331 1259 = (10, 1, 0, 0, 0) := by decide +kernel
theorem c_331_1260 : pg_cd 331 1260 = (50, 1, 0, 0, 0) := by decide +kernel
theorem c_331_1261 : pg_cd 331 1261 = (80, 173, 120, 0, 0) := by decide +kernel
theorem c_331_1264 : pg_cd 331 1264 = (5, 1, 0, 2, 0) := by decide +kernel
theorem c_331_1265 : pg_cd 331 1265 = (5, 1, 0, 0, 0) := by decide +kernel
theorem c_331_1266 : pg_cd 331 1266 = (3, 1, 0, 3, 0) := by decide +kernel
theorem c_331_1267 : pg_cd 331 1267 = (1, 1, 0, 0, 1) := by decide +kernel
theorem c_331_1268 : pg_cd 331 1268 = (10, 1, 0, 0, 0) := by decide +kernel
theorem c_331_1269 : pg_cd 331 1269 = (50, 1, 0, 0, 0) := by decide +kernel
theorem c_331_1270 : pg_cd 331 1270 = (5, 1, 0, 0, 0) := by decide +kernel
theorem c_331_1271 : pg_cd 331 1271 = (3, 1, 0, 3, 0) := by decide +kernel
theorem c_331_1272 : pg_cd 331 1272 = (1, 1, 0, 0, 2) := by decide +kernel
theorem c_331_1273 : pg_cd 331 1273 = (10, 1, 0, 0, 0) := by decide +kernel
theorem c_331_1274 : pg_cd 331 1274 = (50, 1, 0, 0, 0) := by decide +kernel
theorem c_331_1275 : pg_cd 331 1275 = (80, 298, 123, 0, 0) := by decide +kernel
theorem c_331_1278 : pg_cd 331 1278 = (37, 3, 0, 0, 569) := by decide +kernel
theorem c_331_1281 : pg_cd 331 1281 = (1, 1, 0, 0, 0) := by decide +kernel
theorem c_331_1282 : pg_cd 331 1282 = (91, 0, 0, 0, 0) := by decide +kernel
theorem c_331_1283 : pg_cd 331 1283 = (5, 1, 0, 1, 0) := by decide +kernel
theorem c_331_1284 : pg_cd 331 1284 = (5, 1, 0, 0, 0) := by decide +kernel
theorem c_331_1285 : pg_cd 331 1285 = (3, 1, 0, 3, 0) := by decide +kernel
theorem c_331_1286 : pg_cd 331 1286 = (1, 1, 0, 0, 1) := by decide +kernel
theorem c_331_1287 : pg_cd 331 1287 = (10, 1, 0, 0, 0) := by decide +kernel
theorem c_331_1288 : pg_cd 331 1288 = (50, 1, 0, 0, 0) := by decide +kernel
theorem c_331_1289 : pg_cd 331 1289 = (5, 1, 0, 0, 0) := by decide +kernel
theorem c_331_1290 : pg_cd 331 1290 = (3, 1, 0, 3, 0) := by decide +kernel
theorem c_331_1291 : pg_cd 331 1291 = (1, 1, 0, 0, 2) := by decide +kernel
theorem c_331_1292 : pg_cd 331 1292 = (10, 1, 0, 0, 0) := by decide +kernel
theorem c_331_1293 : pg_cd 331 1293 = (50, 1, 0, 0, 0) := by decide +kernel
theorem c_331_1294 : pg_cd 331 1294 = (80, 174, 124, 0, 0) := by decide +kernel
theorem c_331_1297 : pg_cd 331 1297 = (5, 1, 0, 2, 0) := by decide +kernel
theorem c_331_1298 : pg_cd 331 1298 = (5, 1, 0, 0, 0) := by decide +kernel
theorem c_331_1299 : pg_cd 331 1299 = (3, 1, 0, 3, 0) := by decide +kernel
theorem c_331_1300 : pg_cd 331 1300 = (1, 1, 0, 0, 1) := by decide +kernel
theorem c_331_1301 : pg_cd 331 1301 = (10, 1, 0, 0, 0) := by decide +kernel
theorem c_331_1302 : pg_cd 331 1302 = (50, 1, 0, 0, 0) := by decide +kernel
theorem c_331_1303 : pg_cd 331 1303 = (5, 1, 0, 0, 0) := by decide +kernel
theorem c_331_1304 : pg_cd 331 1304 = (3, 1, 0, 3, 0) := by decide +kernel
theorem c_331_1305 : pg_cd 331 1305 = (1, 1, 0, 0, 2) := by decide +kernel
theorem c_331_1306 : pg_cd 331 1306 = (10, 1, 0, 0, 0) := by decide +kernel
theorem c_331_1307 : pg_cd 331 1307 = (50, 1, 0, 0, 0) := by decide +kernel
theorem c_331_1308 : pg_cd 331 1308 = (80, 299, 127, 0, 0) := by decide +kernel
theorem c_331_1311 : pg_cd 331 1311 = (37, 3, 0, 0, 536) := by decide +kernel
theorem c_331_1314 : pg_cd 331 1314 = (1, 1, 0, 0, 0) := by decide +kernel
theorem c_331_1315 : pg_cd 331 1315 = (91, 0, 0, 0, 0) := by decide +kernel
theorem c_331_1316 : pg_cd 331 1316 = (5, 1, 0, 1, 0) := by decide +kernel
theorem c_331_1317 : pg_cd 331 1317 = (5, 1, 0, 0, 0) := by decide +kernel
theorem c_331_1318 : pg_cd 331 1318 = (3, 1, 0, 3, 0) := by decide +kernel
theorem c_331_1319 : pg_cd 331 1319 = (1, 1, 0, 0, 1) := by decide +kernel
theorem c_331_1320 : pg_cd 331 1320 = (10, 1, 0, 0, 0) := by decide +kernel
theorem c_331_1321 : pg_cd 331 1321 = (50, 1, 0, 0, 0) := by decide +kernel
theorem c_331_1322 : pg_cd 331 1322 = (5, 1, 0, 0, 0) := by decide +kernel
theorem c_331_1323 : pg_cd 331 1323 = (3, 1, 0, 3, 0) := by decide +kernel
theorem c_331_1324 : pg_cd 331 1324 = (1, 1, 0, 0, 2) := by decide +kernel
theorem c_331_1325 : pg_cd 331 1325 = (10, 1, 0, 0, 0) := by decide +kernel
theorem c_331_1326 : pg_cd 331 1326 = (50, 1, 0, 0, 0) := by decide +kernel
theorem c_331_1327 : pg_cd 331 1327 = (80, 175, 128, 0, 0) := by decide +kernel
theorem c_331_1330 : pg_cd 331 1330 = (5, 1, 0, 2, 0) := by decide +kernel
theorem c_331_1331 : pg_cd 331 1331 = (5, 1, 0, 0, 0) := by decide +kernel
theorem c_331_1332 : pg_cd 331 1332 = (3, 1, 0, 3, 0) := by decide +kernel
theorem c_331_1333 : pg_cd 331 1333 = (1, 1, 0, 0, 1) := by decide +kernel
theorem c_331_1334 : pg_cd 331 1334 = (10, 1, 0, 0, 0) := by decide +kernel
theorem c_331_1335 : pg_cd 331 1335 = (50, 1, 0, 0, 0) := by decide +kernel
theorem c_331_1336 : pg_cd 331 1336 = (5, 1, 0, 0, 0) := by decide +kernel
theorem c_331_1337 : pg_cd 331 1337 = (3, 1, 0, 3, 0) := by decide +kernel
theorem c_331_1338 : pg_cd 331 1338 = (1, 1, 0, 0, 2) := by decide +kernel
theorem c_331_1339 : pg_cd 331 1339 = (10, 1, 0, 0, 0) := by decide +kernel
theorem c_331_1340 : pg_cd 331 1340 = (50, 1, 0, 0, 0) := by decide +kernel
theorem c_331_1341 : pg_cd 331 1341 = (80, 300, 131, 0, 0) := by decide +kernel
theorem c_331_1344 : pg_cd 331 1344 = (37, 3, 0, 0, 503) := by decide +kernel
theorem c_331_1347 : pg_cd 331 1347 = (1, 1, 0, 0, 0) := by decide +kernel
theorem c_331_1348 : pg_cd 331 1348 = (91, 0, 0, 0, 0) := by decide +kernel
theorem c_331_1349 : pg_cd 331 1349 = (5, 1, 0, 1, 0) := by decide +kernel
theorem c_331_1350 : pg_cd 331 1350 = (5, 1, 0, 0, 0) := by decide +kernel
theorem c_331_1351 : pg_cd 331 1351 = (3, 1, 0, 3, 0) := by decide +kernel
theorem c_331_1352 : pg_cd 331 1352 = (1, 1, 0, 0, 1) := by decide +kernel
theorem c_331_1353 : pg_cd 331 1353 = (10, 1, 0, 0, 0) := by decide +kernel
theorem c_331_1354 : pg_cd 331 1354 = (50, 1, 0, 0, 0) := by decide +kernel
theorem c_331_1355 : pg_cd 331 1355 = (5, 1, 0, 0, 0) := by decide +kernel
theorem c_331_1356 : pg_cd 331 1356 = (3, 1, 0, 3, 0) := by decide +kernel
theorem c_331_1357 : pg_cd 331 1357 = (1, 1, 0, 0, 2) := by decide +kernel
theorem c_331_1358 : pg_cd 331 1358 = (10, 1, 0, 0, 0) := by decide +kernel
theorem c_331_1359 : pg_cd 331 1359 = (50, 1, 0, 0, 0) := by decide +kernel
theorem c_331_1360 : pg_cd 331 1360 = (5, 1, 0, 0, 0) := by decide +kernel
theorem c_331_1361 : pg_cd 331 1361 = (3, 1, 0, 3, 0) := by decide +kernel
theorem c_331_1362 : pg_cd 331 1362 = (1, 1, 0, 0, 3) := by decide +kernel
theorem c_331_1363 : pg_cd 331 1363 = (10, 1, 0, 0, 0) := by decide +kernel
theorem c_331_1364 : pg_cd 331 1364 = (50, 1, 0, 0, 0) := by decide +kernel
theorem c_331_1365 : pg_cd 331 1365 = (80, 177, 132, 0, 0) := by decide +kernel
theorem c_331_1368 : pg_cd 331 1368 = (5, 1, 0, 2, 0) := by decide +kernel
theorem c_331_1369 : pg_cd 331 1369 = (5, 1, 0, 0, 0) := by decide +kernel
theorem c_331_1370 : pg_cd 331 1370 = (3, 1, 0, 3, 0) := by decide +kernel
theorem c_331_1371 : pg_cd 331 1371 = (1, 1, 0, 0, 1) := by decide +kernel
theorem c_331_1372 : pg_cd 331 1372 = (10, 1, 0, 0, 0) := by decide +kernel
theorem c_331_1373 : pg_cd 331 1373 = (50, 1, 0, 0, 0) := by decide +kernel
theorem c_331_1374 : pg_cd 331 1374 = (5, 1, 0, 0, 0) := by decide +kernel
theorem c_331_1375 : pg_cd 331 1375 = (3, 1, 0, 3, 0) := by decide +kernel
theorem c_331_1376 : pg_cd 331 1376 = (1, 1, 0, 0, 2) := by decide +kernel
theorem c_331_1377 : pg_cd 331 1377 = (10, 1, 0, 0, 0) := by decide +kernel
theorem c_331_1378 : pg_cd 331 1378 = (50, 1, 0, 0, 0) := by decide +kernel
theorem c_331_1379 : pg_cd 331 1379 = (5, 1, 0, 0, 0) := by decide +kernel
theorem c_331_1380 : pg_cd 331 1380 = (3, 1, 0, 3, 0) := by decide +kernel
theorem c_331_1381 : pg_cd 331 1381 = (1, 1, 0, 0, 3) := by decide +kernel
theorem c_331_1382 : pg_cd 331 1382 = (10, 1, 0, 0, 0) := by decide +kernel
theorem c_331_1383 : pg_cd 331 1383 = (50, 1, 0, 0, 0) := by decide +kernel
theorem c_331_1384 : pg_cd 331 1384 = (80, 301, 135, 0, 0) := by decide +kernel
theorem c_331_1387 : pg_cd 331 1387 = (37, 3, 0, 0, 460) := by decide +kernel
theorem c_331_1390 : pg_cd 331 1390 = (1, 1, 0, 0, 0) := by decide +kernel
theorem c_331_1391 : pg_cd 331 1391 = (91, 0, 0, 0, 0) := by decide +kernel
theorem c_331_1392 : pg_cd 331 1392 = (5, 1, 0, 1, 0) := by decide +kernel
theorem c_331_1393 : pg_cd 331 1393 = (5, 1, 0, 0, 0) := by decide +kernel
theorem c_331_1394 : pg_cd 331 1394 = (3, 1, 0, 3, 0) := by decide +kernel
theorem c_331_1395 : pg_cd 331 1395 = (1, 1, 0, 0, 1) := by decide +kernel
theorem c_331_1396 : pg_cd 331 1396 = (10, 1, 0, 0, 0) := by decide +kernel
theorem c_331_1397 : pg_cd 331 1397 = (50, 1, 0, 0, 0) := by decide +kernel
theorem c_331_1398 : pg_cd 331 1398 = (5, 1, 0, 0, 0) := by decide +kernel
theorem c_331_1399 : pg_cd 331 1399 = (3, 1, 0, 3, 0) := by decide +kernel
theorem c_331_1400 : pg_cd 331 1400 = (1, 1, 0, 0, 2) := by decide +kernel
theorem c_331_1401 : pg_cd 331 1401 = (10, 1, 0, 0, 0) := by decide +kernel
theorem c_331_1402 : pg_cd 331 1402 = (50, 1, 0, 0, 0) := by decide +kernel
theorem c_331_1403 : pg_cd 331 1403 = (5, 1, 0, 0, 0) := by decide +kernel
theorem c_331_1404 : pg_cd 331 1404 = (3, 1, 0, 3, 0) := by decide +kernel
theorem c_331_1405 : pg_cd 331 1405 = (1, 1, 0, 0, 3) := by decide +kernel
theorem c_331_1406 : pg_cd 331 1406 = (10, 1, 0, 0, 0) := by decide +kernel
theorem c_331_1407 : pg_cd 331 1407 = (50, 1, 0, 0, 0) := by decide +kernel
theorem c_331_1408 : pg_cd 331 1408 = (5, 1, 0, 0, 0) := by decide +kernel
theorem c_331_1409 : pg_cd 331 1409 = (3, 1, 0, 3, 0) := by decide +kernel
theorem c_331_1410 : pg_cd 331 1410 = (1, 1, 0, 0, 4) := by decide +kernel
theorem c_331_1411 : pg_cd 331 1411 = (10, 1, 0, 0, 0) := by decide +kernel
theorem c_331_1412 : pg_cd 331 1412 = (50, 1, 0, 0, 0) := by decide +kernel
theorem c_331_1413 : pg_cd 331 1413 = (80, 178, 136, 0, 0) := by decide +kernel
theorem c_331_1416 : pg_cd 331 1416 = (5, 1, 0, 2, 0) := by decide +kernel
theorem c_331_1417 : pg_cd 331 1417 = (5, 1, 0, 0, 0) := by decide +kernel
theorem c_331_1418 : pg_cd 331 1418 = (3, 1, 0, 3, 0) := by decide +kernel
theorem c_331_1419 : pg_cd 331 1419 = (1, 1, 0, 0, 1) := by decide +kernel
theorem c_331_1420 : pg_cd 331 1420 = (10, 1, 0, 0, 0) := by decide +kernel
theorem c_331_1421 : pg_cd 331 1421 = (50, 1, 0, 0, 0) := by decide +kernel
theorem c_331_1422 : pg_cd 331 1422 = (5, 1, 0, 0, 0) := by decide +kernel
theorem c_331_1423 : pg_cd 331 1423 = (3, 1, 0, 3, 0) := by decide +kernel
theorem c_331_1424 : pg_cd 331 1424 = (1, 1, 0, 0, 2) := by decide +kernel
theorem c_331_1425 : pg_cd 331 1425 = (10, 1, 0, 0, 0) := by decide +kernel
theorem c_331_1426 : pg_cd 331 1426 = (50, 1, 0, 0, 0) := by decide +kernel
theorem c_331_1427 : pg_cd 331 1427 = (5, 1, 0, 0, 0) := by decide +kernel
theorem c_331_1428 : pg_cd 331 1428 = (3, 1, 0, 3, 0) := by decide +kernel
theorem c_331_1429 : pg_cd 331 1429 = (1, 1, 0, 0, 3) := by decide +kernel
theorem c_331_1430 : pg_cd 331 1430 = (10, 1, 0, 0, 0) := by decide +kernel
theorem c_331_1431 : pg_cd 331 1431 = (50, 1, 0, 0, 0) := by decide +kernel
theorem c_331_1432 : pg_cd 331 1432 = (5, 1, 0, 0, 0) := by decide +kernel
theorem c_331_1433 : pg_cd 331 1433 = (3, 1, 0, 3, 0) := by decide +kernel
theorem c_331_1434 : pg_cd 331 1434 = (1, 1, 0, 0, 4) := by decide +kernel
theorem c_331_1435 : pg_cd 331 1435 = (10, 1, 0, 0, 0) := by decide +kernel
theorem c_331_1436 : pg_cd 331 1436 = (50, 1, 0, 0, 0) := by decide +kernel
theorem c_331_1437 : pg_cd 331 1437 = (80, 304, 139, 0, 0) := by decide +kernel
theorem c_331_1440 : pg_cd 331 1440 = (37, 3, 0, 0, 407) := by decide +kernel
theorem c_331_1443 : pg_cd 331 1443 = (1, 1, 0, 0, 0) := by decide +kernel
theorem c_331_1444 : pg_cd 331 1444 = (91, 0, 0, 0, 0) := by decide +kernel
theorem c_331_1445 : pg_cd 331 1445 = (5, 1, 0, 1, 0) := by decide +kernel
theorem c_331_1446 : pg_cd 331 1446 = (5, 1, 0, 0, 0) := by decide +kernel
theorem c_331_1447 : pg_cd 331 1447 = (3, 1, 0, 3, 0) := by decide +kernel
theorem c_331_1448 : pg_cd 331 1448 = (1, 1, 0, 0, 1) := by decide +kernel
theorem c_331_1449 : pg_cd 331 1449 = (10, 1, 0, 0, 0) := by decide +kernel
theorem c_331_1450 : pg_cd 331 1450 = (50, 1, 0, 0, 0) := by decide +kernel
theorem c_331_1451 : pg_cd 331 1451 = (5, 1, 0, 0, 0) := by decide +kernel
theorem c_331_1452 : pg_cd 331 1452 = (3, 1, 0, 3, 0) := by decide +kernel
theorem c_331_1453 : pg_cd 331 1453 = (1, 1, 0, 0, 2) := by decide +kernel
theorem c_331_1454 : pg_cd 331 1454 = (10, 1, 0, 0, 0) := by decide +kernel
theorem c_331_1455 : pg_cd 331 1455 = (50, 1, 0, 0, 0) := by decide +kernel
theorem c_331_1456 : pg_cd 331 1456 = (80, 180, 140, 0, 0) := by decide +kernel
theorem c_331_1459 : pg_cd 331 1459 = (5, 1, 0, 2, 0) := by decide +kernel
theorem c_331_1460 : pg_cd 331 1460 = (5, 1, 0, 0, 0) := by decide +kernel
theorem c_331_1461 : pg_cd 331 1461 = (3, 1, 0, 3, 0) := by decide +kernel
theorem c_331_1462 : pg_cd 331 1462 = (1, 1, 0, 0, 1) := by decide +kernel
theorem c_331_1463 : pg_cd 331 1463 = (10, 1, 0, 0, 0) := by decide +kernel
theorem c_331_1464 : pg_cd 331 1464 = (50, 1, 0, 0, 0) := by decide +kernel
theorem c_331_1465 : pg_cd 331 1465 = (5, 1, 0, 0, 0) := by decide +kernel
theorem c_331_1466 : pg_cd 331 1466 = (3, 1, 0, 3, 0) := by decide +kernel
theorem c_331_1467 : pg_cd 331 1467 = (1, 1, 0, 0, 2) := by decide +kernel
theorem c_331_1468 : pg_cd 331 1468 = (10, 1, 0, 0, 0) := by decide +kernel
theorem c_331_1469 : pg_cd 331 1469 = (50, 1, 0, 0, 0) := by decide +kernel
theorem c_331_1470 : pg_cd 331 1470 = (80, 305, 143, 0, 0) := by decide +kernel
theorem c_331_1473 : pg_cd 331 1473 = (37, 3, 0, 0, 374) := by decide +kernel
theorem c_331_1476 : pg_cd 331 1476 = (1, 1, 0, 0, 0) := by decide +kernel
theorem c_331_1477 : pg_cd 331 1477 = (91, 0, 0, 0, 0) := by decide +kernel
theorem c_331_1478 : pg_cd 331 1478 = (5, 1, 0, 1, 0) := by decide +kernel
theorem c_331_1479 : pg_cd 331 1479 = (80, 181, 144, 0, 0) := by decide +kernel
theorem c_331_1482 : pg_cd 331 1482 = (5, 1, 0, 2, 0) := by decide +kernel
theorem c_331_1483 : pg_cd 331 1483 = (80, 306, 147, 0, 0) := by decide +kernel
theorem c_331_1486 : pg_cd 331 1486 = (37, 3, 0, 0, 361) := by decide +kernel
theorem c_331_1489 : pg_cd 331 1489 = (1, 1, 0, 0, 0) := by decide +kernel
theorem c_331_1490 : pg_cd 331 1490 = (91, 0, 0, 0, 0) := by decide +kernel
theorem c_331_1491 : pg_cd 331 1491 = (5, 1, 0, 1, 0) := by decide +kernel
theorem c_331_1492 : pg_cd 331 1492 = (5, 1, 0, 0, 0) := by decide +kernel
theorem c_331_1493 : pg_cd 331 1493 = (3, 1, 0, 3, 0) := by decide +kernel
theorem c_331_1494 : pg_cd 331 1494 = (1, 1, 0, 0, 1) := by decide +kernel
theorem c_331_1495 : pg_cd 331 1495 = (10, 1, 0, 0, 0) := by decide +kernel
theorem c_331_1496 : pg_cd 331 1496 = (50, 1, 0, 0, 0) := by decide +kernel
theorem c_331_1497 : pg_cd 331 1497 = (5, 1, 0, 0, 0) := by decide +kernel
theorem c_331_1498 : pg_cd 331 1498 = (3, 1, 0, 3, 0) := by decide +kernel
theorem c_331_1499 : pg_cd 331 1499 = (1, 1, 0, 0, 2) := by decide +kernel
theorem c_331_1500 : pg_cd 331 1500 = (10, 1, 0, 0, 0) := by decide +kernel
theorem c_331_1501 : pg_cd 331 1501 = (50, 1, 0, 0, 0) := by decide +kernel
theorem c_331_1502 : pg_cd 331 1502 = (80, 182, 148, 0, 0) := by decide +kernel
theorem c_331_1505 : pg_cd 331 1505 = (5, 1, 0, 2, 0) := by decide +kernel
theorem c_331_1506 : pg_cd 331 1506 = (5, 1, 0, 0, 0) := by decide +kernel
theorem c_331_1507 : pg_cd 331 1507 = (3, 1, 0, 3, 0) := by decide +kernel
theorem c_331_1508 : pg_cd 331 1508 = (1, 1, 0, 0, 1) := by decide +kernel
theorem c_331_1509 : pg_cd 331 1509 = (10, 1, 0, 0, 0) := by decide +kernel
theorem c_331_1510 : pg_cd 331 1510 = (50, 1, 0, 0, 0) := by decide +kernel
theorem c_331_1511 : pg_cd 331 1511 = (5, 1, 0, 0, 0) := by decide +kernel
theorem c_331_1512 : pg_cd 331 1512 = (3, 1, 0, 3, 0) := by decide +kernel
theorem c_331_1513 : pg_cd 331 1513 = (1, 1, 0, 0, 2) := by decide +kernel
theorem c_331_1514 : pg_cd 331 1514 = (10, 1, 0, 0, 0) := by decide +kernel
theorem c_331_1515 : pg_cd 331 1515 = (50, 1, 0, 0, 0) := by decide +kernel
theorem c_331_1516 : pg_cd 331 1516 = (80, 307, 151, 0, 0) := by decide +kernel
theorem c_331_1519 : pg_cd 331 1519 = (37, 3, 0, 0, 328) := by decide +kernel
theorem c_331_1522 : pg_cd 331 1522 = (1, 1, 0, 0, 0) := by decide +kernel
theorem c_331_1523 : pg_cd 331 1523 = (91, 0, 0, 0, 0) := by decide +kernel
theorem c_331_1524 : pg_cd 331 1524 = (5, 1, 0, 1, 0) := by decide +kernel
theorem c_331_1525 : pg_cd 331 1525 = (5, 1, 0, 0, 0) := by decide +kernel
theorem c_331_1526 : pg_cd 331 1526 = (3, 1, 0, 3, 0) := by decide +kernel
theorem c_331_1527 : pg_cd 331 1527 = (1, 1, 0, 0, 1) := by decide +kernel
theorem c_331_1528 : pg_cd 331 1528 = (10, 1, 0, 0, 0) := by decide +kernel
theorem c_331_1529 : pg_cd 331 1529 = (50, 1, 0, 0, 0) := by decide +kernel
theorem c_331_1530 : pg_cd 331 1530 = (5, 1, 0, 0, 0) := by decide +kernel
theorem c_331_1531 : pg_cd 331 1531 = (3, 1, 0, 3, 0) := by decide +kernel
theorem c_331_1532 : pg_cd 331 1532 = (1, 1, 0, 0, 2) := by decide +kernel
theorem c_331_1533 : pg_cd 331 1533 = (10, 1, 0, 0, 0) := by decide +kernel
theorem c_331_1534 : pg_cd 331 1534 = (50, 1, 0, 0, 0) := by decide +kernel
theorem c_331_1535 : pg_cd 331 1535 = (5, 1, 0, 0, 0) := by decide +kernel
theorem c_331_1536 : pg_cd 331 1536 = (3, 1, 0, 3, 0) := by decide +kernel
theorem c_331_1537 : pg_cd 331 1537 = (1, 1, 0, 0, 3) := by decide +kernel
theorem c_331_1538 : pg_cd 331 1538 = (10, 1, 0, 0, 0) := by decide +kernel
theorem c_331_1539 : pg_cd 331 1539 = (50, 1, 0, 0, 0) := by decide +kernel
theorem c_331_1540 : pg_cd 331 1540 = (5, 1, 0, 0, 0) := by decide +kernel
theorem c_331_1541 : pg_cd 331 1541 = (3, 1, 0, 3, 0) := by decide +kernel
theorem c_331_1542 : pg_cd 331 1542 = (1, 1, 0, 0, 4) := by decide +kernel
theorem c_331_1543 : pg_cd 331 1543 = (10, 1, 0, 0, 0) := by decide +kernel
theorem c_331_1544 : pg_cd 331 1544 = (50, 1, 0, 0, 0) := by decide +kernel
theorem c_331_1545 : pg_cd 331 1545 = (80, 183, 152, 0, 0) := by decide +kernel
theorem c_331_1548 : pg_cd 331 1548 = (5, 1, 0, 2, 0) := by decide +kernel
theorem c_331_1549 : pg_cd 331 1549 = (5, 1, 0, 0, 0) := by decide +kernel
theorem c_331_1550 : pg_cd 331 1550 = (3, 1, 0, 3, 0) := by decide +kernel
theorem c_331_1551 : pg_cd 331 1551 = (1, 1, 0, 0, 1) := by decide +kernel
theorem c_331_1552 : pg_cd 331 1552 = (10, 1, 0, 0, 0) := by decide +kernel
theorem c_331_1553 : pg_cd 331 1553 = (50, 1, 0, 0, 0) := by decide +kernel
theorem c_331_1554 : pg_cd 331 1554 = (5, 1, 0, 0, 0) := by decide +kernel
theorem c_331_1555 : pg_cd 331 1555 = (3, 1, 0, 3, 0) := by decide +kernel
theorem c_331_1556 : pg_cd 331 1556 = (1, 1, 0, 0, 2) := by decide +kernel
theorem c_331_1557 : pg_cd 331 1557 = (10, 1, 0, 0, 0) := by decide +kernel
theorem c_331_1558 : pg_cd 331 1558 = (50, 1, 0, 0, 0) := by decide +kernel
theorem c_331_1559 : pg_cd 331 1559 = (5, 1, 0, 0, 0) := by decide +kernel
theorem c_331_1560 : pg_cd 331 1560 = (3, 1, 0, 3, 0) := by decide +kernel
theorem c_331_1561 : pg_cd 331 1561 = (1, 1, 0, 0, 3) := by decide +kernel
theorem c_331_1562 : pg_cd 331 1562 = (10, 1, 0, 0, 0) := by decide +kernel
theorem c_331_1563 : pg_cd 331 1563 = (50, 1, 0, 0, 0) := by decide +kernel
theorem c_331_1564 : pg_cd 331 1564 = (5, 1, 0, 0, 0) := by decide +kernel
theorem c_331_1565 : pg_cd 331 1565 = (3, 1, 0, 3, 0) := by decide +kernel
theorem c_331_1566 : pg_cd 331 1566 = (1, 1, 0, 0, 4) := by decide +kernel
theorem c_331_1567 : pg_cd 331 1567 = (10, 1, 0, 0, 0) := by decide +kernel
theorem c_331_1568 : pg_cd 331 1568 = (50, 1, 0, 0, 0) := by decide +kernel
theorem c_331_1569 : pg_cd 331 1569 = (80, 310, 155, 0, 0) := by decide +kernel
theorem c_331_1572 : pg_cd 331 1572 = (37, 3, 0, 0, 275) := by decide +kernel
theorem c_331_1575 : pg_cd 331 1575 = (1, 1, 0, 0, 0) := by decide +kernel
theorem c_331_1576 : pg_cd 331 1576 = (91, 0, 0, 0, 0) := by decide +kernel
theorem c_331_1577 : pg_cd 331 1577 = (5, 1, 0, 1, 0) := by decide +kernel
theorem c_331_1578 : pg_cd 331 1578 = (5, 1, 0, 0, 0) := by decide +kernel
theorem c_331_1579 : pg_cd 331 1579 = (3, 1, 0, 3, 0) := by decide +kernel
theorem c_331_1580 : pg_cd 331 1580 = (1, 1, 0, 0, 1) := by decide +kernel
theorem c_331_1581 : pg_cd 331 1581 = (10, 1, 0, 0, 0) := by decide +kernel
theorem c_331_1582 : pg_cd 331 1582 = (50, 1, 0, 0, 0) := by decide +kernel
theorem c_331_1583 : pg_cd 331 1583 = (5, 1, 0, 0, 0) := by decide +kernel
theorem c_331_1584 : pg_cd 331 1584 = (3, 1, 0, 3, 0) := by decide +kernel
theorem c_331_1585 : pg_cd 331 1585 = (1, 1, 0, 0, 2) := by decide +kernel
theorem c_331_1586 : pg_cd 331 1586 = (10, 1, 0, 0, 0) := by decide +kernel
theorem c_331_1587 : pg_cd 331 1587 = (50, 1, 0, 0, 0) := by decide +kernel
theorem c_331_1588 : pg_cd 331 1588 = (80, 184, 156, 0, 0) := by decide +kernel
theorem c_331_1591 : pg_cd 331 1591 = (5, 1, 0, 2, 0) := by decide +kernel
theorem c_331_1592 : pg_cd 331 1592 = (5, 1, 0, 0, 0) := by decide +kernel
theorem c_331_1593 : pg_cd 331 1593 = (3, 1, 0, 3, 0) := by decide +kernel
theorem c_331_1594 : pg_cd 331 1594 = (1, 1, 0, 0, 1) := by decide +kernel
theorem c_331_1595 : pg_cd 331 1595 = (10, 1, 0, 0, 0) := by decide +kernel
theorem c_331_1596 : pg_cd 331 1596 = (50, 1, 0, 0, 0) := by decide +kernel
theorem c_331_1597 : pg_cd 331 1597 = (5, 1, 0, 0, 0) := by decide +kernel
theorem c_331_1598 : pg_cd 331 1598 = (3, 1, 0, 3, 0) := by decide +kernel
theorem c_331_1599 : pg_cd 331 1599 = (1, 1, 0, 0, 2) := by decide +kernel
theorem c_331_1600 : pg_cd 331 1600 = (10, 1, 0, 0, 0) := by decide +kernel
theorem c_331_1601 : pg_cd 331 1601 = (50, 1, 0, 0, 0) := by decide +kernel
theorem c_331_1602 : pg_cd 331 1602 = (80, 311, 159, 0, 0) := by decide +kernel
theorem c_331_1605 : pg_cd 331 1605 = (37, 3, 0, 0, 242) := by decide +kernel
theorem c_331_1608 : pg_cd 331 1608 = (1, 1, 0, 0, 0) := by decide +kernel
theorem c_331_1609 : pg_cd 331 1609 = (91, 0, 0, 0, 0) := by decide +kernel
theorem c_331_1610 : pg_cd 331 1610 = (5, 1, 0, 1, 0) := by decide +kernel
theorem c_331_1611 : pg_cd 331 1611 = (5, 1, 0, 0, 0) := by decide +kernel
theorem c_331_1612 : pg_cd 331 1612 = (3, 1, 0, 3, 0) := by decide +kernel
theorem c_331_1613 : pg_cd 331 1613 = (1, 1, 0, 0, 1) := by decide +kernel
theorem c_331_1614 : pg_cd 331 1614 = (10, 1, 0, 0, 0) := by decide +kernel
theorem c_331_1615 : pg_cd 331 1615 = (50, 1, 0, 0, 0) := by decide +kernel
theorem c_331_1616 : pg_cd 331 1616 = (5, 1, 0, 0, 0) := by decide +kernel
theorem c_331_1617 : pg_cd 331 1617 = (3, 1, 0, 3, 0) := by decide +kernel
theorem c_331_1618 : pg_cd 331 1618 = (1, 1, 0, 0, 2) := by decide +kernel
theorem c_331_1619 : pg_cd 331 1619 = (10, 1, 0, 0, 0) := by decide +kernel
theorem c_331_1620 : pg_cd 331 1620 = (50, 1, 0, 0, 0) := by decide +kernel
theorem c_331_1621 : pg_cd 331 1621 = (80, 185, 160, 0, 0) := by decide +kernel
theorem c_331_1624 : pg_cd 331 1624 = (5, 1, 0, 2, 0) := by decide +kernel
theorem c_331_1625 : pg_cd 331 1625 = (5, 1, 0, 0, 0) := by decide +kernel
theorem c_331_1626 : pg_cd 331 1626 = (3, 1, 0, 3, 0) := by decide +kernel
theorem c_331_1627 : pg_cd 331 1627 = (1, 1, 0, 0, 1) := by decide +kernel
theorem c_331_1628 : pg_cd 331 1628 = (10, 1, 0, 0, 0) := by decide +kernel
theorem c_331_1629 : pg_cd 331 1629 = (50, 1, 0, 0, 0) := by decide +kernel
theorem c_331_1630 : pg_cd 331 1630 = (5, 1, 0, 0, 0) := by decide +kernel
theorem c_331_1631 : pg_cd 331 1631 = (3, 1, 0, 3, 0) := by decide +kernel
theorem c_331_1632 : pg_cd 331 1632 = (1, 1, 0, 0, 2) := by decide +kernel
theorem c_331_1633 : pg_cd 331 1633 = (10, 1, 0, 0, 0) := by decide +kernel
theorem c_331_1634 : pg_cd 331 1634 = (50, 1, 0, 0, 0) := by decide +kernel
theorem c_331_1635 : pg_cd 331 1635 = (80, 315, 163, 0, 0) := by decide +kernel
theorem c_331_1638 : pg_cd 331 1638 = (37, 3, 0, 0, 209) := by decide +kernel
theorem c_331_1641 : pg_cd 331 1641 = (1, 1, 0, 0, 0) := by decide +kernel
theorem c_331_1642 : pg_cd 331 1642 = (91, 0, 0, 0, 0) := by decide +kernel
theorem c_331_1643 : pg_cd 331 1643 = (5, 1, 0, 1, 0) := by decide +kernel
theorem c_331_1644 : pg_cd 331 1644 = (5, 1, 0, 0, 0) := by decide +kernel
theorem c_331_1645 : pg_cd 331 1645 = (3, 1, 0, 3, 0) := by decide +kernel
theorem c_331_1646 : pg_cd 331 1646 = (1, 1, 0, 0, 1) := by decide +kernel
theorem c_331_1647 : pg_cd 331 1647 = (10, 1, 0, 0, 0) := by decide +kernel
theorem c_331_1648 : pg_cd 331 1648 = (50, 1, 0, 0, 0) := by decide +kernel
theorem c_331_1649 : pg_cd 331 1649 = (5, 1, 0, 0, 0) := by decide +kernel
theorem c_331_1650 : pg_cd 331 1650 = (3, 1, 0, 3, 0) := by decide +kernel
theorem c_331_1651 : pg_cd 331 1651 = (1, 1, 0, 0, 2) := by decide +kernel
theorem c_331_1652 : pg_cd 331 1652 = (10, 1, 0, 0, 0) := by decide +kernel
theorem c_331_1653 : pg_cd 331 1653 = (50, 1, 0, 0, 0) := by decide +kernel
theorem c_331_1654 : pg_cd 331 1654 = (80, 186, 164, 0, 0) := by decide +kernel
theorem c_331_1657 : pg_cd 331 1657 = (5, 1, 0, 2, 0) := by decide +kernel
theorem c_331_1658 : pg_cd 331 1658 = (5, 1, 0, 0, 0) := by decide +kernel
theorem c_331_1659 : pg_cd 331 1659 = (3, 1, 0, 3, 0) := by decide +kernel
theorem c_331_1660 : pg_cd 331 1660 = (1, 1, 0, 0, 1) := by decide +kernel
theorem c_331_1661 : pg_cd 331 1661 = (10, 1, 0, 0, 0) := by decide +kernel
theorem c_331_1662 : pg_cd 331 1662 = (50, 1, 0, 0, 0) := by decide +kernel
theorem c_331_1663 : pg_cd 331 1663 = (5, 1, 0, 0, 0) := by decide +kernel
theorem c_331_1664 : pg_cd 331 1664 = (3, 1, 0, 3, 0) := by decide +kernel
theorem c_331_1665 : pg_cd 331 1665 = (1, 1, 0, 0, 2) := by decide +kernel
theorem c_331_1666 : pg_cd 331 1666 = (10, 1, 0, 0, 0) := by decide +kernel
theorem c_331_1667 : pg_cd 331 1667 = (50, 1, 0, 0, 0) := by decide +kernel
theorem c_331_1668 : pg_cd 331 1668 = (80, 317, 167, 0, 0) := by decide +kernel
theorem c_331_1671 : pg_cd 331 1671 = (37, 3, 0, 0, 176) := by decide +kernel
theorem c_331_1674 : pg_cd 331 1674 = (1, 1, 0, 0, 0) := by decide +kernel
theorem c_331_1675 : pg_cd 331 1675 = (91, 0, 0, 0, 0) := by decide +kernel
theorem c_331_1676 : pg_cd 331 1676 = (5, 1, 0, 1, 0) := by decide +kernel
theorem c_331_1677 : pg_cd 331 1677 = (5, 1, 0, 0, 0) := by decide +kernel
theorem c_331_1678 : pg_cd 331 1678 = (3, 1, 0, 3, 0) := by decide +kernel
theorem c_331_1679 : pg_cd 331 1679 = (1, 1, 0, 0, 1) := by decide +kernel
theorem c_331_1680 : pg_cd 331 1680 = (10, 1, 0, 0, 0) := by decide +kernel
theorem c_331_1681 : pg_cd 331 1681 = (50, 1, 0, 0, 0) := by decide +kernel
theorem c_331_1682 : pg_cd 331 1682 = (80, 187, 168, 0, 0) := by decide +kernel
theorem c_331_1685 : pg_cd 331 1685 = (5, 1, 0, 2, 0) := by decide +kernel
theorem c_331_1686 : pg_cd 331 1686 = (5, 1, 0, 0, 0) := by decide +kernel
theorem c_331_1687 : pg_cd 331 1687 = (3, 1, 0, 3, 0) := by decide +kernel
theorem c_331_1688 : pg_cd 331 1688 = (1, 1, 0, 0, 1) := by decide +kernel
theorem c_331_1689 : pg_cd 331 1689 = (10, 1, 0, 0, 0) := by decide +kernel
theorem c_331_1690 : pg_cd 331 1690 = (50, 1, 0, 0, 0) := by decide +kernel
theorem c_331_1691 : pg_cd 331 1691 = (80, 319, 172, 0, 0) := by decide +kernel
theorem c_331_1694 : pg_cd 331 1694 = (37, 3, 0, 0, 153) := by decide +kernel
theorem c_331_1697 : pg_cd 331 1697 = (1, 1, 0, 0, 0) := by decide +kernel
theorem c_331_1698 : pg_cd 331 1698 = (91, 0, 0, 0, 0) := by decide +kernel
theorem c_331_1699 : pg_cd 331 1699 = (5, 1, 0, 1, 0) := by decide +kernel
theorem c_331_1700 : pg_cd 331 1700 = (5, 1, 0, 0, 0) := by decide +kernel
theorem c_331_1701 : pg_cd 331 1701 = (3, 1, 0, 3, 0) := by decide +kernel
theorem c_331_1702 : pg_cd 331 1702 = (1, 1, 0, 0, 1) := by decide +kernel
theorem c_331_1703 : pg_cd 331 1703 = (10, 1, 0, 0, 0) := by decide +kernel
theorem c_331_1704 : pg_cd 331 1704 = (50, 1, 0, 0, 0) := by decide +kernel
theorem c_331_1705 : pg_cd 331 1705 = (5, 1, 0, 0, 0) := by decide +kernel
theorem c_331_1706 : pg_cd 331 1706 = (3, 1, 0, 3, 0) := by decide +kernel
theorem c_331_1707 : pg_cd 331 1707 = (1, 1, 0, 0, 2) := by decide +kernel
theorem c_331_1708 : pg_cd 331 1708 = (10, 1, 0, 0, 0) := by decide +kernel
theorem c_331_1709 : pg_cd 331 1709 = (50, 1, 0, 0, 0) := by decide +kernel
theorem c_331_1710 : pg_cd 331 1710 = (80, 188, 173, 0, 0) := by decide +kernel
theorem c_331_1713 : pg_cd 331 1713 = (5, 1, 0, 2, 0) := by decide +kernel
theorem c_331_1714 : pg_cd 331 1714 = (5, 1, 0, 0, 0) := by decide +kernel
theorem c_331_1715 : pg_cd 331 1715 = (3, 1, 0, 3, 0) := by decide +kernel
theorem c_331_1716 : pg_cd 331 1716 = (1, 1, 0, 0, 1) := by decide +kernel
theorem c_331_1717 : pg_cd 331 1717 = (10, 1, 0, 0, 0) := by decide +kernel
theorem c_331_1718 : pg_cd 331 1718 = (50, 1, 0, 0, 0) := by decide +kernel
theorem c_331_1719 : pg_cd 331 1719 = (5, 1, 0, 0, 0) := by decide +kernel
theorem c_331_1720 : pg_cd 331 1720 = (3, 1, 0, 3, 0) := by decide +kernel
theorem c_331_1721 : pg_cd 331 1721 = (1, 1, 0, 0, 2) := by decide +kernel
theorem c_331_1722 : pg_cd 331 1722 = (10, 1, 0, 0, 0) := by decide +kernel
theorem c_331_1723 : pg_cd 331 1723 = (50, 1, 0, 0, 0) := by decide +kernel
theorem c_331_1724 : pg_cd 331 1724 = (80, 321, 176, 0, 0) := by decide +kernel
theorem c_331_1727 : pg_cd 331 1727 = (37, 3, 0, 0, 120) := by decide +kernel
theorem c_331_1730 : pg_cd 331 1730 = (1, 1, 0, 0, 0) := by decide +kernel
theorem c_331_1731 : pg_cd 331 1731 = (91, 0, 0, 0, 0) := by decide +kernel
theorem c_331_1732 : pg_cd 331 1732 = (5, 1, 0, 1, 0) := by decide +kernel
theorem c_331_1733 : pg_cd 331 1733 = (5, 1, 0, 0, 0) := by decide +kernel
theorem c_331_1734 : pg_cd 331 1734 = (3, 1, 0, 3, 0) := by decide +kernel
theorem c_331_1735 : pg_cd 331 1735 = (1, 1, 0, 0, 1) := by decide +kernel
theorem c_331_1736 : pg_cd 331 1736 = (10, 1, 0, 0, 0) := by decide +kernel
theorem c_331_1737 : pg_cd 331 1737 = (50, 1, 0, 0, 0) := by decide +kernel
theorem c_331_1738 : pg_cd 331 1738 = (5, 1, 0, 0, 0) := by decide +kernel
theorem c_331_1739 : pg_cd 331 1739 = (3, 1, 0, 3, 0) := by decide +kernel
theorem c_331_1740 : pg_cd 331 1740 = (1, 1, 0, 0, 2) := by decide +kernel
theorem c_331_1741 : pg_cd 331 1741 = (10, 1, 0, 0, 0) := by decide +kernel
theorem c_331_1742 : pg_cd 331 1742 = (50, 1, 0, 0, 0) := by decide +kernel
theorem c_331_1743 : pg_cd 331 1743 = (5, 1, 0, 0, 0) := by decide +kernel
theorem c_331_1744 : pg_cd 331 1744 = (3, 1, 0, 3, 0) := by decide +kernel
theorem c_331_1745 : pg_cd 331 1745 = (1, 1, 0, 0, 3) := by decide +kernel
theorem c_331_1746 : pg_cd 331 1746 = (10, 1, 0, 0, 0) := by decide +kernel
theorem c_331_1747 : pg_cd 331 1747 = (50, 1, 0, 0, 0) := by decide +kernel
theorem c_331_1748 : pg_cd 331 1748 = (80, 189, 177, 0, 0) := by decide +kernel
theorem c_331_1751 : pg_cd 331 1751 = (5, 1, 0, 2, 0) := by decide +kernel
theorem c_331_1752 : pg_cd 331 1752 = (5, 1, 0, 0, 0) := by decide +kernel
theorem c_331_1753 : pg_cd 331 1753 = (3, 1, 0, 3, 0) := by decide +kernel
theorem c_331_1754 : pg_cd 331 1754 = (1, 1, 0, 0, 1) := by decide +kernel
theorem c_331_1755 : pg_cd 331 1755 = (10, 1, 0, 0, 0) := by decide +kernel
theorem c_331_1756 : pg_cd 331 1756 = (50, 1, 0, 0, 0) := by decide +kernel
theorem c_331_1757 : pg_cd 331 1757 = (5, 1, 0, 0, 0) := by decide +kernel
theorem c_331_1758 : pg_cd 331 1758 = (3, 1, 0, 3, 0) := by decide +kernel
theorem c_331_1759 : pg_cd 331 1759 = (1, 1, 0, 0, 2) := by decide +kernel
theorem c_331_1760 : pg_cd 331 1760 = (10, 1, 0, 0, 0) := by decide +kernel
theorem c_331_1761 : pg_cd 331 1761 = (50, 1, 0, 0, 0) := by decide +kernel
theorem c_331_1762 : pg_cd 331 1762 = (5, 1, 0, 0, 0) := by decide +kernel
theorem c_331_1763 : pg_cd 331 1763 = (3, 1, 0, 3, 0) := by decide +kernel
theorem c_331_1764 : pg_cd 331 1764 = (1, 1, 0, 0, 3) := by decide +kernel
theorem c_331_1765 : pg_cd 331 1765 = (10, 1, 0, 0, 0) := by decide +kernel
theorem c_331_1766 : pg_cd 331 1766 = (50, 1, 0, 0, 0) := by decide +kernel
theorem c_331_1767 : pg_cd 331 1767 = (80, 322, 180, 0, 0) := by decide +kernel
theorem c_331_1770 : pg_cd 331 1770 = (37, 3, 0, 0, 77) := by decide +kernel
theorem c_331_1773 : pg_cd 331 1773 = (1, 1, 0, 0, 0) := by decide +kernel
theorem c_331_1774 : pg_cd 331 1774 = (91, 0, 0, 0, 0) := by decide +kernel
theorem c_331_1775 : pg_cd 331 1775 = (5, 1, 0, 1, 0) := by decide +kernel
theorem c_331_1776 : pg_cd 331 1776 = (5, 1, 0, 0, 0) := by decide +kernel
theorem c_331_1777 : pg_cd 331 1777 = (3, 1, 0, 3, 0) := by decide +kernel
theorem c_331_1778 : pg_cd 331 1778 = (1, 1, 0, 0, 1) := by decide +kernel
theorem c_331_1779 : pg_cd 331 1779 = (10, 1, 0, 0, 0) := by decide +kernel
theorem c_331_1780 : pg_cd 331 1780 = (50, 1, 0, 0, 0) := by decide +kernel
theorem c_331_1781 : pg_cd 331 1781 = (80, 190, 181, 0, 0) := by decide +kernel
theorem c_331_1784 : pg_cd 331 1784 = (5, 1, 0, 2, 0) := by decide +kernel
theorem c_331_1785 : pg_cd 331 1785 = (5, 1, 0, 0, 0) := by decide +kernel
theorem c_331_1786 : pg_cd 331 1786 = (3, 1, 0, 3, 0) := by decide +kernel
theorem c_331_1787 : pg_cd 331 1787 = (1, 1, 0, 0, 1) := by decide +kernel
theorem c_331_1788 : pg_cd 331 1788 = (10, 1, 0, 0, 0) := by decide +kernel
theorem c_331_1789 : pg_cd 331 1789 = (50, 1, 0, 0, 0) := by decide +kernel
theorem c_331_1790 : pg_cd 331 1790 = (80, 323, 184, 0, 0) := by decide +kernel
theorem c_331_1793 : pg_cd 331 1793 = (37, 3, 0, 0, 54) := by decide +kernel
theorem c_331_1796 : pg_cd 331 1796 = (1, 1, 0, 0, 0) := by decide +kernel
theorem c_331_1797 : pg_cd 331 1797 = (91, 0, 0, 0, 0) := by decide +kernel
theorem c_331_1798 : pg_cd 331 1798 = (5, 1, 0, 1, 0) := by decide +kernel
theorem c_331_1799 : pg_cd 331 1799 = (80, 191, 185, 0, 0) := by decide +kernel
theorem c_331_1802 : pg_cd 331 1802 = (5, 1, 0, 2, 0) := by decide +kernel
theorem c_331_1803 : pg_cd 331 1803 = (80, 324, 188, 0, 0) := by decide +kernel
theorem c_331_1806 : pg_cd 331 1806 = (37, 3, 0, 0, 41) := by decide +kernel
theorem c_331_1809 : pg_cd 331 1809 = (1, 1, 0, 0, 0) := by decide +kernel
theorem c_331_1810 : pg_cd 331 1810 = (91, 0, 0, 0, 0) := by decide +kernel
theorem c_331_1811 : pg_cd 331 1811 = (5, 1, 0, 1, 0) := by decide +kernel
theorem c_331_1812 : pg_cd 331 1812 = (80, 192, 189, 0, 0) := by decide +kernel
theorem c_331_1815 : pg_cd 331 1815 = (5, 1, 0, 2, 0) := by decide +kernel
theorem c_331_1816 : pg_cd 331 1816 = (80, 325, 192, 0, 0) := by decide +kernel
theorem c_331_1819 : pg_cd 331 1819 = (37, 3, 0, 0, 28) := by decide +kernel
theorem c_331_1822 : pg_cd 331 1822 = (1, 1, 0, 0, 0) := by decide +kernel
theorem c_331_1823 : pg_cd 331 1823 = (91, 0, 0, 0, 0) := by decide +kernel
theorem c_331_1824 : pg_cd 331 1824 = (5, 1, 0, 1, 0) := by decide +kernel
theorem c_331_1825 : pg_cd 331 1825 = (5, 1, 0, 0, 0) := by decide +kernel
theorem c_331_1826 : pg_cd 331 1826 = (3, 1, 0, 3, 0) := by decide +kernel
theorem c_331_1827 : pg_cd 331 1827 = (1, 1, 0, 0, 1) := by decide +kernel
theorem c_331_1828 : pg_cd 331 1828 = (10, 1, 0, 0, 0) := by decide +kernel
theorem c_331_1829 : pg_cd 331 1829 = (50, 1, 0, 0, 0) := by decide +kernel
theorem c_331_1830 : pg_cd 331 1830 = (80, 193, 193, 0, 0) := by decide +kernel
theorem c_331_1833 : pg_cd 331 1833 = (5, 1, 0, 2, 0) := by decide +kernel
theorem c_331_1834 : pg_cd 331 1834 = (5, 1, 0, 0, 0) := by decide +kernel
theorem c_331_1835 : pg_cd 331 1835 = (3, 1, 0, 3, 0) := by decide +kernel
theorem c_331_1836 : pg_cd 331 1836 = (1, 1, 0, 0, 1) := by decide +kernel
theorem c_331_1837 : pg_cd 331 1837 = (10, 1, 0, 0, 0) := by decide +kernel
theorem c_331_1838 : pg_cd 331 1838 = (50, 1, 0, 0, 0) := by decide +kernel
theorem c_331_1839 : pg_cd 331 1839 = (80, 326, 196, 0, 0) := by decide +kernel
theorem c_331_1842 : pg_cd 331 1842 = (37, 3, 0, 0, 5) := by decide +kernel
theorem c_331_1845 : pg_cd 331 1845 = (1, 1, 0, 0, 0) := by decide +kernel
theorem c_331_1846 : pg_cd 331 1846 = (91, 0, 0, 0, 0) := by decide +kernel
theorem c_331_1847 : pg_cd 331 1847 = (9, 3, 0, 3, 7) := by decide +kernel
theorem c_331_1850 : pg_cd 331 1850 = (38, 3, 0, 0, (-1832)) := by decide +kernel
theorem c_331_1853 : pg_cd 331 1853 = (1, 1, 0, 0, 1) := by decide +kernel
theorem c_331_1854 : pg_cd 331 1854 = (91, 0, 0, 0, 0) := by decide +kernel
theorem mx_331 : pg_mx 331 = 4 := by decide +kernel
theorem m_331 {d : Nat} {h : ab_H} {Q : Option Value → ab_H → Prop} {x0 : Nat} (t : wq d 331 0 [.ref x0, .retAddr 0, .retAddr 0, .retAddr 0] [] h Q) : wm d 331 [.ref x0] h Q := by
  unfold wm
  rw [mx_331]
  exact t
set_option maxRecDepth 20000 in
theorem t_331_0 {d : Nat} {h : ab_H} {Q : Option Value → ab_H → Prop} {x0 : Nat} (t : ∀ h1 : ab_H, h1 = ab_new h 111 0 12 → ab_ok h1 (ab_n h) 111 = true ∧ wm d 140 [.ref ((ab_n h))] h1 (fun r9 h9 => wq (d + 1) 331 7 [.ref x0, .retAddr 0, .retAddr 0, .retAddr 0] (r9.toList ++ [.ref (ab_n h)]) h9 Q)) : wq (d + 1) 331 0 [.ref x0, .retAddr 0, .retAddr 0, .retAddr 0] [] h Q := by
  refine g60 c_331_0 (fun h1 eh1 => ?_)
  have t := t h1 eh1
  refine g33a c_331_3 ?_
  exact g80 (As := []) (rest := [.ref (ab_n h)]) c_331_4 rfl rfl (Nat.le_of_ble_eq_true rfl) (Nat.le_of_ble_eq_true rfl) t.1 t.2
set_option maxRecDepth 20000 in
theorem t_331_7 {d : Nat} {h : ab_H} {Q : Option Value → ab_H → Prop} {x0 : Nat} {s0 : Nat} (t : ∀ h1 : ab_H, h1 = ab_new h 112 0 43 → ab_ok h1 (ab_n h) 112 = true ∧ wm d 194 [.ref ((ab_n h))] h1 (fun r9 h9 => wq (d + 1) 331 15 [.ref x0, .ref s0, .retAddr 0, .retAddr 0] (r9.toList ++ [.ref (ab_n h)]) h9 Q)) : wq (d + 1) 331 7 [.ref x0, .retAddr 0, .retAddr 0, .retAddr 0] [.ref s0] h Q := by
  refine g8 (L' := [.ref x0, .ref s0, .retAddr 0, .retAddr 0]) c_331_7 rfl ?_
  refine g60 c_331_8 (fun h1 eh1 => ?_)
  have t := t h1 eh1
  refine g33a c_331_11 ?_
  exact g80 (As := []) (rest := [.ref (ab_n h)]) c_331_12 rfl rfl (Nat.le_of_ble_eq_true rfl) (Nat.le_of_ble_eq_true rfl) t.1 t.2
set_option maxRecDepth 20000 in
theorem t_331_15 {d : Nat} {h : ab_H} {Q : Option Value → ab_H → Prop} {x0 : Nat} {x1 : Nat} {s0 : Nat} (t : wq d 331 18 [.ref x0, .ref x1, .ref s0, .int 0] [] h Q) : wq d 331 15 [.ref x0, .ref x1, .retAddr 0, .retAddr 0] [.ref s0] h Q := by
  refine g8 (L' := [.ref x0, .ref x1, .ref s0, .retAddr 0]) c_331_15 rfl ?_
  refine g1 c_331_16 k_0 ?_
  refine g6 (L' := [.ref x0, .ref x1, .ref s0, .int 0]) c_331_17 rfl ?_
  exact t
set_option maxRecDepth 20000 in
theorem t_331_18 {d : Nat} {h : ab_H} {Q : Option Value → ab_H → Prop} {x0 : Nat} {x1 : Nat} {x2 : Nat} {x3 : Int32} (t : ((x0 = 0 ∧ 0 = 0) ∨ ab_ok h x0 0 = true) ∧ if ((Int32.ofNat (ab_s h x0).2) - 7) < x3 then (Q (some (.int 1)) h) else (((x0 = 0 ∨ ab_ok h x0 0 = true) ∧ ab_in x3 (ab_s h x0).2 = true) ∧ if ((ab_i h x0 (Int32.toNatClampNeg x3)) &&& 63) = 0 then (((x0 = 0 ∨ ab_ok h x0 0 = true) ∧ ab_in (x3 + 1) (ab_s h x0).2 = true) ∧ ((x0 = 0 ∨ ab_ok h x0 0 = true) ∧ ab_in (x3 + 2) (ab_s h x0).2 = true) ∧ ((x0 = 0 ∨ ab_ok h x0 0 = true) ∧ ab_in (x3 + 3) (ab_s h x0).2 = true) ∧ ((x0 = 0 ∨ ab_ok h x0 0 = true) ∧ ab_in (x3 + 4) (ab_s h x0).2 = true) ∧ ((x0 = 0 ∨ ab_ok h x0 0 = true) ∧ ab_in (x3 + 5) (ab_s h x0).2 = true) ∧ ((x0 = 0 ∨ ab_ok h x0 0 = true) ∧ ab_in (x3 + 6) (ab_s h x0).2 = true) ∧ ab_ok h x1 111 = true ∧ wm d 145 [.ref x1, .int (ab_i h x0 (Int32.toNatClampNeg (x3 + 1))), .int (ab_i h x0 (Int32.toNatClampNeg (x3 + 2))), .int (ab_i h x0 (Int32.toNatClampNeg (x3 + 3))), .int (ab_i h x0 (Int32.toNatClampNeg (x3 + 4))), .int (ab_i h x0 (Int32.toNatClampNeg (x3 + 5))), .int (ab_i h x0 (Int32.toNatClampNeg (x3 + 6)))] h (fun r9 h9 => wq (d + 1) 331 255 [.ref x0, .ref x1, .ref x2, .int x3] (r9.toList ++ []) h9 Q)) else (if ((ab_i h x0 (Int32.toNatClampNeg x3)) &&& 63) = 1 then (((x0 = 0 ∨ ab_ok h x0 0 = true) ∧ ab_in (x3 + 1) (ab_s h x0).2 = true) ∧ ((x0 = 0 ∨ ab_ok h x0 0 = true) ∧ ab_in (x3 + 2) (ab_s h x0).2 = true) ∧ ((x0 = 0 ∨ ab_ok h x0 0 = true) ∧ ab_in (x3 + 3) (ab_s h x0).2 = true) ∧ ab_ok h x1 111 = true ∧ wm d 146 [.ref x1, .int (ab_i h x0 (Int32.toNatClampNeg (x3 + 1))), .int (ab_i h x0 (Int32.toNatClampNeg (x3 + 2))), .int (ab_i h x0 (Int32.toNatClampNeg (x3 + 3)))] h (fun r9 h9 => wq (d + 1) 331 314 [.ref x0, .ref x1, .ref x2, .int x3] (r9.toList ++ []) h9 Q)) else (if ((ab_i h x0 (Int32.toNatClampNeg x3)) &&& 63) = 2 then (((x0 = 0 ∨ ab_ok h x0 0 = true) ∧ ab_in (x3 + 1) (ab_s h x0).2 = true) ∧ ((x0 = 0 ∨ ab_ok h x0 0 = true) ∧ ab_in (x3 + 2) (ab_s h x0).2 = true) ∧ ab_ok h x1 111 = true ∧ wm d 147 [.ref x1, .int (ab_i h x0 (Int32.toNatClampNeg (x3 + 1))), .int (ab_i h x0 (Int32.toNatClampNeg (x3 + 2)))] h (fun r9 h9 => wq (d + 1) 331 352 [.ref x0, .ref x1, .ref x2, .int x3] (r9.toList ++ []) h9 Q)) else (if ((ab_i h x0 (Int32.toNatClampNeg x3)) &&& 63) = 3 then (((x0 = 0 ∨ ab_ok h x0 0 = true) ∧ ab_in (x3 + 1) (ab_s h x0).2 = true) ∧ ((x0 = 0 ∨ ab_ok h x0 0 = true) ∧ ab_in (x3 + 2) (ab_s h x0).2 = true) ∧ ab_ok h x1 111 = true ∧ wm d 148 [.ref x1, .int (ab_i h x0 (Int32.toNatClampNeg (x3 + 1))), .int (ab_i h x0 (Int32.toNatClampNeg (x3 + 2)))] h (fun r9 h9 => wq (d + 1) 331 385 [.ref x0, .ref x1, .ref x2, .int x3] (r9.toList ++ []) h9 Q)) else (if ((ab_i h x0 (Int32.toNatClampNeg x3)) &&& 63) = 4 then (((x0 = 0 ∨ ab_ok h x0 0 = true) ∧ ab_in (x3 + 1) (ab_s h x0).2 = true) ∧ ((x0 = 0 ∨ ab_ok h x0 0 = true) ∧ ab_in (x3 + 2) (ab_s h x0).2 = true) ∧ ((x0 = 0 ∨ ab_ok h x0 0 = true) ∧ ab_in (x3 + 3) (ab_s h x0).2 = true) ∧ ((x0 = 0 ∨ ab_ok h x0 0 = true) ∧ ab_in (x3 + 4) (ab_s h x0).2 = true) ∧ ab_ok h x1 111 = true ∧ wm d 149 [.ref x1, .int (ab_i h x0 (Int32.toNatClampNeg (x3 + 1))), .int (ab_i h x0 (Int32.toNatClampNeg (x3 + 2))), .int (ab_i h x0 (Int32.toNatClampNeg (x3 + 3))), .int (ab_i h x0 (Int32.toNatClampNeg (x3 + 4)))] h (fun r9 h9 => wq (d + 1) 331 428 [.ref x0, .ref x1, .ref x2, .int x3] (r9.toList ++ []) h9 Q)) else (if ((ab_i h x0 (Int32.toNatClampNeg x3)) &&& 63) = 5 then (((x0 = 0 ∨ ab_ok h x0 0 = true) ∧ ab_in (x3 + 1) (ab_s h x0).2 = true) ∧ ((x0 = 0 ∨ ab_ok h x0 0 = true) ∧ ab_in (x3 + 2) (ab_s h x0).2 = true) ∧ ((x0 = 0 ∨ ab_ok h x0 0 = true) ∧ ab_in (x3 + 3) (ab_s h x0).2 = true) ∧ ab_ok h x1 111 = true ∧ wm d 150 [.ref x1, .int (ab_i h x0 (Int32.toNatClampNeg (x3 + 1))), .int (ab_i h x0 (Int32.toNatClampNeg (x3 + 2))), .int (ab_i h x0 (Int32.toNatClampNeg (x3 + 3)))] h (fun r9 h9 => wq (d + 1) 331 476 [.ref x0, .ref x1, .ref x2, .int x3] (r9.toList ++ []) h9 Q)) else (if ((ab_i h x0 (Int32.toNatClampNeg x3)) &&& 63) = 6 then (((x0 = 0 ∨ ab_ok h x0 0 = true) ∧ ab_in (x3 + 1) (ab_s h x0).2 = true) ∧ ((x0 = 0 ∨ ab_ok h x0 0 = true) ∧ ab_in (x3 + 2) (ab_s h x0).2 = true) ∧ ab_ok h x1 111 = true ∧ wm d 151 [.ref x1, .int (ab_i h x0 (Int32.toNatClampNeg (x3 + 1))), .int (ab_i h x0 (Int32.toNatClampNeg (x3 + 2)))] h (fun r9 h9 => wq (d + 1) 331 514 [.ref x0, .ref x1, .ref x2, .int x3] (r9.toList ++ []) h9 Q)) else (if ((ab_i h x0 (Int32.toNatClampNeg x3)) &&& 63) = 7 then (((x0 = 0 ∨ ab_ok h x0 0 = true) ∧ ab_in (x3 + 1) (ab_s h x0).2 = true) ∧ ((x0 = 0 ∨ ab_ok h x0 0 = true) ∧ ab_in (x3 + 2) (ab_s h x0).2 = true) ∧ ((x0 = 0 ∨ ab_ok h x0 0 = true) ∧ ab_in (x3 + 3) (ab_s h x0).2 = true) ∧ ab_ok h x1 111 = true ∧ wm d 152 [.ref x1, .int (ab_i h x0 (Int32.toNatClampNeg (x3 + 1))), .int (ab_i h x0 (Int32.toNatClampNeg (x3 + 2))), .int (ab_i h x0 (Int32.toNatClampNeg (x3 + 3)))] h (fun r9 h9 => wq (d + 1) 331 552 [.ref x0, .ref x1, .ref x2, .int x3] (r9.toList ++ []) h9 Q)) else (if ((ab_i h x0 (Int32.toNatClampNeg x3)) &&& 63) = 8 then (((x0 = 0 ∨ ab_ok h x0 0 = true) ∧ ab_in (x3 + 1) (ab_s h x0).2 = true) ∧ ((x0 = 0 ∨ ab_ok h x0 0 = true) ∧ ab_in (x3 + 2) (ab_s h x0).2 = true) ∧ ((x0 = 0 ∨ ab_ok h x0 0 = true) ∧ ab_in (x3 + 3) (ab_s h x0).2 = true) ∧ ((x0 = 0 ∨ ab_ok h x0 0 = true) ∧ ab_in (x3 + 4) (ab_s h x0).2 = true) ∧ ab_ok h x1 111 = true ∧ wm d 153 [.ref x1, .int (ab_i h x0 (Int32.toNatClampNeg (x3 + 1))), .int (ab_i h x0 (Int32.toNatClampNeg (x3 + 2))), .int (ab_i h x0 (Int32.toNatClampNeg (x3 + 3))), .int (ab_i h x0 (Int32.toNatClampNeg (x3 + 4)))] h (fun r9 h9 => wq (d + 1) 331 600 [.ref x0, .ref x1, .ref x2, .int x3] (r9.toList ++ []) h9 Q)) else (if ((ab_i h x0 (Int32.toNatClampNeg x3)) &&& 63) = 9 then (((x0 = 0 ∨ ab_ok h x0 0 = true) ∧ ab_in (x3 + 1) (ab_s h x0).2 = true) ∧ ((x0 = 0 ∨ ab_ok h x0 0 = true) ∧ ab_in (x3 + 2) (ab_s h x0).2 = true) ∧ ((x0 = 0 ∨ ab_ok h x0 0 = true) ∧ ab_in (x3 + 3) (ab_s h x0).2 = true) ∧ ((x0 = 0 ∨ ab_ok h x0 0 = true) ∧ ab_in (x3 + 4) (ab_s h x0).2 = true) ∧ ((x0 = 0 ∨ ab_ok h x0 0 = true) ∧ ab_in (x3 + 5) (ab_s h x0).2 = true) ∧ ab_ok h x1 111 = true ∧ wm d 156 [.ref x1, .int (ab_i h x0 (Int32.toNatClampNeg (x3 + 1))), .int (ab_i h x0 (Int32.toNatClampNeg (x3 + 2))), .int (ab_i h x0 (Int32.toNatClampNeg (x3 + 3))), .int (ab_i h x0 (Int32.toNatClampNeg (x3 + 4))), .int (ab_i h x0 (Int32.toNatClampNeg (x3 + 5)))] h (fun r9 h9 => wq (d + 1) 331 658 [.ref x0, .ref x1, .ref x2, .int x3] (r9.toList ++ []) h9 Q)) else (if ((ab_i h x0 (Int32.toNatClampNeg x3)) &&& 63) = 10 then (((x0 = 0 ∨ ab_ok h x0 0 = true) ∧ ab_in (x3 + 1) (ab_s h x0).2 = true) ∧ ab_ok h x1 111 = true ∧ wm d 158 [.ref x1, .int (ab_i h x0 (Int32.toNatClampNeg (x3 + 1)))] h (fun r9 h9 => wq (d + 1) 331 701 [.ref x0, .ref x1, .ref x2, .int x3] (r9.toList ++ []) h9 Q)) else (if ((ab_i h x0 (Int32.toNatClampNeg x3)) &&& 63) = 11 then (ab_ok h x1 111 = true ∧ wm d 159 [.ref x1] h (fun r9 h9 => wq (d + 1) 331 719 [.ref x0, .ref x1, .ref x2, .int x3] (r9.toList ++ []) h9 Q)) else (if ((ab_i h x0 (Int32.toNatClampNeg x3)) &&& 63) = 12 then (((x0 = 0 ∨ ab_ok h x0 0 = true) ∧ ab_in (x3 + 1) (ab_s h x0).2 = true) ∧ ab_ok h x1 111 = true ∧ wm d 160 [.ref x1, .int (ab_i h x0 (Int32.toNatClampNeg (x3 + 1)))] h (fun r9 h9 => wq (d + 1) 331 737 [.ref x0, .ref x1, .ref x2, .int x3] (r9.toList ++ []) h9 Q)) else (if ((ab_i h x0 (Int32.toNatClampNeg x3)) &&& 63) = 13 then (((x0 = 0 ∨ ab_ok h x0 0 = true) ∧ ab_in (x3 + 1) (ab_s h x0).2 = true) ∧ ((x0 = 0 ∨ ab_ok h x0 0 = true) ∧ ab_in (x3 + 2) (ab_s h x0).2 = true) ∧ ((x0 = 0 ∨ ab_ok h x0 0 = true) ∧ ab_in (x3 + 3) (ab_s h x0).2 = true) ∧ ((x0 = 0 ∨ ab_ok h x0 0 = true) ∧ ab_in (x3 + 4) (ab_s h x0).2 = true) ∧ ab_ok h x1 111 = true ∧ wm d 161 [.ref x1, .int (ab_i h x0 (Int32.toNatClampNeg (x3 + 1))), .int (ab_i h x0 (Int32.toNatClampNeg (x3 + 2))), .int (ab_i h x0 (Int32.toNatClampNeg (x3 + 3))), .int (ab_i h x0 (Int32.toNatClampNeg (x3 + 4)))] h (fun r9 h9 => wq (d + 1) 331 775 [.ref x0, .ref x1, .ref x2, .int x3] (r9.toList ++ []) h9 Q)) else (if ((ab_i h x0 (Int32.toNatClampNeg x3)) &&& 63) = 14 then (((x0 = 0 ∨ ab_ok h x0 0 = true) ∧ ab_in (x3 + 1) (ab_s h x0).2 = true) ∧ ((x0 = 0 ∨ ab_ok h x0 0 = true) ∧ ab_in (x3 + 2) (ab_s h x0).2 = true) ∧ ((x0 = 0 ∨ ab_ok h x0 0 = true) ∧ ab_in (x3 + 3) (ab_s h x0).2 = true) ∧ ((x0 = 0 ∨ ab_ok h x0 0 = true) ∧ ab_in (x3 + 4) (ab_s h x0).2 = true) ∧ ab_ok h x1 111 = true ∧ wm d 163 [.ref x1, .int (ab_i h x0 (Int32.toNatClampNeg (x3 + 1))), .int (ab_i h x0 (Int32.toNatClampNeg (x3 + 2))), .int (ab_i h x0 (Int32.toNatClampNeg (x3 + 3))), .int (ab_i h x0 (Int32.toNatClampNeg (x3 + 4)))] h (fun r9 h9 => wq (d + 1) 331 828 [.ref x0, .ref x1, .ref x2, .int x3] (r9.toList ++ []) h9 Q)) else (if ((ab_i h x0 (Int32.toNatClampNeg x3)) &&& 63) = 15 then (((x0 = 0 ∨ ab_ok h x0 0 = true) ∧ ab_in (x3 + 1) (ab_s h x0).2 = true) ∧ ((x0 = 0 ∨ ab_ok h x0 0 = true) ∧ ab_in (x3 + 2) (ab_s h x0).2 = true) ∧ ((x0 = 0 ∨ ab_ok h x0 0 = true) ∧ ab_in (x3 + 3) (ab_s h x0).2 = true) ∧ ((x0 = 0 ∨ ab_ok h x0 0 = true) ∧ ab_in (x3 + 4) (ab_s h x0).2 = true) ∧ ((x0 = 0 ∨ ab_ok h x0 0 = true) ∧ ab_in (x3 + 5) (ab_s h x0).2 = true) ∧ ab_ok h x1 111 = true ∧ wm d 164 [.ref x1, .int (ab_i h x0 (Int32.toNatClampNeg (x3 + 1))), .int (ab_i h x0 (Int32.toNatClampNeg (x3 + 2))), .int (ab_i h x0 (Int32.toNatClampNeg (x3 + 3))), .int (ab_i h x0 (Int32.toNatClampNeg (x3 + 4))), .int (ab_i h x0 (Int32.toNatClampNeg (x3 + 5)))] h (fun r9 h9 => wq (d + 1) 331 886 [.ref x0, .ref x1, .ref x2, .int x3] (r9.toList ++ []) h9 Q)) else (if ((ab_i h x0 (Int32.toNatClampNeg x3)) &&& 63) = 16 then (((x0 = 0 ∨ ab_ok h x0 0 = true) ∧ ab_in (x3 + 1) (ab_s h x0).2 = true) ∧ ((x0 = 0 ∨ ab_ok h x0 0 = true) ∧ ab_in (x3 + 2) (ab_s h x0).2 = true) ∧ ((x0 = 0 ∨ ab_ok h x0 0 = true) ∧ ab_in (x3 + 3) (ab_s h x0).2 = true) ∧ ((x0 = 0 ∨ ab_ok h x0 0 = true) ∧ ab_in (x3 + 4) (ab_s h x0).2 = true) ∧ ab_ok h x1 111 = true ∧ wm d 165 [.ref x1, .int (ab_i h x0 (Int32.toNatClampNeg (x3 + 1))), .int (ab_i h x0 (Int32.toNatClampNeg (x3 + 2))), .int (ab_i h x0 (Int32.toNatClampNeg (x3 + 3))), .int (ab_i h x0 (Int32.toNatClampNeg (x3 + 4)))] h (fun r9 h9 => wq (d + 1) 331 944 [.ref x0, .ref x1, .ref x2, .int x3] (r9.toList ++ []) h9 Q)) else (if ((ab_i h x0 (Int32.toNatClampNeg x3)) &&& 63) = 17 then (((x0 = 0 ∨ ab_ok h x0 0 = true) ∧ ab_in (x3 + 1) (ab_s h x0).2 = true) ∧ ((x0 = 0 ∨ ab_ok h x0 0 = true) ∧ ab_in (x3 + 2) (ab_s h x0).2 = true) ∧ ((x0 = 0 ∨ ab_ok h x0 0 = true) ∧ ab_in (x3 + 3) (ab_s h x0).2 = true) ∧ ((x0 = 0 ∨ ab_ok h x0 0 = true) ∧ ab_in (x3 + 4) (ab_s h x0).2 = true) ∧ ((x0 = 0 ∨ ab_ok h x0 0 = true) ∧ ab_in (x3 + 5) (ab_s h x0).2 = true) ∧ ab_ok h x1 111 = true ∧ wm d 166 [.ref x1, .int (ab_i h x0 (Int32.toNatClampNeg (x3 + 1))), .int (ab_i h x0 (Int32.toNatClampNeg (x3 + 2))), .int (ab_i h x0 (Int32.toNatClampNeg (x3 + 3))), .int (ab_i h x0 (Int32.toNatClampNeg (x3 + 4))), .int (ab_i h x0 (Int32.toNatClampNeg (x3 + 5)))] h (fun r9 h9 => wq (d + 1) 331 1002 [.ref x0, .ref x1, .ref x2, .int x3] (r9.toList ++ []) h9 Q)) else (if ((ab_i h x0 (Int32.toNatClampNeg x3)) &&& 63) = 18 then (((x0 = 0 ∨ ab_ok h x0 0 = true) ∧ ab_in (x3 + 1) (ab_s h x0).2 = true) ∧ ((x0 = 0 ∨ ab_ok h x0 0 = true) ∧ ab_in (x3 + 2) (ab_s h x0).2 = true) ∧ ab_ok h x1 111 = true ∧ wm d 167 [.ref x1, .int (ab_i h x0 (Int32.toNatClampNeg (x3 + 1))), .int (ab_i h x0 (Int32.toNatClampNeg (x3 + 2)))] h (fun r9 h9 => wq (d + 1) 331 1050 [.ref x0, .ref x1, .ref x2, .int x3] (r9.toList ++ []) h9 Q)) else (if ((ab_i h x0 (Int32.toNatClampNeg x3)) &&& 63) = 19 then (((x0 = 0 ∨ ab_ok h x0 0 = true) ∧ ab_in (x3 + 1) (ab_s h x0).2 = true) ∧ ((x0 = 0 ∨ ab_ok h x0 0 = true) ∧ ab_in (x3 + 2) (ab_s h x0).2 = true) ∧ ((x0 = 0 ∨ ab_ok h x0 0 = true) ∧ ab_in (x3 + 3) (ab_s h x0).2 = true) ∧ ab_ok h x1 111 = true ∧ wm d 168 [.ref x1, .int (ab_i h x0 (Int32.toNatClampNeg (x3 + 1))), .int (ab_i h x0 (Int32.toNatClampNeg (x3 + 2))), .int (ab_i h x0 (Int32.toNatClampNeg (x3 + 3)))] h (fun r9 h9 => wq (d + 1) 331 1088 [.ref x0, .ref x1, .ref x2, .int x3] (r9.toList ++ []) h9 Q)) else (if ((ab_i h x0 (Int32.toNatClampNeg x3)) &&& 63) = 20 then (((x0 = 0 ∨ ab_ok h x0 0 = true) ∧ ab_in (x3 + 1) (ab_s h x0).2 = true) ∧ ((x0 = 0 ∨ ab_ok h x0 0 = true) ∧ ab_in (x3 + 2) (ab_s h x0).2 = true) ∧ if (ab_i h x0 (Int32.toNatClampNeg (x3 + 2))) = 0 then (wq (d + 1) 331 1131 [.ref x0, .ref x1, .ref x2, .int x3] [.int 0, .int (ab_i h x0 (Int32.toNatClampNeg (x3 + 1))), .ref x1] h Q) else (wq (d + 1) 331 1131 [.ref x0, .ref x1, .ref x2, .int x3] [.int 1, .int (ab_i h x0 (Int32.toNatClampNeg (x3 + 1))), .ref x1] h Q)) else (if ((ab_i h x0 (Int32.toNatClampNeg x3)) &&& 63) = 21 then (((x0 = 0 ∨ ab_ok h x0 0 = true) ∧ ab_in (x3 + 1) (ab_s h x0).2 = true) ∧ ab_ok h x1 111 = true ∧ wm d 170 [.ref x1, .int (ab_i h x0 (Int32.toNatClampNeg (x3 + 1)))] h (fun r9 h9 => wq (d + 1) 331 1170 [.ref x0, .ref x1, .ref x2, .int x3] (r9.toList ++ []) h9 Q)) else (if ((ab_i h x0 (Int32.toNatClampNeg x3)) &&& 63) = 22 then (((x0 = 0 ∨ ab_ok h x0 0 = true) ∧ ab_in (x3 + 1) (ab_s h x0).2 = true) ∧ ((x0 = 0 ∨ ab_ok h x0 0 = true) ∧ ab_in (x3 + 2) (ab_s h x0).2 = true) ∧ ab_ok h x1 111 = true ∧ wm d 171 [.ref x1, .int (ab_i h x0 (Int32.toNatClampNeg (x3 + 1))), .int (ab_i h x0 (Int32.toNatClampNeg (x3 + 2)))] h (fun r9 h9 => wq (d + 1) 331 1198 [.ref x0, .ref x1, .ref x2, .int x3] (r9.toList ++ []) h9 Q)) else (if ((ab_i h x0 (Int32.toNatClampNeg x3)) &&& 63) = 23 then (((x0 = 0 ∨ ab_ok h x0 0 = true) ∧ ab_in (x3 + 1) (ab_s h x0).2 = true) ∧ ((x0 = 0 ∨ ab_ok h x0 0 = true) ∧ ab_in (x3 + 2) (ab_s h x0).2 = true) ∧ ab_ok h x1 111 = true ∧ wm d 172 [.ref x1, .int (ab_i h x0 (Int32.toNatClampNeg (x3 + 1))), .int (ab_i h x0 (Int32.toNatClampNeg (x3 + 2)))] h (fun r9 h9 => wq (d + 1) 331 1231 [.ref x0, .ref x1, .ref x2, .int x3] (r9.toList ++ []) h9 Q)) else (if ((ab_i h x0 (Int32.toNatClampNeg x3)) &&& 63) = 24 then (((x0 = 0 ∨ ab_ok h x0 0 = true) ∧ ab_in (x3 + 1) (ab_s h x0).2 = true) ∧ ((x0 = 0 ∨ ab_ok h x0 0 = true) ∧ ab_in (x3 + 2) (ab_s h x0).2 = true) ∧ ab_ok h x1 111 = true ∧ wm d 173 [.ref x1, .int (ab_i h x0 (Int32.toNatClampNeg (x3 + 1))), .int (ab_i h x0 (Int32.toNatClampNeg (x3 + 2)))] h (fun r9 h9 => wq (d + 1) 331 1264 [.ref x0, .ref x1, .ref x2, .int x3] (r9.toList ++ []) h9 Q)) else (if ((ab_i h x0 (Int32.toNatClampNeg x3)) &&& 63) = 25 then (((x0 = 0 ∨ ab_ok h x0 0 = true) ∧ ab_in (x3 + 1) (ab_s h x0).2 = true) ∧ ((x0 = 0 ∨ ab_ok h x0 0 = true) ∧ ab_in (x3 + 2) (ab_s h x0).2 = true) ∧ ab_ok h x1 111 = true ∧ wm d 174 [.ref x1, .int (ab_i h x0 (Int32.toNatClampNeg (x3 + 1))), .int (ab_i h x0 (Int32.toNatClampNeg (x3 + 2)))] h (fun r9 h9 => wq (d + 1) 331 1297 [.ref x0, .ref x1, .ref x2, .int x3] (r9.toList ++ []) h9 Q)) else (if ((ab_i h x0 (Int32.toNatClampNeg x3)) &&& 63) = 26 then (((x0 = 0 ∨ ab_ok h x0 0 = true) ∧ ab_in (x3 + 1) (ab_s h x0).2 = true) ∧ ((x0 = 0 ∨ ab_ok h x0 0 = true) ∧ ab_in (x3 + 2) (ab_s h x0).2 = true) ∧ ab_ok h x1 111 = true ∧ wm d 175 [.ref x1, .int (ab_i h x0 (Int32.toNatClampNeg (x3 + 1))), .int (ab_i h x0 (Int32.toNatClampNeg (x3 + 2)))] h (fun r9 h9 => wq (d + 1) 331 1330 [.ref x0, .ref x1, .ref x2, .int x3] (r9.toList ++ []) h9 Q)) else (if ((ab_i h x0 (Int32.toNatClampNeg x3)) &&& 63) = 27 then (((x0 = 0 ∨ ab_ok h x0 0 = true) ∧ ab_in (x3 + 1) (ab_s h x0).2 = true) ∧ ((x0 = 0 ∨ ab_ok h x0 0 = true) ∧ ab_in (x3 + 2) (ab_s h x0).2 = true) ∧ ((x0 = 0 ∨ ab_ok h x0 0 = true) ∧ ab_in (x3 + 3) (ab_s h x0).2 = true) ∧ ab_ok h x1 111 = true ∧ wm d 177 [.ref x1, .int (ab_i h x0 (Int32.toNatClampNeg (x3 + 1))), .int (ab_i h x0 (Int32.toNatClampNeg (x3 + 2))), .int (ab_i h x0 (Int32.toNatClampNeg (x3 + 3)))] h (fun r9 h9 => wq (d + 1) 331 1368 [.ref x0, .ref x1, .ref x2, .int x3] (r9.toList ++ []) h9 Q)) else (if ((ab_i h x0 (Int32.toNatClampNeg x3)) &&& 63) = 28 then (((x0 = 0 ∨ ab_ok h x0 0 = true) ∧ ab_in (x3 + 1) (ab_s h x0).2 = true) ∧ ((x0 = 0 ∨ ab_ok h x0 0 = true) ∧ ab_in (x3 + 2) (ab_s h x0).2 = true) ∧ ((x0 = 0 ∨ ab_ok h x0 0 = true) ∧ ab_in (x3 + 3) (ab_s h x0).2 = true) ∧ ((x0 = 0 ∨ ab_ok h x0 0 = true) ∧ ab_in (x3 + 4) (ab_s h x0).2 = true) ∧ ab_ok h x1 111 = true ∧ wm d 178 [.ref x1, .int (ab_i h x0 (Int32.toNatClampNeg (x3 + 1))), .int (ab_i h x0 (Int32.toNatClampNeg (x3 + 2))), .int (ab_i h x0 (Int32.toNatClampNeg (x3 + 3))), .int (ab_i h x0 (Int32.toNatClampNeg (x3 + 4)))] h (fun r9 h9 => wq (d + 1) 331 1416 [.ref x0, .ref x1, .ref x2, .int x3] (r9.toList ++ []) h9 Q)) else (if ((ab_i h x0 (Int32.toNatClampNeg x3)) &&& 63) = 29 then (((x0 = 0 ∨ ab_ok h x0 0 = true) ∧ ab_in (x3 + 1) (ab_s h x0).2 = true) ∧ ((x0 = 0 ∨ ab_ok h x0 0 = true) ∧ ab_in (x3 + 2) (ab_s h x0).2 = true) ∧ ab_ok h x1 111 = true ∧ wm d 180 [.ref x1, .int (ab_i h x0 (Int32.toNatClampNeg (x3 + 1))), .int (ab_i h x0 (Int32.toNatClampNeg (x3 + 2)))] h (fun r9 h9 => wq (d + 1) 331 1459 [.ref x0, .ref x1, .ref x2, .int x3] (r9.toList ++ []) h9 Q)) else (if ((ab_i h x0 (Int32.toNatClampNeg x3)) &&& 63) = 30 then (ab_ok h x1 111 = true ∧ wm d 181 [.ref x1] h (fun r9 h9 => wq (d + 1) 331 1482 [.ref x0, .ref x1, .ref x2, .int x3] (r9.toList ++ []) h9 Q)) else (if ((ab_i h x0 (Int32.toNatClampNeg x3)) &&& 63) = 31 then (((x0 = 0 ∨ ab_ok h x0 0 = true) ∧ ab_in (x3 + 1) (ab_s h x0).2 = true) ∧ ((x0 = 0 ∨ ab_ok h x0 0 = true) ∧ ab_in (x3 + 2) (ab_s h x0).2 = true) ∧ ab_ok h x1 111 = true ∧ wm d 182 [.ref x1, .int (ab_i h x0 (Int32.toNatClampNeg (x3 + 1))), .int (ab_i h x0 (Int32.toNatClampNeg (x3 + 2)))] h (fun r9 h9 => wq (d + 1) 331 1505 [.ref x0, .ref x1, .ref x2, .int x3] (r9.toList ++ []) h9 Q)) else (if ((ab_i h x0 (Int32.toNatClampNeg x3)) &&& 63) = 32 then (((x0 = 0 ∨ ab_ok h x0 0 = true) ∧ ab_in (x3 + 1) (ab_s h x0).2 = true) ∧ ((x0 = 0 ∨ ab_ok h x0 0 = true) ∧ ab_in (x3 + 2) (ab_s h x0).2 = true) ∧ ((x0 = 0 ∨ ab_ok h x0 0 = true) ∧ ab_in (x3 + 3) (ab_s h x0).2 = true) ∧ ((x0 = 0 ∨ ab_ok h x0 0 = true) ∧ ab_in (x3 + 4) (ab_s h x0).2 = true) ∧ ab_ok h x1 111 = true ∧ wm d 183 [.ref x1, .int (ab_i h x0 (Int32.toNatClampNeg (x3 + 1))), .int (ab_i h x0 (Int32.toNatClampNeg (x3 + 2))), .int (ab_i h x0 (Int32.toNatClampNeg (x3 + 3))), .int (ab_i h x0 (Int32.toNatClampNeg (x3 + 4)))] h (fun r9 h9 => wq (d + 1) 331 1548 [.ref x0, .ref x1, .ref x2, .int x3] (r9.toList ++ []) h9 Q)) else (if ((ab_i h x0 (Int32.toNatClampNeg x3)) &&& 63) = 33 then (((x0 = 0 ∨ ab_ok h x0 0 = true) ∧ ab_in (x3 + 1) (ab_s h x0).2 = true) ∧ ((x0 = 0 ∨ ab_ok h x0 0 = true) ∧ ab_in (x3 + 2) (ab_s h x0).2 = true) ∧ ab_ok h x1 111 = true ∧ wm d 184 [.ref x1, .int (ab_i h x0 (Int32.toNatClampNeg (x3 + 1))), .int (ab_i h x0 (Int32.toNatClampNeg (x3 + 2)))] h (fun r9 h9 => wq (d + 1) 331 1591 [.ref x0, .ref x1, .ref x2, .int x3] (r9.toList ++ []) h9 Q)) else (if ((ab_i h x0 (Int32.toNatClampNeg x3)) &&& 63) = 34 then (((x0 = 0 ∨ ab_ok h x0 0 = true) ∧ ab_in (x3 + 1) (ab_s h x0).2 = true) ∧ ((x0 = 0 ∨ ab_ok h x0 0 = true) ∧ ab_in (x3 + 2) (ab_s h x0).2 = true) ∧ ab_ok h x1 111 = true ∧ wm d 185 [.ref x1, .int (ab_i h x0 (Int32.toNatClampNeg (x3 + 1))), .int (ab_i h x0 (Int32.toNatClampNeg (x3 + 2)))] h (fun r9 h9 => wq (d + 1) 331 1624 [.ref x0, .ref x1, .ref x2, .int x3] (r9.toList ++ []) h9 Q)) else (if ((ab_i h x0 (Int32.toNatClampNeg x3)) &&& 63) = 35 then (((x0 = 0 ∨ ab_ok h x0 0 = true) ∧ ab_in (x3 + 1) (ab_s h x0).2 = true) ∧ ((x0 = 0 ∨ ab_ok h x0 0 = true) ∧ ab_in (x3 + 2) (ab_s h x0).2 = true) ∧ ab_ok h x1 111 = true ∧ wm d 186 [.ref x1, .int (ab_i h x0 (Int32.toNatClampNeg (x3 + 1))), .int (ab_i h x0 (Int32.toNatClampNeg (x3 + 2)))] h (fun r9 h9 => wq (d + 1) 331 1657 [.ref x0, .ref x1, .ref x2, .int x3] (r9.toList ++ []) h9 Q)) else (if ((ab_i h x0 (Int32.toNatClampNeg x3)) &&& 63) = 36 then (((x0 = 0 ∨ ab_ok h x0 0 = true) ∧ ab_in (x3 + 1) (ab_s h x0).2 = true) ∧ ab_ok h x1 111 = true ∧ wm d 187 [.ref x1, .int (ab_i h x0 (Int32.toNatClampNeg (x3 + 1)))] h (fun r9 h9 => wq (d + 1) 331 1685 [.ref x0, .ref x1, .ref x2, .int x3] (r9.toList ++ []) h9 Q)) else (if ((ab_i h x0 (Int32.toNatClampNeg x3)) &&& 63) = 37 then (((x0 = 0 ∨ ab_ok h x0 0 = true) ∧ ab_in (x3 + 1) (ab_s h x0).2 = true) ∧ ((x0 = 0 ∨ ab_ok h x0 0 = true) ∧ ab_in (x3 + 2) (ab_s h x0).2 = true) ∧ ab_ok h x1 111 = true ∧ wm d 188 [.ref x1, .int (ab_i h x0 (Int32.toNatClampNeg (x3 + 1))), .int (ab_i h x0 (Int32.toNatClampNeg (x3 + 2)))] h (fun r9 h9 => wq (d + 1) 331 1713 [.ref x0, .ref x1, .ref x2, .int x3] (r9.toList ++ []) h9 Q)) else (if ((ab_i h x0 (Int32.toNatClampNeg x3)) &&& 63) = 38 then (((x0 = 0 ∨ ab_ok h x0 0 = true) ∧ ab_in (x3 + 1) (ab_s h x0).2 = true) ∧ ((x0 = 0 ∨ ab_ok h x0 0 = true) ∧ ab_in (x3 + 2) (ab_s h x0).2 = true) ∧ ((x0 = 0 ∨ ab_ok h x0 0 = true) ∧ ab_in (x3 + 3) (ab_s h x0).2 = true) ∧ ab_ok h x1 111 = true ∧ wm d 189 [.ref x1, .int (ab_i h x0 (Int32.toNatClampNeg (x3 + 1))), .int (ab_i h x0 (Int32.toNatClampNeg (x3 + 2))), .int (ab_i h x0 (Int32.toNatClampNeg (x3 + 3)))] h (fun r9 h9 => wq (d + 1) 331 1751 [.ref x0, .ref x1, .ref x2, .int x3] (r9.toList ++ []) h9 Q)) else (if ((ab_i h x0 (Int32.toNatClampNeg x3)) &&& 63) = 39 then (((x0 = 0 ∨ ab_ok h x0 0 = true) ∧ ab_in (x3 + 1) (ab_s h x0).2 = true) ∧ ab_ok h x1 111 = true ∧ wm d 190 [.ref x1, .int (ab_i h x0 (Int32.toNatClampNeg (x3 + 1)))] h (fun r9 h9 => wq (d + 1) 331 1784 [.ref x0, .ref x1, .ref x2, .int x3] (r9.toList ++ []) h9 Q)) else (if ((ab_i h x0 (Int32.toNatClampNeg x3)) &&& 63) = 40 then (ab_ok h x1 111 = true ∧ wm d 191 [.ref x1] h (fun r9 h9 => wq (d + 1) 331 1802 [.ref x0, .ref x1, .ref x2, .int x3] (r9.toList ++ []) h9 Q)) else (if ((ab_i h x0 (Int32.toNatClampNeg x3)) &&& 63) = 41 then (ab_ok h x1 111 = true ∧ wm d 192 [.ref x1] h (fun r9 h9 => wq (d + 1) 331 1815 [.ref x0, .ref x1, .ref x2, .int x3] (r9.toList ++ []) h9 Q)) else (if ((ab_i h x0 (Int32.toNatClampNeg x3)) &&& 63) = 42 then (((x0 = 0 ∨ ab_ok h x0 0 = true) ∧ ab_in (x3 + 1) (ab_s h x0).2 = true) ∧ ab_ok h x1 111 = true ∧ wm d 193 [.ref x1, .int (ab_i h x0 (Int32.toNatClampNeg (x3 + 1)))] h (fun r9 h9 => wq (d + 1) 331 1833 [.ref x0, .ref x1, .ref x2, .int x3] (r9.toList ++ []) h9 Q)) else (wq (d + 1) 331 1847 [.ref x0, .ref x1, .ref x2, .int x3] [] h Q))))))))))))))))))))))))))))))))))))))))))))) : wq (d + 1) 331 18 [.ref x0, .ref x1, .ref x2, .int x3] [] h Q := by
  refine g3 c_331_18 rfl ?_
  refine g5 c_331_19 rfl ?_
  obtain ⟨ho, t⟩ := t
  refine g58 c_331_20 ho ?_
  refine g1 c_331_21 k_7 ?_
  refine g11 c_331_23 ?_
  refine gcm c_331_24 (gbr t rfl rfl (fun hc t => ?_) (fun hc t => ?_))
  · refine g1 c_331_1853 k_1 ?_
    exact g91 c_331_1854 ⟨by decide, t⟩
  · refine g5 c_331_27 rfl ?_
    refine g3 c_331_28 rfl ?_
    obtain ⟨ho, t⟩ := t
    refine g50 c_331_29 ho ?_
    refine g1 c_331_30 k_63 ?_
    refine g13 c_331_32 ?_
    by_cases e0 : ((ab_i h x0 (Int32.toNatClampNeg x3)) &&& 63) = 0
    · rw [if_pos e0] at t
      refine g42 (o := 187) c_331_33 sw_10 (by rw [e0]; decide) (by rw [e0]; decide) rfl ?_
      refine g5 c_331_220 rfl ?_
      refine g5 c_331_221 rfl ?_
      refine g3 c_331_222 rfl ?_
      refine g1 c_331_223 k_1 ?_
      refine g10 c_331_224 ?_
      obtain ⟨ho, t⟩ := t
      refine g50 c_331_225 ho ?_
      refine g5 c_331_226 rfl ?_
      refine g3 c_331_227 rfl ?_
      refine g1 c_331_228 k_2 ?_
      refine g10 c_331_229 ?_
      obtain ⟨ho, t⟩ := t
      refine g50 c_331_230 ho ?_
      refine g5 c_331_231 rfl ?_
      refine g3 c_331_232 rfl ?_
      refine g1 c_331_233 k_3 ?_
      refine g10 c_331_234 ?_
      obtain ⟨ho, t⟩ := t
      refine g50 c_331_235 ho ?_
      refine g5 c_331_236 rfl ?_
      refine g3 c_331_237 rfl ?_
      refine g1 c_331_238 k_4 ?_
      refine g10 c_331_239 ?_
      obtain ⟨ho, t⟩ := t
      refine g50 c_331_240 ho ?_
      refine g5 c_331_241 rfl ?_
      refine g3 c_331_242 rfl ?_
      refine g1 c_331_243 k_5 ?_
      refine g10 c_331_244 ?_
      obtain ⟨ho, t⟩ := t
      refine g50 c_331_245 ho ?_
      refine g5 c_331_246 rfl ?_
      refine g3 c_331_247 rfl ?_
      refine g1 c_331_248 k_6 ?_
      refine g10 c_331_250 ?_
      obtain ⟨ho, t⟩ := t
      refine g50 c_331_251 ho ?_
      exact g80 (As := [.int (ab_i h x0 (Int32.toNatClampNeg (x3 + 1))), .int (ab_i h x0 (Int32.toNatClampNeg (x3 + 2))), .int (ab_i h x0 (Int32.toNatClampNeg (x3 + 3))), .int (ab_i h x0 (Int32.toNatClampNeg (x3 + 4))), .int (ab_i h x0 (Int32.toNatClampNeg (x3 + 5))), .int (ab_i h x0 (Int32.toNatClampNeg (x3 + 6)))]) (rest := []) c_331_252 rfl rfl (Nat.le_of_ble_eq_true rfl) (Nat.le_of_ble_eq_true rfl) t.1 t.2
    rw [if_neg e0] at t
    by_cases e1 : ((ab_i h x0 (Int32.toNatClampNeg x3)) &&& 63) = 1
    · rw [if_pos e1] at t
      refine g42 (o := 262) c_331_33 sw_10 (by rw [e1]; decide) (by rw [e1]; decide) rfl ?_
      refine g5 c_331_295 rfl ?_
      refine g5 c_331_296 rfl ?_
      refine g3 c_331_297 rfl ?_
      refine g1 c_331_298 k_1 ?_
      refine g10 c_331_299 ?_
      obtain ⟨ho, t⟩ := t
      refine g50 c_331_300 ho ?_
      refine g5 c_331_301 rfl ?_
      refine g3 c_331_302 rfl ?_
      refine g1 c_331_303 k_2 ?_
      refine g10 c_331_304 ?_
      obtain ⟨ho, t⟩ := t
      refine g50 c_331_305 ho ?_
      refine g5 c_331_306 rfl ?_
      refine g3 c_331_307 rfl ?_
      refine g1 c_331_308 k_3 ?_
      refine g10 c_331_309 ?_
      obtain ⟨ho, t⟩ := t
      refine g50 c_331_310 ho ?_
      exact g80 (As := [.int (ab_i h x0 (Int32.toNatClampNeg (x3 + 1))), .int (ab_i h x0 (Int32.toNatClampNeg (x3 + 2))), .int (ab_i h x0 (Int32.toNatClampNeg (x3 + 3)))]) (rest := []) c_331_311 rfl rfl (Nat.le_of_ble_eq_true rfl) (Nat.le_of_ble_eq_true rfl) t.1 t.2
    rw [if_neg e1] at t
    by_cases e2 : ((ab_i h x0 (Int32.toNatClampNeg x3)) &&& 63) = 2
    · rw [if_pos e2] at t
      refine g42 (o := 305) c_331_33 sw_10 (by rw [e2]; decide) (by rw [e2]; decide) rfl ?_
      refine g5 c_331_338 rfl ?_
      refine g5 c_331_339 rfl ?_
      refine g3 c_331_340 rfl ?_
      refine g1 c_331_341 k_1 ?_
      refine g10 c_331_342 ?_
      obtain ⟨ho, t⟩ := t
      refine g50 c_331_343 ho ?_
      refine g5 c_331_344 rfl ?_
      refine g3 c_331_345 rfl ?_
      refine g1 c_331_346 k_2 ?_
      refine g10 c_331_347 ?_
      obtain ⟨ho, t⟩ := t
      refine g50 c_331_348 ho ?_
      exact g80 (As := [.int (ab_i h x0 (Int32.toNatClampNeg (x3 + 1))), .int (ab_i h x0 (Int32.toNatClampNeg (x3 + 2)))]) (rest := []) c_331_349 rfl rfl (Nat.le_of_ble_eq_true rfl) (Nat.le_of_ble_eq_true rfl) t.1 t.2
    rw [if_neg e2] at t
    by_cases e3 : ((ab_i h x0 (Int32.toNatClampNeg x3)) &&& 63) = 3
    · rw [if_pos e3] at t
      refine g42 (o := 338) c_331_33 sw_10 (by rw [e3]; decide) (by rw [e3]; decide) rfl ?_
      refine g5 c_331_371 rfl ?_
      refine g5 c_331_372 rfl ?_
      refine g3 c_331_373 rfl ?_
      refine g1 c_331_374 k_1 ?_
      refine g10 c_331_375 ?_
      obtain ⟨ho, t⟩ := t
      refine g50 c_331_376 ho ?_
      refine g5 c_331_377 rfl ?_
      refine g3 c_331_378 rfl ?_
      refine g1 c_331_379 k_2 ?_
      refine g10 c_331_380 ?_
      obtain ⟨ho, t⟩ := t
      refine g50 c_331_381 ho ?_
      exact g80 (As := [.int (ab_i h x0 (Int32.toNatClampNeg (x3 + 1))), .int (ab_i h x0 (Int32.toNatClampNeg (x3 + 2)))]) (rest := []) c_331_382 rfl rfl (Nat.le_of_ble_eq_true rfl) (Nat.le_of_ble_eq_true rfl) t.1 t.2
    rw [if_neg e3] at t
    by_cases e4 : ((ab_i h x0 (Int32.toNatClampNeg x3)) &&& 63) = 4
    · rw [if_pos e4] at t
      refine g42 (o := 371) c_331_33 sw_10 (by rw [e4]; decide) (by rw [e4]; decide) rfl ?_
      refine g5 c_331_404 rfl ?_
      refine g5 c_331_405 rfl ?_
      refine g3 c_331_406 rfl ?_
      refine g1 c_331_407 k_1 ?_
      refine g10 c_331_408 ?_
      obtain ⟨ho, t⟩ := t
      refine g50 c_331_409 ho ?_
      refine g5 c_331_410 rfl ?_
      refine g3 c_331_411 rfl ?_
      refine g1 c_331_412 k_2 ?_
      refine g10 c_331_413 ?_
      obtain ⟨ho, t⟩ := t
      refine g50 c_331_414 ho ?_
      refine g5 c_331_415 rfl ?_
      refine g3 c_331_416 rfl ?_
      refine g1 c_331_417 k_3 ?_
      refine g10 c_331_418 ?_
      obtain ⟨ho, t⟩ := t
      refine g50 c_331_419 ho ?_
      refine g5 c_331_420 rfl ?_
      refine g3 c_331_421 rfl ?_
      refine g1 c_331_422 k_4 ?_
      refine g10 c_331_423 ?_
      obtain ⟨ho, t⟩ := t
      refine g50 c_331_424 ho ?_
      exact g80 (As := [.int (ab_i h x0 (Int32.toNatClampNeg (x3 + 1))), .int (ab_i h x0 (Int32.toNatClampNeg (x3 + 2))), .int (ab_i h x0 (Int32.toNatClampNeg (x3 + 3))), .int (ab_i h x0 (Int32.toNatClampNeg (x3 + 4)))]) (rest := []) c_331_425 rfl rfl (Nat.le_of_ble_eq_true rfl) (Nat.le_of_ble_eq_true rfl) t.1 t.2
    rw [if_neg e4] at t
    by_cases e5 : ((ab_i h x0 (Int32.toNatClampNeg x3)) &&& 63) = 5
    · rw [if_pos e5] at t
      refine g42 (o := 424) c_331_33 sw_10 (by rw [e5]; decide) (by rw [e5]; decide) rfl ?_
      refine g5 c_331_457 rfl ?_
      refine g5 c_331_458 rfl ?_
      refine g3 c_331_459 rfl ?_
      refine g1 c_331_460 k_1 ?_
      refine g10 c_331_461 ?_
      obtain ⟨ho, t⟩ := t
      refine g50 c_331_462 ho ?_
      refine g5 c_331_463 rfl ?_
      refine g3 c_331_464 rfl ?_
      refine g1 c_331_465 k_2 ?_
      refine g10 c_331_466 ?_
      obtain ⟨ho, t⟩ := t
      refine g50 c_331_467 ho ?_
      refine g5 c_331_468 rfl ?_
      refine g3 c_331_469 rfl ?_
      refine g1 c_331_470 k_3 ?_
      refine g10 c_331_471 ?_
      obtain ⟨ho, t⟩ := t
      refine g50 c_331_472 ho ?_
      exact g80 (As := [.int (ab_i h x0 (Int32.toNatClampNeg (x3 + 1))), .int (ab_i h x0 (Int32.toNatClampNeg (x3 + 2))), .int (ab_i h x0 (Int32.toNatClampNeg (x3 + 3)))]) (rest := []) c_331_473 rfl rfl (Nat.le_of_ble_eq_true rfl) (Nat.le_of_ble_eq_true rfl) t.1 t.2
    rw [if_neg e5] at t
    by_cases e6 : ((ab_i h x0 (Int32.toNatClampNeg x3)) &&& 63) = 6
    · rw [if_pos e6] at t
      refine g42 (o := 467) c_331_33 sw_10 (by rw [e6]; decide) (by rw [e6]; decide) rfl ?_
      refine g5 c_331_500 rfl ?_
      refine g5 c_331_501 rfl ?_
      refine g3 c_331_502 rfl ?_
      refine g1 c_331_503 k_1 ?_
      refine g10 c_331_504 ?_
      obtain ⟨ho, t⟩ := t
      refine g50 c_331_505 ho ?_
      refine g5 c_331_506 rfl ?_
      refine g3 c_331_507 rfl ?_
      refine g1 c_331_508 k_2 ?_
      refine g10 c_331_509 ?_
      obtain ⟨ho, t⟩ := t
      refine g50 c_331_510 ho ?_
      exact g80 (As := [.int (ab_i h x0 (Int32.toNatClampNeg (x3 + 1))), .int (ab_i h x0 (Int32.toNatClampNeg (x3 + 2)))]) (rest := []) c_331_511 rfl rfl (Nat.le_of_ble_eq_true rfl) (Nat.le_of_ble_eq_true rfl) t.1 t.2
    rw [if_neg e6] at t
    by_cases e7 : ((ab_i h x0 (Int32.toNatClampNeg x3)) &&& 63) = 7
    · rw [if_pos e7] at t
      refine g42 (o := 500) c_331_33 sw_10 (by rw [e7]; decide) (by rw [e7]; decide) rfl ?_
      refine g5 c_331_533 rfl ?_
      refine g5 c_331_534 rfl ?_
      refine g3 c_331_535 rfl ?_
      refine g1 c_331_536 k_1 ?_
      refine g10 c_331_537 ?_
      obtain ⟨ho, t⟩ := t
      refine g50 c_331_538 ho ?_
      refine g5 c_331_539 rfl ?_
      refine g3 c_331_540 rfl ?_
      refine g1 c_331_541 k_2 ?_
      refine g10 c_331_542 ?_
      obtain ⟨ho, t⟩ := t
      refine g50 c_331_543 ho ?_
      refine g5 c_331_544 rfl ?_
      refine g3 c_331_545 rfl ?_
      refine g1 c_331_546 k_3 ?_
      refine g10 c_331_547 ?_
      obtain ⟨ho, t⟩ := t
      refine g50 c_331_548 ho ?_
      exact g80 (As := [.int (ab_i h x0 (Int32.toNatClampNeg (x3 + 1))), .int (ab_i h x0 (Int32.toNatClampNeg (x3 + 2))), .int (ab_i h x0 (Int32.toNatClampNeg (x3 + 3)))]) (rest := []) c_331_549 rfl rfl (Nat.le_of_ble_eq_true rfl) (Nat.le_of_ble_eq_true rfl) t.1 t.2
    rw [if_neg e7] at t
    by_cases e8 : ((ab_i h x0 (Int32.toNatClampNeg x3)) &&& 63) = 8
    · rw [if_pos e8] at t
      refine g42 (o := 543) c_331_33 sw_10 (by rw [e8]; decide) (by rw [e8]; decide) rfl ?_
      refine g5 c_331_576 rfl ?_
      refine g5 c_331_577 rfl ?_
      refine g3 c_331_578 rfl ?_
      refine g1 c_331_579 k_1 ?_
      refine g10 c_331_580 ?_
      obtain ⟨ho, t⟩ := t
      refine g50 c_331_581 ho ?_
      refine g5 c_331_582 rfl ?_
      refine g3 c_331_583 rfl ?_
      refine g1 c_331_584 k_2 ?_
      refine g10 c_331_585 ?_
      obtain ⟨ho, t⟩ := t
      refine g50 c_331_586 ho ?_
      refine g5 c_331_587 rfl ?_
      refine g3 c_331_588 rfl ?_
      refine g1 c_331_589 k_3 ?_
      refine g10 c_331_590 ?_
      obtain ⟨ho, t⟩ := t
      refine g50 c_331_591 ho ?_
      refine g5 c_331_592 rfl ?_
      refine g3 c_331_593 rfl ?_
      refine g1 c_331_594 k_4 ?_
      refine g10 c_331_595 ?_
      obtain ⟨ho, t⟩ := t
      refine g50 c_331_596 ho ?_
      exact g80 (As := [.int (ab_i h x0 (Int32.toNatClampNeg (x3 + 1))), .int (ab_i h x0 (Int32.toNatClampNeg (x3 + 2))), .int (ab_i h x0 (Int32.toNatClampNeg (x3 + 3))), .int (ab_i h x0 (Int32.toNatClampNeg (x3 + 4)))]) (rest := []) c_331_597 rfl rfl (Nat.le_of_ble_eq_true rfl) (Nat.le_of_ble_eq_true rfl) t.1 t.2
    rw [if_neg e8] at t
    by_cases e9 : ((ab_i h x0 (Int32.toNatClampNeg x3)) &&& 63) = 9
    · rw [if_pos e9] at t
      refine g42 (o := 596) c_331_33 sw_10 (by rw [e9]; decide) (by rw [e9]; decide) rfl ?_
      refine g5 c_331_629 rfl ?_
      refine g5 c_331_630 rfl ?_
      refine g3 c_331_631 rfl ?_
      refine g1 c_331_632 k_1 ?_
      refine g10 c_331_633 ?_
      obtain ⟨ho, t⟩ := t
      refine g50 c_331_634 ho ?_
      refine g5 c_331_635 rfl ?_
      refine g3 c_331_636 rfl ?_
      refine g1 c_331_637 k_2 ?_
      refine g10 c_331_638 ?_
      obtain ⟨ho, t⟩ := t
      refine g50 c_331_639 ho ?_
      refine g5 c_331_640 rfl ?_
      refine g3 c_331_641 rfl ?_
      refine g1 c_331_642 k_3 ?_
      refine g10 c_331_643 ?_
      obtain ⟨ho, t⟩ := t
      refine g50 c_331_644 ho ?_
      refine g5 c_331_645 rfl ?_
      refine g3 c_331_646 rfl ?_
      refine g1 c_331_647 k_4 ?_
      refine g10 c_331_648 ?_
      obtain ⟨ho, t⟩ := t
      refine g50 c_331_649 ho ?_
      refine g5 c_331_650 rfl ?_
      refine g3 c_331_651 rfl ?_
      refine g1 c_331_652 k_5 ?_
      refine g10 c_331_653 ?_
      obtain ⟨ho, t⟩ := t
      refine g50 c_331_654 ho ?_
      exact g80 (As := [.int (ab_i h x0 (Int32.toNatClampNeg (x3 + 1))), .int (ab_i h x0 (Int32.toNatClampNeg (x3 + 2))), .int (ab_i h x0 (Int32.toNatClampNeg (x3 + 3))), .int (ab_i h x0 (Int32.toNatClampNeg (x3 + 4))), .int (ab_i h x0 (Int32.toNatClampNeg (x3 + 5)))]) (rest := []) c_331_655 rfl rfl (Nat.le_of_ble_eq_true rfl) (Nat.le_of_ble_eq_true rfl) t.1 t.2
    rw [if_neg e9] at t
    by_cases e10 : ((ab_i h x0 (Int32.toNatClampNeg x3)) &&& 63) = 10
    · rw [if_pos e10] at t
      refine g42 (o := 659) c_331_33 sw_10 (by rw [e10]; decide) (by rw [e10]; decide) rfl ?_
      refine g5 c_331_692 rfl ?_
      refine g5 c_331_693 rfl ?_
      refine g3 c_331_694 rfl ?_
      refine g1 c_331_695 k_1 ?_
      refine g10 c_331_696 ?_
      obtain ⟨ho, t⟩ := t
      refine g50 c_331_697 ho ?_
      exact g80 (As := [.int (ab_i h x0 (Int32.toNatClampNeg (x3 + 1)))]) (rest := []) c_331_698 rfl rfl (Nat.le_of_ble_eq_true rfl) (Nat.le_of_ble_eq_true rfl) t.1 t.2
    rw [if_neg e10] at t
    by_cases e11 : ((ab_i h x0 (Int32.toNatClampNeg x3)) &&& 63) = 11
    · rw [if_pos e11] at t
      refine g42 (o := 682) c_331_33 sw_10 (by rw [e11]; decide) (by rw [e11]; decide) rfl ?_
      refine g5 c_331_715 rfl ?_
      exact g80 (As := []) (rest := []) c_331_716 rfl rfl (Nat.le_of_ble_eq_true rfl) (Nat.le_of_ble_eq_true rfl) t.1 t.2
    rw [if_neg e11] at t
    by_cases e12 : ((ab_i h x0 (Int32.toNatClampNeg x3)) &&& 63) = 12
    · rw [if_pos e12] at t
      refine g42 (o := 695) c_331_33 sw_10 (by rw [e12]; decide) (by rw [e12]; decide) rfl ?_
      refine g5 c_331_728 rfl ?_
      refine g5 c_331_729 rfl ?_
      refine g3 c_331_730 rfl ?_
      refine g1 c_331_731 k_1 ?_
      refine g10 c_331_732 ?_
      obtain ⟨ho, t⟩ := t
      refine g50 c_331_733 ho ?_
      exact g80 (As := [.int (ab_i h x0 (Int32.toNatClampNeg (x3 + 1)))]) (rest := []) c_331_734 rfl rfl (Nat.le_of_ble_eq_true rfl) (Nat.le_of_ble_eq_true rfl) t.1 t.2
    rw [if_neg e12] at t
    by_cases e13 : ((ab_i h x0 (Int32.toNatClampNeg x3)) &&& 63) = 13
    · rw [if_pos e13] at t
      refine g42 (o := 718) c_331_33 sw_10 (by rw [e13]; decide) (by rw [e13]; decide) rfl ?_
      refine g5 c_331_751 rfl ?_
      refine g5 c_331_752 rfl ?_
      refine g3 c_331_753 rfl ?_
      refine g1 c_331_754 k_1 ?_
      refine g10 c_331_755 ?_
      obtain ⟨ho, t⟩ := t
      refine g50 c_331_756 ho ?_
      refine g5 c_331_757 rfl ?_
      refine g3 c_331_758 rfl ?_
      refine g1 c_331_759 k_2 ?_
      refine g10 c_331_760 ?_
      obtain ⟨ho, t⟩ := t
      refine g50 c_331_761 ho ?_
      refine g5 c_331_762 rfl ?_
      refine g3 c_331_763 rfl ?_
      refine g1 c_331_764 k_3 ?_
      refine g10 c_331_765 ?_
      obtain ⟨ho, t⟩ := t
      refine g50 c_331_766 ho ?_
      refine g5 c_331_767 rfl ?_
      refine g3 c_331_768 rfl ?_
      refine g1 c_331_769 k_4 ?_
      refine g10 c_331_770 ?_
      obtain ⟨ho, t⟩ := t
      refine g50 c_331_771 ho ?_
      exact g80 (As := [.int (ab_i h x0 (Int32.toNatClampNeg (x3 + 1))), .int (ab_i h x0 (Int32.toNatClampNeg (x3 + 2))), .int (ab_i h x0 (Int32.toNatClampNeg (x3 + 3))), .int (ab_i h x0 (Int32.toNatClampNeg (x3 + 4)))]) (rest := []) c_331_772 rfl rfl (Nat.le_of_ble_eq_true rfl) (Nat.le_of_ble_eq_true rfl) t.1 t.2
    rw [if_neg e13] at t
    by_cases e14 : ((ab_i h x0 (Int32.toNatClampNeg x3)) &&& 63) = 14
    · rw [if_pos e14] at t
      refine g42 (o := 771) c_331_33 sw_10 (by rw [e14]; decide) (by rw [e14]; decide) rfl ?_
      refine g5 c_331_804 rfl ?_
      refine g5 c_331_805 rfl ?_
      refine g3 c_331_806 rfl ?_
      refine g1 c_331_807 k_1 ?_
      refine g10 c_331_808 ?_
      obtain ⟨ho, t⟩ := t
      refine g50 c_331_809 ho ?_
      refine g5 c_331_810 rfl ?_
      refine g3 c_331_811 rfl ?_
      refine g1 c_331_812 k_2 ?_
      refine g10 c_331_813 ?_
      obtain ⟨ho, t⟩ := t
      refine g50 c_331_814 ho ?_
      refine g5 c_331_815 rfl ?_
      refine g3 c_331_816 rfl ?_
      refine g1 c_331_817 k_3 ?_
      refine g10 c_331_818 ?_
      obtain ⟨ho, t⟩ := t
      refine g50 c_331_819 ho ?_
      refine g5 c_331_820 rfl ?_
      refine g3 c_331_821 rfl ?_
      refine g1 c_331_822 k_4 ?_
      refine g10 c_331_823 ?_
      obtain ⟨ho, t⟩ := t
      refine g50 c_331_824 ho ?_
      exact g80 (As := [.int (ab_i h x0 (Int32.toNatClampNeg (x3 + 1))), .int (ab_i h x0 (Int32.toNatClampNeg (x3 + 2))), .int (ab_i h x0 (Int32.toNatClampNeg (x3 + 3))), .int (ab_i h x0 (Int32.toNatClampNeg (x3 + 4)))]) (rest := []) c_331_825 rfl rfl (Nat.le_of_ble_eq_true rfl) (Nat.le_of_ble_eq_true rfl) t.1 t.2
    rw [if_neg e14] at t
    by_cases e15 : ((ab_i h x0 (Int32.toNatClampNeg x3)) &&& 63) = 15
    · rw [if_pos e15] at t
      refine g42 (o := 824) c_331_33 sw_10 (by rw [e15]; decide) (by rw [e15]; decide) rfl ?_
      refine g5 c_331_857 rfl ?_
      refine g5 c_331_858 rfl ?_
      refine g3 c_331_859 rfl ?_
      refine g1 c_331_860 k_1 ?_
      refine g10 c_331_861 ?_
      obtain ⟨ho, t⟩ := t
      refine g50 c_331_862 ho ?_
      refine g5 c_331_863 rfl ?_
      refine g3 c_331_864 rfl ?_
      refine g1 c_331_865 k_2 ?_
      refine g10 c_331_866 ?_
      obtain ⟨ho, t⟩ := t
      refine g50 c_331_867 ho ?_
      refine g5 c_331_868 rfl ?_
      refine g3 c_331_869 rfl ?_
      refine g1 c_331_870 k_3 ?_
      refine g10 c_331_871 ?_
      obtain ⟨ho, t⟩ := t
      refine g50 c_331_872 ho ?_
      refine g5 c_331_873 rfl ?_
      refine g3 c_331_874 rfl ?_
      refine g1 c_331_875 k_4 ?_
      refine g10 c_331_876 ?_
      obtain ⟨ho, t⟩ := t
      refine g50 c_331_877 ho ?_
      refine g5 c_331_878 rfl ?_
      refine g3 c_331_879 rfl ?_
      refine g1 c_331_880 k_5 ?_
      refine g10 c_331_881 ?_
      obtain ⟨ho, t⟩ := t
      refine g50 c_331_882 ho ?_
      exact g80 (As := [.int (ab_i h x0 (Int32.toNatClampNeg (x3 + 1))), .int (ab_i h x0 (Int32.toNatClampNeg (x3 + 2))), .int (ab_i h x0 (Int32.toNatClampNeg (x3 + 3))), .int (ab_i h x0 (Int32.toNatClampNeg (x3 + 4))), .int (ab_i h x0 (Int32.toNatClampNeg (x3 + 5)))]) (rest := []) c_331_883 rfl rfl (Nat.le_of_ble_eq_true rfl) (Nat.le_of_ble_eq_true rfl) t.1 t.2
    rw [if_neg e15] at t
    by_cases e16 : ((ab_i h x0 (Int32.toNatClampNeg x3)) &&& 63) = 16
    · rw [if_pos e16] at t
      refine g42 (o := 887) c_331_33 sw_10 (by rw [e16]; decide) (by rw [e16]; decide) rfl ?_
      refine g5 c_331_920 rfl ?_
      refine g5 c_331_921 rfl ?_
      refine g3 c_331_922 rfl ?_
      refine g1 c_331_923 k_1 ?_
      refine g10 c_331_924 ?_
      obtain ⟨ho, t⟩ := t
      refine g50 c_331_925 ho ?_
      refine g5 c_331_926 rfl ?_
      refine g3 c_331_927 rfl ?_
      refine g1 c_331_928 k_2 ?_
      refine g10 c_331_929 ?_
      obtain ⟨ho, t⟩ := t
      refine g50 c_331_930 ho ?_
      refine g5 c_331_931 rfl ?_
      refine g3 c_331_932 rfl ?_
      refine g1 c_331_933 k_3 ?_
      refine g10 c_331_934 ?_
      obtain ⟨ho, t⟩ := t
      refine g50 c_331_935 ho ?_
      refine g5 c_331_936 rfl ?_
      refine g3 c_331_937 rfl ?_
      refine g1 c_331_938 k_4 ?_
      refine g10 c_331_939 ?_
      obtain ⟨ho, t⟩ := t
      refine g50 c_331_940 ho ?_
      exact g80 (As := [.int (ab_i h x0 (Int32.toNatClampNeg (x3 + 1))), .int (ab_i h x0 (Int32.toNatClampNeg (x3 + 2))), .int (ab_i h x0 (Int32.toNatClampNeg (x3 + 3))), .int (ab_i h x0 (Int32.toNatClampNeg (x3 + 4)))]) (rest := []) c_331_941 rfl rfl (Nat.le_of_ble_eq_true rfl) (Nat.le_of_ble_eq_true rfl) t.1 t.2
    rw [if_neg e16] at t
    by_cases e17 : ((ab_i h x0 (Int32.toNatClampNeg x3)) &&& 63) = 17
    · rw [if_pos e17] at t
      refine g42 (o := 940) c_331_33 sw_10 (by rw [e17]; decide) (by rw [e17]; decide) rfl ?_
      refine g5 c_331_973 rfl ?_
      refine g5 c_331_974 rfl ?_
      refine g3 c_331_975 rfl ?_
      refine g1 c_331_976 k_1 ?_
      refine g10 c_331_977 ?_
      obtain ⟨ho, t⟩ := t
      refine g50 c_331_978 ho ?_
      refine g5 c_331_979 rfl ?_
      refine g3 c_331_980 rfl ?_
      refine g1 c_331_981 k_2 ?_
      refine g10 c_331_982 ?_
      obtain ⟨ho, t⟩ := t
      refine g50 c_331_983 ho ?_
      refine g5 c_331_984 rfl ?_
      refine g3 c_331_985 rfl ?_
      refine g1 c_331_986 k_3 ?_
      refine g10 c_331_987 ?_
      obtain ⟨ho, t⟩ := t
      refine g50 c_331_988 ho ?_
      refine g5 c_331_989 rfl ?_
      refine g3 c_331_990 rfl ?_
      refine g1 c_331_991 k_4 ?_
      refine g10 c_331_992 ?_
      obtain ⟨ho, t⟩ := t
      refine g50 c_331_993 ho ?_
      refine g5 c_331_994 rfl ?_
      refine g3 c_331_995 rfl ?_
      refine g1 c_331_996 k_5 ?_
      refine g10 c_331_997 ?_
      obtain ⟨ho, t⟩ := t
      refine g50 c_331_998 ho ?_
      exact g80 (As := [.int (ab_i h x0 (Int32.toNatClampNeg (x3 + 1))), .int (ab_i h x0 (Int32.toNatClampNeg (x3 + 2))), .int (ab_i h x0 (Int32.toNatClampNeg (x3 + 3))), .int (ab_i h x0 (Int32.toNatClampNeg (x3 + 4))), .int (ab_i h x0 (Int32.toNatClampNeg (x3 + 5)))]) (rest := []) c_331_999 rfl rfl (Nat.le_of_ble_eq_true rfl) (Nat.le_of_ble_eq_true rfl) t.1 t.2
    rw [if_neg e17] at t
    by_cases e18 : ((ab_i h x0 (Int32.toNatClampNeg x3)) &&& 63) = 18
    · rw [if_pos e18] at t
      refine g42 (o := 1003) c_331_33 sw_10 (by rw [e18]; decide) (by rw [e18]; decide) rfl ?_
      refine g5 c_331_1036 rfl ?_
      refine g5 c_331_1037 rfl ?_
      refine g3 c_331_1038 rfl ?_
      refine g1 c_331_1039 k_1 ?_
      refine g10 c_331_1040 ?_
      obtain ⟨ho, t⟩ := t
      refine g50 c_331_1041 ho ?_
      refine g5 c_331_1042 rfl ?_
      refine g3 c_331_1043 rfl ?_
      refine g1 c_331_1044 k_2 ?_
      refine g10 c_331_1045 ?_
      obtain ⟨ho, t⟩ := t
      refine g50 c_331_1046 ho ?_
      exact g80 (As := [.int (ab_i h x0 (Int32.toNatClampNeg (x3 + 1))), .int (ab_i h x0 (Int32.toNatClampNeg (x3 + 2)))]) (rest := []) c_331_1047 rfl rfl (Nat.le_of_ble_eq_true rfl) (Nat.le_of_ble_eq_true rfl) t.1 t.2
    rw [if_neg e18] at t
    by_cases e19 : ((ab_i h x0 (Int32.toNatClampNeg x3)) &&& 63) = 19
    · rw [if_pos e19] at t
      refine g42 (o := 1036) c_331_33 sw_10 (by rw [e19]; decide) (by rw [e19]; decide) rfl ?_
      refine g5 c_331_1069 rfl ?_
      refine g5 c_331_1070 rfl ?_
      refine g3 c_331_1071 rfl ?_
      refine g1 c_331_1072 k_1 ?_
      refine g10 c_331_1073 ?_
      obtain ⟨ho, t⟩ := t
      refine g50 c_331_1074 ho ?_
      refine g5 c_331_1075 rfl ?_
      refine g3 c_331_1076 rfl ?_
      refine g1 c_331_1077 k_2 ?_
      refine g10 c_331_1078 ?_
      obtain ⟨ho, t⟩ := t
      refine g50 c_331_1079 ho ?_
      refine g5 c_331_1080 rfl ?_
      refine g3 c_331_1081 rfl ?_
      refine g1 c_331_1082 k_3 ?_
      refine g10 c_331_1083 ?_
      obtain ⟨ho, t⟩ := t
      refine g50 c_331_1084 ho ?_
      exact g80 (As := [.int (ab_i h x0 (Int32.toNatClampNeg (x3 + 1))), .int (ab_i h x0 (Int32.toNatClampNeg (x3 + 2))), .int (ab_i h x0 (Int32.toNatClampNeg (x3 + 3)))]) (rest := []) c_331_1085 rfl rfl (Nat.le_of_ble_eq_true rfl) (Nat.le_of_ble_eq_true rfl) t.1 t.2
    rw [if_neg e19] at t
    by_cases e20 : ((ab_i h x0 (Int32.toNatClampNeg x3)) &&& 63) = 20
    · rw [if_pos e20] at t
      refine g42 (o := 1079) c_331_33 sw_10 (by rw [e20]; decide) (by rw [e20]; decide) rfl ?_
      refine g5 c_331_1112 rfl ?_
      refine g5 c_331_1113 rfl ?_
      refine g3 c_331_1114 rfl ?_
      refine g1 c_331_1115 k_1 ?_
      refine g10 c_331_1116 ?_
      obtain ⟨ho, t⟩ := t
      refine g50 c_331_1117 ho ?_
      refine g5 c_331_1118 rfl ?_
      refine g3 c_331_1119 rfl ?_
      refine g1 c_331_1120 k_2 ?_
      refine g10 c_331_1121 ?_
      obtain ⟨ho, t⟩ := t
      refine g50 c_331_1122 ho ?_
      refine gif c_331_1123 (gbr t rfl rfl (fun hc t => ?_) (fun hc t => ?_))
      · refine g1 c_331_1130 k_0 ?_
        exact t
      · refine g1 c_331_1126 k_1 ?_
        refine g38 c_331_1127 rfl ?_
        exact t
    rw [if_neg e20] at t
    by_cases e21 : ((ab_i h x0 (Int32.toNatClampNeg x3)) &&& 63) = 21
    · rw [if_pos e21] at t
      refine g42 (o := 1128) c_331_33 sw_10 (by rw [e21]; decide) (by rw [e21]; decide) rfl ?_
      refine g5 c_331_1161 rfl ?_
      refine g5 c_331_1162 rfl ?_
      refine g3 c_331_1163 rfl ?_
      refine g1 c_331_1164 k_1 ?_
      refine g10 c_331_1165 ?_
      obtain ⟨ho, t⟩ := t
      refine g50 c_331_1166 ho ?_
      exact g80 (As := [.int (ab_i h x0 (Int32.toNatClampNeg (x3 + 1)))]) (rest := []) c_331_1167 rfl rfl (Nat.le_of_ble_eq_true rfl) (Nat.le_of_ble_eq_true rfl) t.1 t.2
    rw [if_neg e21] at t
    by_cases e22 : ((ab_i h x0 (Int32.toNatClampNeg x3)) &&& 63) = 22
    · rw [if_pos e22] at t
      refine g42 (o := 1151) c_331_33 sw_10 (by rw [e22]; decide) (by rw [e22]; decide) rfl ?_
      refine g5 c_331_1184 rfl ?_
      refine g5 c_331_1185 rfl ?_
      refine g3 c_331_1186 rfl ?_
      refine g1 c_331_1187 k_1 ?_
      refine g10 c_331_1188 ?_
      obtain ⟨ho, t⟩ := t
      refine g50 c_331_1189 ho ?_
      refine g5 c_331_1190 rfl ?_
      refine g3 c_331_1191 rfl ?_
      refine g1 c_331_1192 k_2 ?_
      refine g10 c_331_1193 ?_
      obtain ⟨ho, t⟩ := t
      refine g50 c_331_1194 ho ?_
      exact g80 (As := [.int (ab_i h x0 (Int32.toNatClampNeg (x3 + 1))), .int (ab_i h x0 (Int32.toNatClampNeg (x3 + 2)))]) (rest := []) c_331_1195 rfl rfl (Nat.le_of_ble_eq_true rfl) (Nat.le_of_ble_eq_true rfl) t.1 t.2
    rw [if_neg e22] at t
    by_cases e23 : ((ab_i h x0 (Int32.toNatClampNeg x3)) &&& 63) = 23
    · rw [if_pos e23] at t
      refine g42 (o := 1184) c_331_33 sw_10 (by rw [e23]; decide) (by rw [e23]; decide) rfl ?_
      refine g5 c_331_1217 rfl ?_
      refine g5 c_331_1218 rfl ?_
      refine g3 c_331_1219 rfl ?_
      refine g1 c_331_1220 k_1 ?_
      refine g10 c_331_1221 ?_
      obtain ⟨ho, t⟩ := t
      refine g50 c_331_1222 ho ?_
      refine g5 c_331_1223 rfl ?_
      refine g3 c_331_1224 rfl ?_
      refine g1 c_331_1225 k_2 ?_
      refine g10 c_331_1226 ?_
      obtain ⟨ho, t⟩ := t
      refine g50 c_331_1227 ho ?_
      exact g80 (As := [.int (ab_i h x0 (Int32.toNatClampNeg (x3 + 1))), .int (ab_i h x0 (Int32.toNatClampNeg (x3 + 2)))]) (rest := []) c_331_1228 rfl rfl (Nat.le_of_ble_eq_true rfl) (Nat.le_of_ble_eq_true rfl) t.1 t.2
    rw [if_neg e23] at t
    by_cases e24 : ((ab_i h x0 (Int32.toNatClampNeg x3)) &&& 63) = 24
    · rw [if_pos e24] at t
      refine g42 (o := 1217) c_331_33 sw_10 (by rw [e24]; decide) (by rw [e24]; decide) rfl ?_
      refine g5 c_331_1250 rfl ?_
      refine g5 c_331_1251 rfl ?_
      refine g3 c_331_1252 rfl ?_
      refine g1 c_331_1253 k_1 ?_
      refine g10 c_331_1254 ?_
      obtain ⟨ho, t⟩ := t
      refine g50 c_331_1255 ho ?_
      refine g5 c_331_1256 rfl ?_
      refine g3 c_331_1257 rfl ?_
      refine g1 c_331_1258 k_2 ?_
      refine g10 c_331_1259 ?_
      obtain ⟨ho, t⟩ := t
      refine g50 c_331_1260 ho ?_
      exact g80 (As := [.int (ab_i h x0 (Int32.toNatClampNeg (x3 + 1))), .int (ab_i h x0 (Int32.toNatClampNeg (x3 + 2)))]) (rest := []) c_331_1261 rfl rfl (Nat.le_of_ble_eq_true rfl) (Nat.le_of_ble_eq_true rfl) t.1 t.2
    rw [if_neg e24] at t
    by_cases e25 : ((ab_i h x0 (Int32.toNatClampNeg x3)) &&& 63) = 25
    · rw [if_pos e25] at t
      refine g42 (o := 1250) c_331_33 sw_10 (by rw [e25]; decide) (by rw [e25]; decide) rfl ?_
      refine g5 c_331_1283 rfl ?_
      refine g5 c_331_1284 rfl ?_
      refine g3 c_331_1285 rfl ?_
      refine g1 c_331_1286 k_1 ?_
      refine g10 c_331_1287 ?_
      obtain ⟨ho, t⟩ := t
      refine g50 c_331_1288 ho ?_
      refine g5 c_331_1289 rfl ?_
      refine g3 c_331_1290 rfl ?_
      refine g1 c_331_1291 k_2 ?_
      refine g10 c_331_1292 ?_
      obtain ⟨ho, t⟩ := t
      refine g50 c_331_1293 ho ?_
      exact g80 (As := [.int (ab_i h x0 (Int32.toNatClampNeg (x3 + 1))), .int (ab_i h x0 (Int32.toNatClampNeg (x3 + 2)))]) (rest := []) c_331_1294 rfl rfl (Nat.le_of_ble_eq_true rfl) (Nat.le_of_ble_eq_true rfl) t.1 t.2
    rw [if_neg e25] at t
    by_cases e26 : ((ab_i h x0 (Int32.toNatClampNeg x3)) &&& 63) = 26
    · rw [if_pos e26] at t
      refine g42 (o := 1283) c_331_33 sw_10 (by rw [e26]; decide) (by rw [e26]; decide) rfl ?_
      refine g5 c_331_1316 rfl ?_
      refine g5 c_331_1317 rfl ?_
      refine g3 c_331_1318 rfl ?_
      refine g1 c_331_1319 k_1 ?_
      refine g10 c_331_1320 ?_
      obtain ⟨ho, t⟩ := t
      refine g50 c_331_1321 ho ?_
      refine g5 c_331_1322 rfl ?_
      refine g3 c_331_1323 rfl ?_
      refine g1 c_331_1324 k_2 ?_
      refine g10 c_331_1325 ?_
      obtain ⟨ho, t⟩ := t
      refine g50 c_331_1326 ho ?_
      exact g80 (As := [.int (ab_i h x0 (Int32.toNatClampNeg (x3 + 1))), .int (ab_i h x0 (Int32.toNatClampNeg (x3 + 2)))]) (rest := []) c_331_1327 rfl rfl (Nat.le_of_ble_eq_true rfl) (Nat.le_of_ble_eq_true rfl) t.1 t.2
    rw [if_neg e26] at t
    by_cases e27 : ((ab_i h x0 (Int32.toNatClampNeg x3)) &&& 63) = 27
    · rw [if_pos e27] at t
      refine g42 (o := 1316) c_331_33 sw_10 (by rw [e27]; decide) (by rw [e27]; decide) rfl ?_
      refine g5 c_331_1349 rfl ?_
      refine g5 c_331_1350 rfl ?_
      refine g3 c_331_1351 rfl ?_
      refine g1 c_331_1352 k_1 ?_
      refine g10 c_331_1353 ?_
      obtain ⟨ho, t⟩ := t
      refine g50 c_331_1354 ho ?_
      refine g5 c_331_1355 rfl ?_
      refine g3 c_331_1356 rfl ?_
      refine g1 c_331_1357 k_2 ?_
      refine g10 c_331_1358 ?_
      obtain ⟨ho, t⟩ := t
      refine g50 c_331_1359 ho ?_
      refine g5 c_331_1360 rfl ?_
      refine g3 c_331_1361 rfl ?_
      refine g1 c_331_1362 k_3 ?_
      refine g10 c_331_1363 ?_
      obtain ⟨ho, t⟩ := t
      refine g50 c_331_1364 ho ?_
      exact g80 (As := [.int (ab_i h x0 (Int32.toNatClampNeg (x3 + 1))), .int (ab_i h x0 (Int32.toNatClampNeg (x3 + 2))), .int (ab_i h x0 (Int32.toNatClampNeg (x3 + 3)))]) (rest := []) c_331_1365 rfl rfl (Nat.le_of_ble_eq_true rfl) (Nat.le_of_ble_eq_true rfl) t.1 t.2
    rw [if_neg e27] at t
    by_cases e28 : ((ab_i h x0 (Int32.toNatClampNeg x3)) &&& 63) = 28
    · rw [if_pos e28] at t
      refine g42 (o := 1359) c_331_33 sw_10 (by rw [e28]; decide) (by rw [e28]; decide) rfl ?_
      refine g5 c_331_1392 rfl ?_
      refine g5 c_331_1393 rfl ?_
      refine g3 c_331_1394 rfl ?_
      refine g1 c_331_1395 k_1 ?_
      refine g10 c_331_1396 ?_
      obtain ⟨ho, t⟩ := t
      refine g50 c_331_1397 ho ?_
      refine g5 c_331_1398 rfl ?_
      refine g3 c_331_1399 rfl ?_
      refine g1 c_331_1400 k_2 ?_
      refine g10 c_331_1401 ?_
      obtain ⟨ho, t⟩ := t
      refine g50 c_331_1402 ho ?_
      refine g5 c_331_1403 rfl ?_
      refine g3 c_331_1404 rfl ?_
      refine g1 c_331_1405 k_3 ?_
      refine g10 c_331_1406 ?_
      obtain ⟨ho, t⟩ := t
      refine g50 c_331_1407 ho ?_
      refine g5 c_331_1408 rfl ?_
      refine g3 c_331_1409 rfl ?_
      refine g1 c_331_1410 k_4 ?_
      refine g10 c_331_1411 ?_
      obtain ⟨ho, t⟩ := t
      refine g50 c_331_1412 ho ?_
      exact g80 (As := [.int (ab_i h x0 (Int32.toNatClampNeg (x3 + 1))), .int (ab_i h x0 (Int32.toNatClampNeg (x3 + 2))), .int (ab_i h x0 (Int32.toNatClampNeg (x3 + 3))), .int (ab_i h x0 (Int32.toNatClampNeg (x3 + 4)))]) (rest := []) c_331_1413 rfl rfl (Nat.le_of_ble_eq_true rfl) (Nat.le_of_ble_eq_true rfl) t.1 t.2
    rw [if_neg e28] at t
    by_cases e29 : ((ab_i h x0 (Int32.toNatClampNeg x3)) &&& 63) = 29
    · rw [if_pos e29] at t
      refine g42 (o := 1412) c_331_33 sw_10 (by rw [e29]; decide) (by rw [e29]; decide) rfl ?_
      refine g5 c_331_1445 rfl ?_
      refine g5 c_331_1446 rfl ?_
      refine g3 c_331_1447 rfl ?_
      refine g1 c_331_1448 k_1 ?_
      refine g10 c_331_1449 ?_
      obtain ⟨ho, t⟩ := t
      refine g50 c_331_1450 ho ?_
      refine g5 c_331_1451 rfl ?_
      refine g3 c_331_1452 rfl ?_
      refine g1 c_331_1453 k_2 ?_
      refine g10 c_331_1454 ?_
      obtain ⟨ho, t⟩ := t
      refine g50 c_331_1455 ho ?_
      exact g80 (As := [.int (ab_i h x0 (Int32.toNatClampNeg (x3 + 1))), .int (ab_i h x0 (Int32.toNatClampNeg (x3 + 2)))]) (rest := []) c_331_1456 rfl rfl (Nat.le_of_ble_eq_true rfl) (Nat.le_of_ble_eq_true rfl) t.1 t.2
    rw [if_neg e29] at t
    by_cases e30 : ((ab_i h x0 (Int32.toNatClampNeg x3)) &&& 63) = 30
    · rw [if_pos e30] at t
      refine g42 (o := 1445) c_331_33 sw_10 (by rw [e30]; decide) (by rw [e30]; decide) rfl ?_
      refine g5 c_331_1478 rfl ?_
      exact g80 (As := []) (rest := []) c_331_1479 rfl rfl (Nat.le_of_ble_eq_true rfl) (Nat.le_of_ble_eq_true rfl) t.1 t.2
    rw [if_neg e30] at t
    by_cases e31 : ((ab_i h x0 (Int32.toNatClampNeg x3)) &&& 63) = 31
    · rw [if_pos e31] at t
      refine g42 (o := 1458) c_331_33 sw_10 (by rw [e31]; decide) (by rw [e31]; decide) rfl ?_
      refine g5 c_331_1491 rfl ?_
      refine g5 c_331_1492 rfl ?_
      refine g3 c_331_1493 rfl ?_
      refine g1 c_331_1494 k_1 ?_
      refine g10 c_331_1495 ?_
      obtain ⟨ho, t⟩ := t
      refine g50 c_331_1496 ho ?_
      refine g5 c_331_1497 rfl ?_
      refine g3 c_331_1498 rfl ?_
      refine g1 c_331_1499 k_2 ?_
      refine g10 c_331_1500 ?_
      obtain ⟨ho, t⟩ := t
      refine g50 c_331_1501 ho ?_
      exact g80 (As := [.int (ab_i h x0 (Int32.toNatClampNeg (x3 + 1))), .int (ab_i h x0 (Int32.toNatClampNeg (x3 + 2)))]) (rest := []) c_331_1502 rfl rfl (Nat.le_of_ble_eq_true rfl) (Nat.le_of_ble_eq_true rfl) t.1 t.2
    rw [if_neg e31] at t
    by_cases e32 : ((ab_i h x0 (Int32.toNatClampNeg x3)) &&& 63) = 32
    · rw [if_pos e32] at t
      refine g42 (o := 1491) c_331_33 sw_10 (by rw [e32]; decide) (by rw [e32]; decide) rfl ?_
      refine g5 c_331_1524 rfl ?_
      refine g5 c_331_1525 rfl ?_
      refine g3 c_331_1526 rfl ?_
      refine g1 c_331_1527 k_1 ?_
      refine g10 c_331_1528 ?_
      obtain ⟨ho, t⟩ := t
      refine g50 c_331_1529 ho ?_
      refine g5 c_331_1530 rfl ?_
      refine g3 c_331_1531 rfl ?_
      refine g1 c_331_1532 k_2 ?_
      refine g10 c_331_1533 ?_
      obtain ⟨ho, t⟩ := t
      refine g50 c_331_1534 ho ?_
      refine g5 c_331_1535 rfl ?_
      refine g3 c_331_1536 rfl ?_
      refine g1 c_331_1537 k_3 ?_
      refine g10 c_331_1538 ?_
      obtain ⟨ho, t⟩ := t
      refine g50 c_331_1539 ho ?_
      refine g5 c_331_1540 rfl ?_
      refine g3 c_331_1541 rfl ?_
      refine g1 c_331_1542 k_4 ?_
      refine g10 c_331_1543 ?_
      obtain ⟨ho, t⟩ := t
      refine g50 c_331_1544 ho ?_
      exact g80 (As := [.int (ab_i h x0 (Int32.toNatClampNeg (x3 + 1))), .int (ab_i h x0 (Int32.toNatClampNeg (x3 + 2))), .int (ab_i h x0 (Int32.toNatClampNeg (x3 + 3))), .int (ab_i h x0 (Int32.toNatClampNeg (x3 + 4)))]) (rest := []) c_331_1545 rfl rfl (Nat.le_of_ble_eq_true rfl) (Nat.le_of_ble_eq_true rfl) t.1 t.2
    rw [if_neg e32] at t
    by_cases e33 : ((ab_i h x0 (Int32.toNatClampNeg x3)) &&& 63) = 33
    · rw [if_pos e33] at t
      refine g42 (o := 1544) c_331_33 sw_10 (by rw [e33]; decide) (by rw [e33]; decide) rfl ?_
      refine g5 c_331_1577 rfl ?_
      refine g5 c_331_1578 rfl ?_
      refine g3 c_331_1579 rfl ?_
      refine g1 c_331_1580 k_1 ?_
      refine g10 c_331_1581 ?_
      obtain ⟨ho, t⟩ := t
      refine g50 c_331_1582 ho ?_
      refine g5 c_331_1583 rfl ?_
      refine g3 c_331_1584 rfl ?_
      refine g1 c_331_1585 k_2 ?_
      refine g10 c_331_1586 ?_
      obtain ⟨ho, t⟩ := t
      refine g50 c_331_1587 ho ?_
      exact g80 (As := [.int (ab_i h x0 (Int32.toNatClampNeg (x3 + 1))), .int (ab_i h x0 (Int32.toNatClampNeg (x3 + 2)))]) (rest := []) c_331_1588 rfl rfl (Nat.le_of_ble_eq_true rfl) (Nat.le_of_ble_eq_true rfl) t.1 t.2
    rw [if_neg e33] at t
    by_cases e34 : ((ab_i h x0 (Int32.toNatClampNeg x3)) &&& 63) = 34
    · rw [if_pos e34] at t
      refine g42 (o := 1577) c_331_33 sw_10 (by rw [e34]; decide) (by rw [e34]; decide) rfl ?_
      refine g5 c_331_1610 rfl ?_
      refine g5 c_331_1611 rfl ?_
      refine g3 c_331_1612 rfl ?_
      refine g1 c_331_1613 k_1 ?_
      refine g10 c_331_1614 ?_
      obtain ⟨ho, t⟩ := t
      refine g50 c_331_1615 ho ?_
      refine g5 c_331_1616 rfl ?_
      refine g3 c_331_1617 rfl ?_
      refine g1 c_331_1618 k_2 ?_
      refine g10 c_331_1619 ?_
      obtain ⟨ho, t⟩ := t
      refine g50 c_331_1620 ho ?_
      exact g80 (As := [.int (ab_i h x0 (Int32.toNatClampNeg (x3 + 1))), .int (ab_i h x0 (Int32.toNatClampNeg (x3 + 2)))]) (rest := []) c_331_1621 rfl rfl (Nat.le_of_ble_eq_true rfl) (Nat.le_of_ble_eq_true rfl) t.1 t.2
    rw [if_neg e34] at t
    by_cases e35 : ((ab_i h x0 (Int32.toNatClampNeg x3)) &&& 63) = 35
    · rw [if_pos e35] at t
      refine g42 (o := 1610) c_331_33 sw_10 (by rw [e35]; decide) (by rw [e35]; decide) rfl ?_
      refine g5 c_331_1643 rfl ?_
      refine g5 c_331_1644 rfl ?_
      refine g3 c_331_1645 rfl ?_
      refine g1 c_331_1646 k_1 ?_
      refine g10 c_331_1647 ?_
      obtain ⟨ho, t⟩ := t
      refine g50 c_331_1648 ho ?_
      refine g5 c_331_1649 rfl ?_
      refine g3 c_331_1650 rfl ?_
      refine g1 c_331_1651 k_2 ?_
      refine g10 c_331_1652 ?_
      obtain ⟨ho, t⟩ := t
      refine g50 c_331_1653 ho ?_
      exact g80 (As := [.int (ab_i h x0 (Int32.toNatClampNeg (x3 + 1))), .int (ab_i h x0 (Int32.toNatClampNeg (x3 + 2)))]) (rest := []) c_331_1654 rfl rfl (Nat.le_of_ble_eq_true rfl) (Nat.le_of_ble_eq_true rfl) t.1 t.2
    rw [if_neg e35] at t
    by_cases e36 : ((ab_i h x0 (Int32.toNatClampNeg x3)) &&& 63) = 36
    · rw [if_pos e36] at t
      refine g42 (o := 1643) c_331_33 sw_10 (by rw [e36]; decide) (by rw [e36]; decide) rfl ?_
      refine g5 c_331_1676 rfl ?_
      refine g5 c_331_1677 rfl ?_
      refine g3 c_331_1678 rfl ?_
      refine g1 c_331_1679 k_1 ?_
      refine g10 c_331_1680 ?_
      obtain ⟨ho, t⟩ := t
      refine g50 c_331_1681 ho ?_
      exact g80 (As := [.int (ab_i h x0 (Int32.toNatClampNeg (x3 + 1)))]) (rest := []) c_331_1682 rfl rfl (Nat.le_of_ble_eq_true rfl) (Nat.le_of_ble_eq_true rfl) t.1 t.2
    rw [if_neg e36] at t
    by_cases e37 : ((ab_i h x0 (Int32.toNatClampNeg x3)) &&& 63) = 37
    · rw [if_pos e37] at t
      refine g42 (o := 1666) c_331_33 sw_10 (by rw [e37]; decide) (by rw [e37]; decide) rfl ?_
      refine g5 c_331_1699 rfl ?_
      refine g5 c_331_1700 rfl ?_
      refine g3 c_331_1701 rfl ?_
      refine g1 c_331_1702 k_1 ?_
      refine g10 c_331_1703 ?_
      obtain ⟨ho, t⟩ := t
      refine g50 c_331_1704 ho ?_
      refine g5 c_331_1705 rfl ?_
      refine g3 c_331_1706 rfl ?_
      refine g1 c_331_1707 k_2 ?_
      refine g10 c_331_1708 ?_
      obtain ⟨ho, t⟩ := t
      refine g50 c_331_1709 ho ?_
      exact g80 (As := [.int (ab_i h x0 (Int32.toNatClampNeg (x3 + 1))), .int (ab_i h x0 (Int32.toNatClampNeg (x3 + 2)))]) (rest := []) c_331_1710 rfl rfl (Nat.le_of_ble_eq_true rfl) (Nat.le_of_ble_eq_true rfl) t.1 t.2
    rw [if_neg e37] at t
    by_cases e38 : ((ab_i h x0 (Int32.toNatClampNeg x3)) &&& 63) = 38
    · rw [if_pos e38] at t
      refine g42 (o := 1699) c_331_33 sw_10 (by rw [e38]; decide) (by rw [e38]; decide) rfl ?_
      refine g5 c_331_1732 rfl ?_
      refine g5 c_331_1733 rfl ?_
      refine g3 c_331_1734 rfl ?_
      refine g1 c_331_1735 k_1 ?_
      refine g10 c_331_1736 ?_
      obtain ⟨ho, t⟩ := t
      refine g50 c_331_1737 ho ?_
      refine g5 c_331_1738 rfl ?_
      refine g3 c_331_1739 rfl ?_
      refine g1 c_331_1740 k_2 ?_
      refine g10 c_331_1741 ?_
      obtain ⟨ho, t⟩ := t
      refine g50 c_331_1742 ho ?_
      refine g5 c_331_1743 rfl ?_
      refine g3 c_331_1744 rfl ?_
      refine g1 c_331_1745 k_3 ?_
      refine g10 c_331_1746 ?_
      obtain ⟨ho, t⟩ := t
      refine g50 c_331_1747 ho ?_
      exact g80 (As := [.int (ab_i h x0 (Int32.toNatClampNeg (x3 + 1))), .int (ab_i h x0 (Int32.toNatClampNeg (x3 + 2))), .int (ab_i h x0 (Int32.toNatClampNeg (x3 + 3)))]) (rest := []) c_331_1748 rfl rfl (Nat.le_of_ble_eq_true rfl) (Nat.le_of_ble_eq_true rfl) t.1 t.2
    rw [if_neg e38] at t
    by_cases e39 : ((ab_i h x0 (Int32.toNatClampNeg x3)) &&& 63) = 39
    · rw [if_pos e39] at t
      refine g42 (o := 1742) c_331_33 sw_10 (by rw [e39]; decide) (by rw [e39]; decide) rfl ?_
      refine g5 c_331_1775 rfl ?_
      refine g5 c_331_1776 rfl ?_
      refine g3 c_331_1777 rfl ?_
      refine g1 c_331_1778 k_1 ?_
      refine g10 c_331_1779 ?_
      obtain ⟨ho, t⟩ := t
      refine g50 c_331_1780 ho ?_
      exact g80 (As := [.int (ab_i h x0 (Int32.toNatClampNeg (x3 + 1)))]) (rest := []) c_331_1781 rfl rfl (Nat.le_of_ble_eq_true rfl) (Nat.le_of_ble_eq_true rfl) t.1 t.2
    rw [if_neg e39] at t
    by_cases e40 : ((ab_i h x0 (Int32.toNatClampNeg x3)) &&& 63) = 40
    · rw [if_pos e40] at t
      refine g42 (o := 1765) c_331_33 sw_10 (by rw [e40]; decide) (by rw [e40]; decide) rfl ?_
      refine g5 c_331_1798 rfl ?_
      exact g80 (As := []) (rest := []) c_331_1799 rfl rfl (Nat.le_of_ble_eq_true rfl) (Nat.le_of_ble_eq_true rfl) t.1 t.2
    rw [if_neg e40] at t
    by_cases e41 : ((ab_i h x0 (Int32.toNatClampNeg x3)) &&& 63) = 41
    · rw [if_pos e41] at t
      refine g42 (o := 1778) c_331_33 sw_10 (by rw [e41]; decide) (by rw [e41]; decide) rfl ?_
      refine g5 c_331_1811 rfl ?_
      exact g80 (As := []) (rest := []) c_331_1812 rfl rfl (Nat.le_of_ble_eq_true rfl) (Nat.le_of_ble_eq_true rfl) t.1 t.2
    rw [if_neg e41] at t
    by_cases e42 : ((ab_i h x0 (Int32.toNatClampNeg x3)) &&& 63) = 42
    · rw [if_pos e42] at t
      refine g42 (o := 1791) c_331_33 sw_10 (by rw [e42]; decide) (by rw [e42]; decide) rfl ?_
      refine g5 c_331_1824 rfl ?_
      refine g5 c_331_1825 rfl ?_
      refine g3 c_331_1826 rfl ?_
      refine g1 c_331_1827 k_1 ?_
      refine g10 c_331_1828 ?_
      obtain ⟨ho, t⟩ := t
      refine g50 c_331_1829 ho ?_
      exact g80 (As := [.int (ab_i h x0 (Int32.toNatClampNeg (x3 + 1)))]) (rest := []) c_331_1830 rfl rfl (Nat.le_of_ble_eq_true rfl) (Nat.le_of_ble_eq_true rfl) t.1 t.2
    rw [if_neg e42] at t
    refine g42d c_331_33 sw_10 (gsw_out (n := 43) (by decide) (by decide) (fun i hi => ?_)) rfl ?_
    · rcases (show i = 0 ∨ i = 1 ∨ i = 2 ∨ i = 3 ∨ i = 4 ∨ i = 5 ∨ i = 6 ∨ i = 7 ∨ i = 8 ∨ i = 9 ∨ i = 10 ∨ i = 11 ∨ i = 12 ∨ i = 13 ∨ i = 14 ∨ i = 15 ∨ i = 16 ∨ i = 17 ∨ i = 18 ∨ i = 19 ∨ i = 20 ∨ i = 21 ∨ i = 22 ∨ i = 23 ∨ i = 24 ∨ i = 25 ∨ i = 26 ∨ i = 27 ∨ i = 28 ∨ i = 29 ∨ i = 30 ∨ i = 31 ∨ i = 32 ∨ i = 33 ∨ i = 34 ∨ i = 35 ∨ i = 36 ∨ i = 37 ∨ i = 38 ∨ i = 39 ∨ i = 40 ∨ i = 41 ∨ i = 42 by omega) with rfl | rfl | rfl | rfl | rfl | rfl | rfl | rfl | rfl | rfl | rfl | rfl | rfl | rfl | rfl | rfl | rfl | rfl | rfl | rfl | rfl | rfl | rfl | rfl | rfl | rfl | rfl | rfl | rfl | rfl | rfl | rfl | rfl | rfl | rfl | rfl | rfl | rfl | rfl | rfl | rfl | rfl | rfl
      · exact fun q => e0 (q.trans k_0)
      · exact fun q => e1 (q.trans k_1)
      · exact fun q => e2 (q.trans k_2)
      · exact fun q => e3 (q.trans k_3)
      · exact fun q => e4 (q.trans k_4)
      · exact fun q => e5 (q.trans k_5)
      · exact fun q => e6 (q.trans k_6)
      · exact fun q => e7 (q.trans k_7)
      · exact fun q => e8 (q.trans k_8)
      · exact fun q => e9 (q.trans k_9)
      · exact fun q => e10 (q.trans k_10)
      · exact fun q => e11 (q.trans k_11)
      · exact fun q => e12 (q.trans k_12)
      · exact fun q => e13 (q.trans k_13)
      · exact fun q => e14 (q.trans k_14)
      · exact fun q => e15 (q.trans k_15)
      · exact fun q => e16 (q.trans k_16)
      · exact fun q => e17 (q.trans k_17)
      · exact fun q => e18 (q.trans k_18)
      · exact fun q => e19 (q.trans k_19)
      · exact fun q => e20 (q.trans k_20)
      · exact fun q => e21 (q.trans k_21)
      · exact fun q => e22 (q.trans k_22)
      · exact fun q => e23 (q.trans k_23)
      · exact fun q => e24 (q.trans k_24)
      · exact fun q => e25 (q.trans k_25)
      · exact fun q => e26 (q.trans k_26)
      · exact fun q => e27 (q.trans k_27)
      · exact fun q => e28 (q.trans k_28)
      · exact fun q => e29 (q.trans k_29)
      · exact fun q => e30 (q.trans k_30)
      · exact fun q => e31 (q.trans k_31)
      · exact fun q => e32 (q.trans k_32)
      · exact fun q => e33 (q.trans k_33)
      · exact fun q => e34 (q.trans k_34)
      · exact fun q => e35 (q.trans k_35)
      · exact fun q => e36 (q.trans k_36)
      · exact fun q => e37 (q.trans k_37)
      · exact fun q => e38 (q.trans k_38)
      · exact fun q => e39 (q.trans k_39)
      · exact fun q => e40 (q.trans k_40)
      · exact fun q => e41 (q.trans k_41)
      · exact fun q => e42 (q.trans k_42)
    exact t
set_option maxRecDepth 20000 in
theorem t_331_255 {d : Nat} {h : ab_H} {Q : Option Value → ab_H → Prop} {x0 : Nat} {x1 : Nat} {x2 : Nat} {x3 : Int32} {s0 : Int32} (t : ((x0 = 0 ∨ ab_ok h x0 0 = true) ∧ ab_in (x3 + 1) (ab_s h x0).2 = true) ∧ ((x0 = 0 ∨ ab_ok h x0 0 = true) ∧ ab_in (x3 + 2) (ab_s h x0).2 = true) ∧ ((x0 = 0 ∨ ab_ok h x0 0 = true) ∧ ab_in (x3 + 3) (ab_s h x0).2 = true) ∧ ((x0 = 0 ∨ ab_ok h x0 0 = true) ∧ ab_in (x3 + 4) (ab_s h x0).2 = true) ∧ ((x0 = 0 ∨ ab_ok h x0 0 = true) ∧ ab_in (x3 + 5) (ab_s h x0).2 = true) ∧ ((x0 = 0 ∨ ab_ok h x0 0 = true) ∧ ab_in (x3 + 6) (ab_s h x0).2 = true) ∧ ab_ok h x2 112 = true ∧ wm d 206 [.ref x2, .int (ab_i h x0 (Int32.toNatClampNeg (x3 + 1))), .int (ab_i h x0 (Int32.toNatClampNeg (x3 + 2))), .int (ab_i h x0 (Int32.toNatClampNeg (x3 + 3))), .int (ab_i h x0 (Int32.toNatClampNeg (x3 + 4))), .int (ab_i h x0 (Int32.toNatClampNeg (x3 + 5))), .int (ab_i h x0 (Int32.toNatClampNeg (x3 + 6)))] h (fun r9 h9 => wq (d + 1) 331 290 [.ref x0, .ref x1, .ref x2, .int x3] (r9.toList ++ [.int s0]) h9 Q)) : wq (d + 1) 331 255 [.ref x0, .ref x1, .ref x2, .int x3] [.int s0] h Q := by
  refine g5 c_331_255 rfl ?_
  refine g5 c_331_256 rfl ?_
  refine g3 c_331_257 rfl ?_
  refine g1 c_331_258 k_1 ?_
  refine g10 c_331_259 ?_
  obtain ⟨ho, t⟩ := t
  refine g50 c_331_260 ho ?_
  refine g5 c_331_261 rfl ?_
  refine g3 c_331_262 rfl ?_
  refine g1 c_331_263 k_2 ?_
  refine g10 c_331_264 ?_
  obtain ⟨ho, t⟩ := t
  refine g50 c_331_265 ho ?_
  refine g5 c_331_266 rfl ?_
  refine g3 c_331_267 rfl ?_
  refine g1 c_331_268 k_3 ?_
  refine g10 c_331_269 ?_
  obtain ⟨ho, t⟩ := t
  refine g50 c_331_270 ho ?_
  refine g5 c_331_271 rfl ?_
  refine g3 c_331_272 rfl ?_
  refine g1 c_331_273 k_4 ?_
  refine g10 c_331_274 ?_
  obtain ⟨ho, t⟩ := t
  refine g50 c_331_275 ho ?_
  refine g5 c_331_276 rfl ?_
  refine g3 c_331_277 rfl ?_
  refine g1 c_331_278 k_5 ?_
  refine g10 c_331_279 ?_
  obtain ⟨ho, t⟩ := t
  refine g50 c_331_280 ho ?_
  refine g5 c_331_281 rfl ?_
  refine g3 c_331_282 rfl ?_
  refine g1 c_331_283 k_6 ?_
  refine g10 c_331_285 ?_
  obtain ⟨ho, t⟩ := t
  refine g50 c_331_286 ho ?_
  exact g80 (As := [.int (ab_i h x0 (Int32.toNatClampNeg (x3 + 1))), .int (ab_i h x0 (Int32.toNatClampNeg (x3 + 2))), .int (ab_i h x0 (Int32.toNatClampNeg (x3 + 3))), .int (ab_i h x0 (Int32.toNatClampNeg (x3 + 4))), .int (ab_i h x0 (Int32.toNatClampNeg (x3 + 5))), .int (ab_i h x0 (Int32.toNatClampNeg (x3 + 6)))]) (rest := [.int s0]) c_331_287 rfl rfl (Nat.le_of_ble_eq_true rfl) (Nat.le_of_ble_eq_true rfl) t.1 t.2
set_option maxRecDepth 20000 in
theorem t_331_290 {d : Nat} {h : ab_H} {Q : Option Value → ab_H → Prop} {x0 : Nat} {x1 : Nat} {x2 : Nat} {x3 : Int32} {s0 : Int32} {s1 : Int32} (t : if s0 = s1 then (wq d 331 1847 [.ref x0, .ref x1, .ref x2, .int x3] [] h Q) else (Q (some (.int 0)) h)) : wq d 331 290 [.ref x0, .ref x1, .ref x2, .int x3] [.int s1, .int s0] h Q := by
  refine gcm c_331_290 (gbr t rfl rfl (fun hc t => ?_) (fun hc t => ?_))
  · exact t
  · refine g1 c_331_293 k_0 ?_
    exact g91 c_331_294 ⟨by decide, t⟩
set_option maxRecDepth 20000 in
theorem t_331_314 {d : Nat} {h : ab_H} {Q : Option Value → ab_H → Prop} {x0 : Nat} {x1 : Nat} {x2 : Nat} {x3 : Int32} {s0 : Int32} (t : ((x0 = 0 ∨ ab_ok h x0 0 = true) ∧ ab_in (x3 + 1) (ab_s h x0).2 = true) ∧ ((x0 = 0 ∨ ab_ok h x0 0 = true) ∧ ab_in (x3 + 2) (ab_s h x0).2 = true) ∧ ((x0 = 0 ∨ ab_ok h x0 0 = true) ∧ ab_in (x3 + 3) (ab_s h x0).2 = true) ∧ ab_ok h x2 112 = true ∧ wm d 207 [.ref x2, .int (ab_i h x0 (Int32.toNatClampNeg (x3 + 1))), .int (ab_i h x0 (Int32.toNatClampNeg (x3 + 2))), .int (ab_i h x0 (Int32.toNatClampNeg (x3 + 3)))] h (fun r9 h9 => wq (d + 1) 331 333 [.ref x0, .ref x1, .ref x2, .int x3] (r9.toList ++ [.int s0]) h9 Q)) : wq (d + 1) 331 314 [.ref x0, .ref x1, .ref x2, .int x3] [.int s0] h Q := by
  refine g5 c_331_314 rfl ?_
  refine g5 c_331_315 rfl ?_
  refine g3 c_331_316 rfl ?_
  refine g1 c_331_317 k_1 ?_
  refine g10 c_331_318 ?_
  obtain ⟨ho, t⟩ := t
  refine g50 c_331_319 ho ?_
  refine g5 c_331_320 rfl ?_
  refine g3 c_331_321 rfl ?_
  refine g1 c_331_322 k_2 ?_
  refine g10 c_331_323 ?_
  obtain ⟨ho, t⟩ := t
  refine g50 c_331_324 ho ?_
  refine g5 c_331_325 rfl ?_
  refine g3 c_331_326 rfl ?_
  refine g1 c_331_327 k_3 ?_
  refine g10 c_331_328 ?_
  obtain ⟨ho, t⟩ := t
  refine g50 c_331_329 ho ?_
  exact g80 (As := [.int (ab_i h x0 (Int32.toNatClampNeg (x3 + 1))), .int (ab_i h x0 (Int32.toNatClampNeg (x3 + 2))), .int (ab_i h x0 (Int32.toNatClampNeg (x3 + 3)))]) (rest := [.int s0]) c_331_330 rfl rfl (Nat.le_of_ble_eq_true rfl) (Nat.le_of_ble_eq_true rfl) t.1 t.2
set_option maxRecDepth 20000 in
theorem t_331_333 {d : Nat} {h : ab_H} {Q : Option Value → ab_H → Prop} {x0 : Nat} {x1 : Nat} {x2 : Nat} {x3 : Int32} {s0 : Int32} {s1 : Int32} (t : if s0 = s1 then (wq d 331 1847 [.ref x0, .ref x1, .ref x2, .int x3] [] h Q) else (Q (some (.int 0)) h)) : wq d 331 333 [.ref x0, .ref x1, .ref x2, .int x3] [.int s1, .int s0] h Q := by
  refine gcm c_331_333 (gbr t rfl rfl (fun hc t => ?_) (fun hc t => ?_))
  · exact t
  · refine g1 c_331_336 k_0 ?_
    exact g91 c_331_337 ⟨by decide, t⟩
set_option maxRecDepth 20000 in
theorem t_331_352 {d : Nat} {h : ab_H} {Q : Option Value → ab_H → Prop} {x0 : Nat} {x1 : Nat} {x2 : Nat} {x3 : Int32} {s0 : Int32} (t : ((x0 = 0 ∨ ab_ok h x0 0 = true) ∧ ab_in (x3 + 1) (ab_s h x0).2 = true) ∧ ((x0 = 0 ∨ ab_ok h x0 0 = true) ∧ ab_in (x3 + 2) (ab_s h x0).2 = true) ∧ ab_ok h x2 112 = true ∧ wm d 208 [.ref x2, .int (ab_i h x0 (Int32.toNatClampNeg (x3 + 1))), .int (ab_i h x0 (Int32.toNatClampNeg (x3 + 2)))] h (fun r9 h9 => wq (d + 1) 331 366 [.ref x0, .ref x1, .ref x2, .int x3] (r9.toList ++ [.int s0]) h9 Q)) : wq (d + 1) 331 352 [.ref x0, .ref x1, .ref x2, .int x3] [.int s0] h Q := by
  refine g5 c_331_352 rfl ?_
  refine g5 c_331_353 rfl ?_
  refine g3 c_331_354 rfl ?_
  refine g1 c_331_355 k_1 ?_
  refine g10 c_331_356 ?_
  obtain ⟨ho, t⟩ := t
  refine g50 c_331_357 ho ?_
  refine g5 c_331_358 rfl ?_
  refine g3 c_331_359 rfl ?_
  refine g1 c_331_360 k_2 ?_
  refine g10 c_331_361 ?_
  obtain ⟨ho, t⟩ := t
  refine g50 c_331_362 ho ?_
  exact g80 (As := [.int (ab_i h x0 (Int32.toNatClampNeg (x3 + 1))), .int (ab_i h x0 (Int32.toNatClampNeg (x3 + 2)))]) (rest := [.int s0]) c_331_363 rfl rfl (Nat.le_of_ble_eq_true rfl) (Nat.le_of_ble_eq_true rfl) t.1 t.2
set_option maxRecDepth 20000 in
theorem t_331_366 {d : Nat} {h : ab_H} {Q : Option Value → ab_H → Prop} {x0 : Nat} {x1 : Nat} {x2 : Nat} {x3 : Int32} {s0 : Int32} {s1 : Int32} (t : if s0 = s1 then (wq d 331 1847 [.ref x0, .ref x1, .ref x2, .int x3] [] h Q) else (Q (some (.int 0)) h)) : wq d 331 366 [.ref x0, .ref x1, .ref x2, .int x3] [.int s1, .int s0] h Q := by
  refine gcm c_331_366 (gbr t rfl rfl (fun hc t => ?_) (fun hc t => ?_))
  · exact t
  · refine g1 c_331_369 k_0 ?_
    exact g91 c_331_370 ⟨by decide, t⟩
set_option maxRecDepth 20000 in
theorem t_331_385 {d : Nat} {h : ab_H} {Q : Option Value → ab_H → Prop} {x0 : Nat} {x1 : Nat} {x2 : Nat} {x3 : Int32} {s0 : Int32} (t : ((x0 = 0 ∨ ab_ok h x0 0 = true) ∧ ab_in (x3 + 1) (ab_s h x0).2 = true) ∧ ((x0 = 0 ∨ ab_ok h x0 0 = true) ∧ ab_in (x3 + 2) (ab_s h x0).2 = true) ∧ ab_ok h x2 112 = true ∧ wm d 210 [.ref x2, .int (ab_i h x0 (Int32.toNatClampNeg (x3 + 1))), .int (ab_i h x0 (Int32.toNatClampNeg (x3 + 2)))] h (fun r9 h9 => wq (d + 1) 331 399 [.ref x0, .ref x1, .ref x2, .int x3] (r9.toList ++ [.int s0]) h9 Q)) : wq (d + 1) 331 385 [.ref x0, .ref x1, .ref x2, .int x3] [.int s0] h Q := by
  refine g5 c_331_385 rfl ?_
  refine g5 c_331_386 rfl ?_
  refine g3 c_331_387 rfl ?_
  refine g1 c_331_388 k_1 ?_
  refine g10 c_331_389 ?_
  obtain ⟨ho, t⟩ := t
  refine g50 c_331_390 ho ?_
  refine g5 c_331_391 rfl ?_
  refine g3 c_331_392 rfl ?_
  refine g1 c_331_393 k_2 ?_
  refine g10 c_331_394 ?_
  obtain ⟨ho, t⟩ := t
  refine g50 c_331_395 ho ?_
  exact g80 (As := [.int (ab_i h x0 (Int32.toNatClampNeg (x3 + 1))), .int (ab_i h x0 (Int32.toNatClampNeg (x3 + 2)))]) (rest := [.int s0]) c_331_396 rfl rfl (Nat.le_of_ble_eq_true rfl) (Nat.le_of_ble_eq_true rfl) t.1 t.2
set_option maxRecDepth 20000 in
theorem t_331_399 {d : Nat} {h : ab_H} {Q : Option Value → ab_H → Prop} {x0 : Nat} {x1 : Nat} {x2 : Nat} {x3 : Int32} {s0 : Int32} {s1 : Int32} (t : if s0 = s1 then (wq d 331 1847 [.ref x0, .ref x1, .ref x2, .int x3] [] h Q) else (Q (some (.int 0)) h)) : wq d 331 399 [.ref x0, .ref x1, .ref x2, .int x3] [.int s1, .int s0] h Q := by
  refine gcm c_331_399 (gbr t rfl rfl (fun hc t => ?_) (fun hc t => ?_))
  · exact t
  · refine g1 c_331_402 k_0 ?_
    exact g91 c_331_403 ⟨by decide, t⟩
set_option maxRecDepth 20000 in
theorem t_331_428 {d : Nat} {h : ab_H} {Q : Option Value → ab_H → Prop} {x0 : Nat} {x1 : Nat} {x2 : Nat} {x3 : Int32} {s0 : Int32} (t : ((x0 = 0 ∨ ab_ok h x0 0 = true) ∧ ab_in (x3 + 1) (ab_s h x0).2 = true) ∧ ((x0 = 0 ∨ ab_ok h x0 0 = true) ∧ ab_in (x3 + 2) (ab_s h x0).2 = true) ∧ ((x0 = 0 ∨ ab_ok h x0 0 = true) ∧ ab_in (x3 + 3) (ab_s h x0).2 = true) ∧ ((x0 = 0 ∨ ab_ok h x0 0 = true) ∧ ab_in (x3 + 4) (ab_s h x0).2 = true) ∧ ab_ok h x2 112 = true ∧ wm d 211 [.ref x2, .int (ab_i h x0 (Int32.toNatClampNeg (x3 + 1))), .int (ab_i h x0 (Int32.toNatClampNeg (x3 + 2))), .int (ab_i h x0 (Int32.toNatClampNeg (x3 + 3))), .int (ab_i h x0 (Int32.toNatClampNeg (x3 + 4)))] h (fun r9 h9 => wq (d + 1) 331 452 [.ref x0, .ref x1, .ref x2, .int x3] (r9.toList ++ [.int s0]) h9 Q)) : wq (d + 1) 331 428 [.ref x0, .ref x1, .ref x2, .int x3] [.int s0] h Q := by
  refine g5 c_331_428 rfl ?_
  refine g5 c_331_429 rfl ?_
  refine g3 c_331_430 rfl ?_
  refine g1 c_331_431 k_1 ?_
  refine g10 c_331_432 ?_
  obtain ⟨ho, t⟩ := t
  refine g50 c_331_433 ho ?_
  refine g5 c_331_434 rfl ?_
  refine g3 c_331_435 rfl ?_
  refine g1 c_331_436 k_2 ?_
  refine g10 c_331_437 ?_
  obtain ⟨ho, t⟩ := t
  refine g50 c_331_438 ho ?_
  refine g5 c_331_439 rfl ?_
  refine g3 c_331_440 rfl ?_
  refine g1 c_331_441 k_3 ?_
  refine g10 c_331_442 ?_
  obtain ⟨ho, t⟩ := t
  refine g50 c_331_443 ho ?_
  refine g5 c_331_444 rfl ?_
  refine g3 c_331_445 rfl ?_
  refine g1 c_331_446 k_4 ?_
  refine g10 c_331_447 ?_
  obtain ⟨ho, t⟩ := t
  refine g50 c_331_448 ho ?_
  exact g80 (As := [.int (ab_i h x0 (Int32.toNatClampNeg (x3 + 1))), .int (ab_i h x0 (Int32.toNatClampNeg (x3 + 2))), .int (ab_i h x0 (Int32.toNatClampNeg (x3 + 3))), .int (ab_i h x0 (Int32.toNatClampNeg (x3 + 4)))]) (rest := [.int s0]) c_331_449 rfl rfl (Nat.le_of_ble_eq_true rfl) (Nat.le_of_ble_eq_true rfl) t.1 t.2
set_option maxRecDepth 20000 in
theorem t_331_452 {d : Nat} {h : ab_H} {Q : Option Value → ab_H → Prop} {x0 : Nat} {x1 : Nat} {x2 : Nat} {x3 : Int32} {s0 : Int32} {s1 : Int32} (t : if s0 = s1 then (wq d 331 1847 [.ref x0, .ref x1, .ref x2, .int x3] [] h Q) else (Q (some (.int 0)) h)) : wq d 331 452 [.ref x0, .ref x1, .ref x2, .int x3] [.int s1, .int s0] h Q := by
  refine gcm c_331_452 (gbr t rfl rfl (fun hc t => ?_) (fun hc t => ?_))
  · exact t
  · refine g1 c_331_455 k_0 ?_
    exact g91 c_331_456 ⟨by decide, t⟩
set_option maxRecDepth 20000 in
theorem t_331_476 {d : Nat} {h : ab_H} {Q : Option Value → ab_H → Prop} {x0 : Nat} {x1 : Nat} {x2 : Nat} {x3 : Int32} {s0 : Int32} (t : ((x0 = 0 ∨ ab_ok h x0 0 = true) ∧ ab_in (x3 + 1) (ab_s h x0).2 = true) ∧ ((x0 = 0 ∨ ab_ok h x0 0 = true) ∧ ab_in (x3 + 2) (ab_s h x0).2 = true) ∧ ((x0 = 0 ∨ ab_ok h x0 0 = true) ∧ ab_in (x3 + 3) (ab_s h x0).2 = true) ∧ ab_ok h x2 112 = true ∧ wm d 212 [.ref x2, .int (ab_i h x0 (Int32.toNatClampNeg (x3 + 1))), .int (ab_i h x0 (Int32.toNatClampNeg (x3 + 2))), .int (ab_i h x0 (Int32.toNatClampNeg (x3 + 3)))] h (fun r9 h9 => wq (d + 1) 331 495 [.ref x0, .ref x1, .ref x2, .int x3] (r9.toList ++ [.int s0]) h9 Q)) : wq (d + 1) 331 476 [.ref x0, .ref x1, .ref x2, .int x3] [.int s0] h Q := by
  refine g5 c_331_476 rfl ?_
  refine g5 c_331_477 rfl ?_
  refine g3 c_331_478 rfl ?_
  refine g1 c_331_479 k_1 ?_
  refine g10 c_331_480 ?_
  obtain ⟨ho, t⟩ := t
  refine g50 c_331_481 ho ?_
  refine g5 c_331_482 rfl ?_
  refine g3 c_331_483 rfl ?_
  refine g1 c_331_484 k_2 ?_
  refine g10 c_331_485 ?_
  obtain ⟨ho, t⟩ := t
  refine g50 c_331_486 ho ?_
  refine g5 c_331_487 rfl ?_
  refine g3 c_331_488 rfl ?_
  refine g1 c_331_489 k_3 ?_
  refine g10 c_331_490 ?_
  obtain ⟨ho, t⟩ := t
  refine g50 c_331_491 ho ?_
  exact g80 (As := [.int (ab_i h x0 (Int32.toNatClampNeg (x3 + 1))), .int (ab_i h x0 (Int32.toNatClampNeg (x3 + 2))), .int (ab_i h x0 (Int32.toNatClampNeg (x3 + 3)))]) (rest := [.int s0]) c_331_492 rfl rfl (Nat.le_of_ble_eq_true rfl) (Nat.le_of_ble_eq_true rfl) t.1 t.2
set_option maxRecDepth 20000 in
theorem t_331_495 {d : Nat} {h : ab_H} {Q : Option Value → ab_H → Prop} {x0 : Nat} {x1 : Nat} {x2 : Nat} {x3 : Int32} {s0 : Int32} {s1 : Int32} (t : if s0 = s1 then (wq d 331 1847 [.ref x0, .ref x1, .ref x2, .int x3] [] h Q) else (Q (some (.int 0)) h)) : wq d 331 495 [.ref x0, .ref x1, .ref x2, .int x3] [.int s1, .int s0] h Q := by
  refine gcm c_331_495 (gbr t rfl rfl (fun hc t => ?_) (fun hc t => ?_))
  · exact t
  · refine g1 c_331_498 k_0 ?_
    exact g91 c_331_499 ⟨by decide, t⟩
set_option maxRecDepth 20000 in
theorem t_331_514 {d : Nat} {h : ab_H} {Q : Option Value → ab_H → Prop} {x0 : Nat} {x1 : Nat} {x2 : Nat} {x3 : Int32} {s0 : Int32} (t : ((x0 = 0 ∨ ab_ok h x0 0 = true) ∧ ab_in (x3 + 1) (ab_s h x0).2 = true) ∧ ((x0 = 0 ∨ ab_ok h x0 0 = true) ∧ ab_in (x3 + 2) (ab_s h x0).2 = true) ∧ ab_ok h x2 112 = true ∧ wm d 213 [.ref x2, .int (ab_i h x0 (Int32.toNatClampNeg (x3 + 1))), .int (ab_i h x0 (Int32.toNatClampNeg (x3 + 2)))] h (fun r9 h9 => wq (d + 1) 331 528 [.ref x0, .ref x1, .ref x2, .int x3] (r9.toList ++ [.int s0]) h9 Q)) : wq (d + 1) 331 514 [.ref x0, .ref x1, .ref x2, .int x3] [.int s0] h Q := by
  refine g5 c_331_514 rfl ?_
  refine g5 c_331_515 rfl ?_
  refine g3 c_331_516 rfl ?_
  refine g1 c_331_517 k_1 ?_
  refine g10 c_331_518 ?_
  obtain ⟨ho, t⟩ := t
  refine g50 c_331_519 ho ?_
  refine g5 c_331_520 rfl ?_
  refine g3 c_331_521 rfl ?_
  refine g1 c_331_522 k_2 ?_
  refine g10 c_331_523 ?_
  obtain ⟨ho, t⟩ := t
  refine g50 c_331_524 ho ?_
  exact g80 (As := [.int (ab_i h x0 (Int32.toNatClampNeg (x3 + 1))), .int (ab_i h x0 (Int32.toNatClampNeg (x3 + 2)))]) (rest := [.int s0]) c_331_525 rfl rfl (Nat.le_of_ble_eq_true rfl) (Nat.le_of_ble_eq_true rfl) t.1 t.2
set_option maxRecDepth 20000 in
theorem t_331_528 {d : Nat} {h : ab_H} {Q : Option Value → ab_H → Prop} {x0 : Nat} {x1 : Nat} {x2 : Nat} {x3 : Int32} {s0 : Int32} {s1 : Int32} (t : if s0 = s1 then (wq d 331 1847 [.ref x0, .ref x1, .ref x2, .int x3] [] h Q) else (Q (some (.int 0)) h)) : wq d 331 528 [.ref x0, .ref x1, .ref x2, .int x3] [.int s1, .int s0] h Q := by
  refine gcm c_331_528 (gbr t rfl rfl (fun hc t => ?_) (fun hc t => ?_))
  · exact t
  · refine g1 c_331_531 k_0 ?_
    exact g91 c_331_532 ⟨by decide, t⟩
set_option maxRecDepth 20000 in
theorem t_331_552 {d : Nat} {h : ab_H} {Q : Option Value → ab_H → Prop} {x0 : Nat} {x1 : Nat} {x2 : Nat} {x3 : Int32} {s0 : Int32} (t : ((x0 = 0 ∨ ab_ok h x0 0 = true) ∧ ab_in (x3 + 1) (ab_s h x0).2 = true) ∧ ((x0 = 0 ∨ ab_ok h x0 0 = true) ∧ ab_in (x3 + 2) (ab_s h x0).2 = true) ∧ ((x0 = 0 ∨ ab_ok h x0 0 = true) ∧ ab_in (x3 + 3) (ab_s h x0).2 = true) ∧ ab_ok h x2 112 = true ∧ wm d 214 [.ref x2, .int (ab_i h x0 (Int32.toNatClampNeg (x3 + 1))), .int (ab_i h x0 (Int32.toNatClampNeg (x3 + 2))), .int (ab_i h x0 (Int32.toNatClampNeg (x3 + 3)))] h (fun r9 h9 => wq (d + 1) 331 571 [.ref x0, .ref x1, .ref x2, .int x3] (r9.toList ++ [.int s0]) h9 Q)) : wq (d + 1) 331 552 [.ref x0, .ref x1, .ref x2, .int x3] [.int s0] h Q := by
  refine g5 c_331_552 rfl ?_
  refine g5 c_331_553 rfl ?_
  refine g3 c_331_554 rfl ?_
  refine g1 c_331_555 k_1 ?_
  refine g10 c_331_556 ?_
  obtain ⟨ho, t⟩ := t
  refine g50 c_331_557 ho ?_
  refine g5 c_331_558 rfl ?_
  refine g3 c_331_559 rfl ?_
  refine g1 c_331_560 k_2 ?_
  refine g10 c_331_561 ?_
  obtain ⟨ho, t⟩ := t
  refine g50 c_331_562 ho ?_
  refine g5 c_331_563 rfl ?_
  refine g3 c_331_564 rfl ?_
  refine g1 c_331_565 k_3 ?_
  refine g10 c_331_566 ?_
  obtain ⟨ho, t⟩ := t
  refine g50 c_331_567 ho ?_
  exact g80 (As := [.int (ab_i h x0 (Int32.toNatClampNeg (x3 + 1))), .int (ab_i h x0 (Int32.toNatClampNeg (x3 + 2))), .int (ab_i h x0 (Int32.toNatClampNeg (x3 + 3)))]) (rest := [.int s0]) c_331_568 rfl rfl (Nat.le_of_ble_eq_true rfl) (Nat.le_of_ble_eq_true rfl) t.1 t.2
set_option maxRecDepth 20000 in
theorem t_331_571 {d : Nat} {h : ab_H} {Q : Option Value → ab_H → Prop} {x0 : Nat} {x1 : Nat} {x2 : Nat} {x3 : Int32} {s0 : Int32} {s1 : Int32} (t : if s0 = s1 then (wq d 331 1847 [.ref x0, .ref x1, .ref x2, .int x3] [] h Q) else (Q (some (.int 0)) h)) : wq d 331 571 [.ref x0, .ref x1, .ref x2, .int x3] [.int s1, .int s0] h Q := by
  refine gcm c_331_571 (gbr t rfl rfl (fun hc t => ?_) (fun hc t => ?_))
  · exact t
  · refine g1 c_331_574 k_0 ?_
    exact g91 c_331_575 ⟨by decide, t⟩
set_option maxRecDepth 20000 in
theorem t_331_600 {d : Nat} {h : ab_H} {Q : Option Value → ab_H → Prop} {x0 : Nat} {x1 : Nat} {x2 : Nat} {x3 : Int32} {s0 : Int32} (t : ((x0 = 0 ∨ ab_ok h x0 0 = true) ∧ ab_in (x3 + 1) (ab_s h x0).2 = true) ∧ ((x0 = 0 ∨ ab_ok h x0 0 = true) ∧ ab_in (x3 + 2) (ab_s h x0).2 = true) ∧ ((x0 = 0 ∨ ab_ok h x0 0 = true) ∧ ab_in (x3 + 3) (ab_s h x0).2 = true) ∧ ((x0 = 0 ∨ ab_ok h x0 0 = true) ∧ ab_in (x3 + 4) (ab_s h x0).2 = true) ∧ ab_ok h x2 112 = true ∧ wm d 218 [.ref x2, .int (ab_i h x0 (Int32.toNatClampNeg (x3 + 1))), .int (ab_i h x0 (Int32.toNatClampNeg (x3 + 2))), .int (ab_i h x0 (Int32.toNatClampNeg (x3 + 3))), .int (ab_i h x0 (Int32.toNatClampNeg (x3 + 4)))] h (fun r9 h9 => wq (d + 1) 331 624 [.ref x0, .ref x1, .ref x2, .int x3] (r9.toList ++ [.int s0]) h9 Q)) : wq (d + 1) 331 600 [.ref x0, .ref x1, .ref x2, .int x3] [.int s0] h Q := by
  refine g5 c_331_600 rfl ?_
  refine g5 c_331_601 rfl ?_
  refine g3 c_331_602 rfl ?_
  refine g1 c_331_603 k_1 ?_
  refine g10 c_331_604 ?_
  obtain ⟨ho, t⟩ := t
  refine g50 c_331_605 ho ?_
  refine g5 c_331_606 rfl ?_
  refine g3 c_331_607 rfl ?_
  refine g1 c_331_608 k_2 ?_
  refine g10 c_331_609 ?_
  obtain ⟨ho, t⟩ := t
  refine g50 c_331_610 ho ?_
  refine g5 c_331_611 rfl ?_
  refine g3 c_331_612 rfl ?_
  refine g1 c_331_613 k_3 ?_
  refine g10 c_331_614 ?_
  obtain ⟨ho, t⟩ := t
  refine g50 c_331_615 ho ?_
  refine g5 c_331_616 rfl ?_
  refine g3 c_331_617 rfl ?_
  refine g1 c_331_618 k_4 ?_
  refine g10 c_331_619 ?_
  obtain ⟨ho, t⟩ := t
  refine g50 c_331_620 ho ?_
  exact g80 (As := [.int (ab_i h x0 (Int32.toNatClampNeg (x3 + 1))), .int (ab_i h x0 (Int32.toNatClampNeg (x3 + 2))), .int (ab_i h x0 (Int32.toNatClampNeg (x3 + 3))), .int (ab_i h x0 (Int32.toNatClampNeg (x3 + 4)))]) (rest := [.int s0]) c_331_621 rfl rfl (Nat.le_of_ble_eq_true rfl) (Nat.le_of_ble_eq_true rfl) t.1 t.2
set_option maxRecDepth 20000 in
theorem t_331_624 {d : Nat} {h : ab_H} {Q : Option Value → ab_H → Prop} {x0 : Nat} {x1 : Nat} {x2 : Nat} {x3 : Int32} {s0 : Int32} {s1 : Int32} (t : if s0 = s1 then (wq d 331 1847 [.ref x0, .ref x1, .ref x2, .int x3] [] h Q) else (Q (some (.int 0)) h)) : wq d 331 624 [.ref x0, .ref x1, .ref x2, .int x3] [.int s1, .int s0] h Q := by
  refine gcm c_331_624 (gbr t rfl rfl (fun hc t => ?_) (fun hc t => ?_))
  · exact t
  · refine g1 c_331_627 k_0 ?_
    exact g91 c_331_628 ⟨by decide, t⟩
set_option maxRecDepth 20000 in
theorem t_331_658 {d : Nat} {h : ab_H} {Q : Option Value → ab_H → Prop} {x0 : Nat} {x1 : Nat} {x2 : Nat} {x3 : Int32} {s0 : Int32} (t : ((x0 = 0 ∨ ab_ok h x0 0 = true) ∧ ab_in (x3 + 1) (ab_s h x0).2 = true) ∧ ((x0 = 0 ∨ ab_ok h x0 0 = true) ∧ ab_in (x3 + 2) (ab_s h x0).2 = true) ∧ ((x0 = 0 ∨ ab_ok h x0 0 = true) ∧ ab_in (x3 + 3) (ab_s h x0).2 = true) ∧ ((x0 = 0 ∨ ab_ok h x0 0 = true) ∧ ab_in (x3 + 4) (ab_s h x0).2 = true) ∧ ((x0 = 0 ∨ ab_ok h x0 0 = true) ∧ ab_in (x3 + 5) (ab_s h x0).2 = true) ∧ ab_ok h x2 112 = true ∧ wm d 226 [.ref x2, .int (ab_i h x0 (Int32.toNatClampNeg (x3 + 1))), .int (ab_i h x0 (Int32.toNatClampNeg (x3 + 2))), .int (ab_i h x0 (Int32.toNatClampNeg (x3 + 3))), .int (ab_i h x0 (Int32.toNatClampNeg (x3 + 4))), .int (ab_i h x0 (Int32.toNatClampNeg (x3 + 5)))] h (fun r9 h9 => wq (d + 1) 331 687 [.ref x0, .ref x1, .ref x2, .int x3] (r9.toList ++ [.int s0]) h9 Q)) : wq (d + 1) 331 658 [.ref x0, .ref x1, .ref x2, .int x3] [.int s0] h Q := by
  refine g5 c_331_658 rfl ?_
  refine g5 c_331_659 rfl ?_
  refine g3 c_331_660 rfl ?_
  refine g1 c_331_661 k_1 ?_
  refine g10 c_331_662 ?_
  obtain ⟨ho, t⟩ := t
  refine g50 c_331_663 ho ?_
  refine g5 c_331_664 rfl ?_
  refine g3 c_331_665 rfl ?_
  refine g1 c_331_666 k_2 ?_
  refine g10 c_331_667 ?_
  obtain ⟨ho, t⟩ := t
  refine g50 c_331_668 ho ?_
  refine g5 c_331_669 rfl ?_
  refine g3 c_331_670 rfl ?_
  refine g1 c_331_671 k_3 ?_
  refine g10 c_331_672 ?_
  obtain ⟨ho, t⟩ := t
  refine g50 c_331_673 ho ?_
  refine g5 c_331_674 rfl ?_
  refine g3 c_331_675 rfl ?_
  refine g1 c_331_676 k_4 ?_
  refine g10 c_331_677 ?_
  obtain ⟨ho, t⟩ := t
  refine g50 c_331_678 ho ?_
  refine g5 c_331_679 rfl ?_
  refine g3 c_331_680 rfl ?_
  refine g1 c_331_681 k_5 ?_
  refine g10 c_331_682 ?_
  obtain ⟨ho, t⟩ := t
  refine g50 c_331_683 ho ?_
  exact g80 (As := [.int (ab_i h x0 (Int32.toNatClampNeg (x3 + 1))), .int (ab_i h x0 (Int32.toNatClampNeg (x3 + 2))), .int (ab_i h x0 (Int32.toNatClampNeg (x3 + 3))), .int (ab_i h x0 (Int32.toNatClampNeg (x3 + 4))), .int (ab_i h x0 (Int32.toNatClampNeg (x3 + 5)))]) (rest := [.int s0]) c_331_684 rfl rfl (Nat.le_of_ble_eq_true rfl) (Nat.le_of_ble_eq_true rfl) t.1 t.2
set_option maxRecDepth 20000 in
theorem t_331_687 {d : Nat} {h : ab_H} {Q : Option Value → ab_H → Prop} {x0 : Nat} {x1 : Nat} {x2 : Nat} {x3 : Int32} {s0 : Int32} {s1 : Int32} (t : if s0 = s1 then (wq d 331 1847 [.ref x0, .ref x1, .ref x2, .int x3] [] h Q) else (Q (some (.int 0)) h)) : wq d 331 687 [.ref x0, .ref x1, .ref x2, .int x3] [.int s1, .int s0] h Q := by
  refine gcm c_331_687 (gbr t rfl rfl (fun hc t => ?_) (fun hc t => ?_))
  · exact t
  · refine g1 c_331_690 k_0 ?_
    exact g91 c_331_691 ⟨by decide, t⟩
set_option maxRecDepth 20000 in
theorem t_331_701 {d : Nat} {h : ab_H} {Q : Option Value → ab_H → Prop} {x0 : Nat} {x1 : Nat} {x2 : Nat} {x3 : Int32} {s0 : Int32} (t : ((x0 = 0 ∨ ab_ok h x0 0 = true) ∧ ab_in (x3 + 1) (ab_s h x0).2 = true) ∧ ab_ok h x2 112 = true ∧ wm d 227 [.ref x2, .int (ab_i h x0 (Int32.toNatClampNeg (x3 + 1)))] h (fun r9 h9 => wq (d + 1) 331 710 [.ref x0, .ref x1, .ref x2, .int x3] (r9.toList ++ [.int s0]) h9 Q)) : wq (d + 1) 331 701 [.ref x0, .ref x1, .ref x2, .int x3] [.int s0] h Q := by
  refine g5 c_331_701 rfl ?_
  refine g5 c_331_702 rfl ?_
  refine g3 c_331_703 rfl ?_
  refine g1 c_331_704 k_1 ?_
  refine g10 c_331_705 ?_
  obtain ⟨ho, t⟩ := t
  refine g50 c_331_706 ho ?_
  exact g80 (As := [.int (ab_i h x0 (Int32.toNatClampNeg (x3 + 1)))]) (rest := [.int s0]) c_331_707 rfl rfl (Nat.le_of_ble_eq_true rfl) (Nat.le_of_ble_eq_true rfl) t.1 t.2
set_option maxRecDepth 20000 in
theorem t_331_710 {d : Nat} {h : ab_H} {Q : Option Value → ab_H → Prop} {x0 : Nat} {x1 : Nat} {x2 : Nat} {x3 : Int32} {s0 : Int32} {s1 : Int32} (t : if s0 = s1 then (wq d 331 1847 [.ref x0, .ref x1, .ref x2, .int x3] [] h Q) else (Q (some (.int 0)) h)) : wq d 331 710 [.ref x0, .ref x1, .ref x2, .int x3] [.int s1, .int s0] h Q := by
  refine gcm c_331_710 (gbr t rfl rfl (fun hc t => ?_) (fun hc t => ?_))
  · exact t
  · refine g1 c_331_713 k_0 ?_
    exact g91 c_331_714 ⟨by decide, t⟩
set_option maxRecDepth 20000 in
theorem t_331_719 {d : Nat} {h : ab_H} {Q : Option Value → ab_H → Prop} {x0 : Nat} {x1 : Nat} {x2 : Nat} {x3 : Int32} {s0 : Int32} (t : ab_ok h x2 112 = true ∧ wm d 259 [.ref x2] h (fun r9 h9 => wq (d + 1) 331 723 [.ref x0, .ref x1, .ref x2, .int x3] (r9.toList ++ [.int s0]) h9 Q)) : wq (d + 1) 331 719 [.ref x0, .ref x1, .ref x2, .int x3] [.int s0] h Q := by
  refine g5 c_331_719 rfl ?_
  exact g80 (As := []) (rest := [.int s0]) c_331_720 rfl rfl (Nat.le_of_ble_eq_true rfl) (Nat.le_of_ble_eq_true rfl) t.1 t.2
set_option maxRecDepth 20000 in
theorem t_331_723 {d : Nat} {h : ab_H} {Q : Option Value → ab_H → Prop} {x0 : Nat} {x1 : Nat} {x2 : Nat} {x3 : Int32} {s0 : Int32} {s1 : Int32} (t : if s0 = s1 then (wq d 331 1847 [.ref x0, .ref x1, .ref x2, .int x3] [] h Q) else (Q (some (.int 0)) h)) : wq d 331 723 [.ref x0, .ref x1, .ref x2, .int x3] [.int s1, .int s0] h Q := by
  refine gcm c_331_723 (gbr t rfl rfl (fun hc t => ?_) (fun hc t => ?_))
  · exact t
  · refine g1 c_331_726 k_0 ?_
    exact g91 c_331_727 ⟨by decide, t⟩
set_option maxRecDepth 20000 in
theorem t_331_737 {d : Nat} {h : ab_H} {Q : Option Value → ab_H → Prop} {x0 : Nat} {x1 : Nat} {x2 : Nat} {x3 : Int32} {s0 : Int32} (t : ((x0 = 0 ∨ ab_ok h x0 0 = true) ∧ ab_in (x3 + 1) (ab_s h x0).2 = true) ∧ ab_ok h x2 112 = true ∧ wm d 260 [.ref x2, .int (ab_i h x0 (Int32.toNatClampNeg (x3 + 1)))] h (fun r9 h9 => wq (d + 1) 331 746 [.ref x0, .ref x1, .ref x2, .int x3] (r9.toList ++ [.int s0]) h9 Q)) : wq (d + 1) 331 737 [.ref x0, .ref x1, .ref x2, .int x3] [.int s0] h Q := by
  refine g5 c_331_737 rfl ?_
  refine g5 c_331_738 rfl ?_
  refine g3 c_331_739 rfl ?_
  refine g1 c_331_740 k_1 ?_
  refine g10 c_331_741 ?_
  obtain ⟨ho, t⟩ := t
  refine g50 c_331_742 ho ?_
  exact g80 (As := [.int (ab_i h x0 (Int32.toNatClampNeg (x3 + 1)))]) (rest := [.int s0]) c_331_743 rfl rfl (Nat.le_of_ble_eq_true rfl) (Nat.le_of_ble_eq_true rfl) t.1 t.2
set_option maxRecDepth 20000 in
theorem t_331_746 {d : Nat} {h : ab_H} {Q : Option Value → ab_H → Prop} {x0 : Nat} {x1 : Nat} {x2 : Nat} {x3 : Int32} {s0 : Int32} {s1 : Int32} (t : if s0 = s1 then (wq d 331 1847 [.ref x0, .ref x1, .ref x2, .int x3] [] h Q) else (Q (some (.int 0)) h)) : wq d 331 746 [.ref x0, .ref x1, .ref x2, .int x3] [.int s1, .int s0] h Q := by
  refine gcm c_331_746 (gbr t rfl rfl (fun hc t => ?_) (fun hc t => ?_))
  · exact t
  · refine g1 c_331_749 k_0 ?_
    exact g91 c_331_750 ⟨by decide, t⟩
set_option maxRecDepth 20000 in
theorem t_331_775 {d : Nat} {h : ab_H} {Q : Option Value → ab_H → Prop} {x0 : Nat} {x1 : Nat} {x2 : Nat} {x3 : Int32} {s0 : Int32} (t : ((x0 = 0 ∨ ab_ok h x0 0 = true) ∧ ab_in (x3 + 1) (ab_s h x0).2 = true) ∧ ((x0 = 0 ∨ ab_ok h x0 0 = true) ∧ ab_in (x3 + 2) (ab_s h x0).2 = true) ∧ ((x0 = 0 ∨ ab_ok h x0 0 = true) ∧ ab_in (x3 + 3) (ab_s h x0).2 = true) ∧ ((x0 = 0 ∨ ab_ok h x0 0 = true) ∧ ab_in (x3 + 4) (ab_s h x0).2 = true) ∧ ab_ok h x2 112 = true ∧ wm d 219 [.ref x2, .int (ab_i h x0 (Int32.toNatClampNeg (x3 + 1))), .int (ab_i h x0 (Int32.toNatClampNeg (x3 + 2))), .int (ab_i h x0 (Int32.toNatClampNeg (x3 + 3))), .int (ab_i h x0 (Int32.toNatClampNeg (x3 + 4)))] h (fun r9 h9 => wq (d + 1) 331 799 [.ref x0, .ref x1, .ref x2, .int x3] (r9.toList ++ [.int s0]) h9 Q)) : wq (d + 1) 331 775 [.ref x0, .ref x1, .ref x2, .int x3] [.int s0] h Q := by
  refine g5 c_331_775 rfl ?_
  refine g5 c_331_776 rfl ?_
  refine g3 c_331_777 rfl ?_
  refine g1 c_331_778 k_1 ?_
  refine g10 c_331_779 ?_
  obtain ⟨ho, t⟩ := t
  refine g50 c_331_780 ho ?_
  refine g5 c_331_781 rfl ?_
  refine g3 c_331_782 rfl ?_
  refine g1 c_331_783 k_2 ?_
  refine g10 c_331_784 ?_
  obtain ⟨ho, t⟩ := t
  refine g50 c_331_785 ho ?_
  refine g5 c_331_786 rfl ?_
  refine g3 c_331_787 rfl ?_
  refine g1 c_331_788 k_3 ?_
  refine g10 c_331_789 ?_
  obtain ⟨ho, t⟩ := t
  refine g50 c_331_790 ho ?_
  refine g5 c_331_791 rfl ?_
  refine g3 c_331_792 rfl ?_
  refine g1 c_331_793 k_4 ?_
  refine g10 c_331_794 ?_
  obtain ⟨ho, t⟩ := t
  refine g50 c_331_795 ho ?_
  exact g80 (As := [.int (ab_i h x0 (Int32.toNatClampNeg (x3 + 1))), .int (ab_i h x0 (Int32.toNatClampNeg (x3 + 2))), .int (ab_i h x0 (Int32.toNatClampNeg (x3 + 3))), .int (ab_i h x0 (Int32.toNatClampNeg (x3 + 4)))]) (rest := [.int s0]) c_331_796 rfl rfl (Nat.le_of_ble_eq_true rfl) (Nat.le_of_ble_eq_true rfl) t.1 t.2
set_option maxRecDepth 20000 in
theorem t_331_799 {d : Nat} {h : ab_H} {Q : Option Value → ab_H → Prop} {x0 : Nat} {x1 : Nat} {x2 : Nat} {x3 : Int32} {s0 : Int32} {s1 : Int32} (t : if s0 = s1 then (wq d 331 1847 [.ref x0, .ref x1, .ref x2, .int x3] [] h Q) else (Q (some (.int 0)) h)) : wq d 331 799 [.ref x0, .ref x1, .ref x2, .int x3] [.int s1, .int s0] h Q := by
  refine gcm c_331_799 (gbr t rfl rfl (fun hc t => ?_) (fun hc t => ?_))
  · exact t
  · refine g1 c_331_802 k_0 ?_
    exact g91 c_331_803 ⟨by decide, t⟩
set_option maxRecDepth 20000 in
theorem t_331_828 {d : Nat} {h : ab_H} {Q : Option Value → ab_H → Prop} {x0 : Nat} {x1 : Nat} {x2 : Nat} {x3 : Int32} {s0 : Int32} (t : ((x0 = 0 ∨ ab_ok h x0 0 = true) ∧ ab_in (x3 + 1) (ab_s h x0).2 = true) ∧ ((x0 = 0 ∨ ab_ok h x0 0 = true) ∧ ab_in (x3 + 2) (ab_s h x0).2 = true) ∧ ((x0 = 0 ∨ ab_ok h x0 0 = true) ∧ ab_in (x3 + 3) (ab_s h x0).2 = true) ∧ ((x0 = 0 ∨ ab_ok h x0 0 = true) ∧ ab_in (x3 + 4) (ab_s h x0).2 = true) ∧ ab_ok h x2 112 = true ∧ wm d 273 [.ref x2, .int (ab_i h x0 (Int32.toNatClampNeg (x3 + 1))), .int (ab_i h x0 (Int32.toNatClampNeg (x3 + 2))), .int (ab_i h x0 (Int32.toNatClampNeg (x3 + 3))), .int (ab_i h x0 (Int32.toNatClampNeg (x3 + 4)))] h (fun r9 h9 => wq (d + 1) 331 852 [.ref x0, .ref x1, .ref x2, .int x3] (r9.toList ++ [.int s0]) h9 Q)) : wq (d + 1) 331 828 [.ref x0, .ref x1, .ref x2, .int x3] [.int s0] h Q := by
  refine g5 c_331_828 rfl ?_
  refine g5 c_331_829 rfl ?_
  refine g3 c_331_830 rfl ?_
  refine g1 c_331_831 k_1 ?_
  refine g10 c_331_832 ?_
  obtain ⟨ho, t⟩ := t
  refine g50 c_331_833 ho ?_
  refine g5 c_331_834 rfl ?_
  refine g3 c_331_835 rfl ?_
  refine g1 c_331_836 k_2 ?_
  refine g10 c_331_837 ?_
  obtain ⟨ho, t⟩ := t
  refine g50 c_331_838 ho ?_
  refine g5 c_331_839 rfl ?_
  refine g3 c_331_840 rfl ?_
  refine g1 c_331_841 k_3 ?_
  refine g10 c_331_842 ?_
  obtain ⟨ho, t⟩ := t
  refine g50 c_331_843 ho ?_
  refine g5 c_331_844 rfl ?_
  refine g3 c_331_845 rfl ?_
  refine g1 c_331_846 k_4 ?_
  refine g10 c_331_847 ?_
  obtain ⟨ho, t⟩ := t
  refine g50 c_331_848 ho ?_
  exact g80 (As := [.int (ab_i h x0 (Int32.toNatClampNeg (x3 + 1))), .int (ab_i h x0 (Int32.toNatClampNeg (x3 + 2))), .int (ab_i h x0 (Int32.toNatClampNeg (x3 + 3))), .int (ab_i h x0 (Int32.toNatClampNeg (x3 + 4)))]) (rest := [.int s0]) c_331_849 rfl rfl (Nat.le_of_ble_eq_true rfl) (Nat.le_of_ble_eq_true rfl) t.1 t.2
set_option maxRecDepth 20000 in
theorem t_331_852 {d : Nat} {h : ab_H} {Q : Option Value → ab_H → Prop} {x0 : Nat} {x1 : Nat} {x2 : Nat} {x3 : Int32} {s0 : Int32} {s1 : Int32} (t : if s0 = s1 then (wq d 331 1847 [.ref x0, .ref x1, .ref x2, .int x3] [] h Q) else (Q (some (.int 0)) h)) : wq d 331 852 [.ref x0, .ref x1, .ref x2, .int x3] [.int s1, .int s0] h Q := by
  refine gcm c_331_852 (gbr t rfl rfl (fun hc t => ?_) (fun hc t => ?_))
  · exact t
  · refine g1 c_331_855 k_0 ?_
    exact g91 c_331_856 ⟨by decide, t⟩
set_option maxRecDepth 20000 in
theorem t_331_886 {d : Nat} {h : ab_H} {Q : Option Value → ab_H → Prop} {x0 : Nat} {x1 : Nat} {x2 : Nat} {x3 : Int32} {s0 : Int32} (t : ((x0 = 0 ∨ ab_ok h x0 0 = true) ∧ ab_in (x3 + 1) (ab_s h x0).2 = true) ∧ ((x0 = 0 ∨ ab_ok h x0 0 = true) ∧ ab_in (x3 + 2) (ab_s h x0).2 = true) ∧ ((x0 = 0 ∨ ab_ok h x0 0 = true) ∧ ab_in (x3 + 3) (ab_s h x0).2 = true) ∧ ((x0 = 0 ∨ ab_ok h x0 0 = true) ∧ ab_in (x3 + 4) (ab_s h x0).2 = true) ∧ ((x0 = 0 ∨ ab_ok h x0 0 = true) ∧ ab_in (x3 + 5) (ab_s h x0).2 = true) ∧ ab_ok h x2 112 = true ∧ wm d 274 [.ref x2, .int (ab_i h x0 (Int32.toNatClampNeg (x3 + 1))), .int (ab_i h x0 (Int32.toNatClampNeg (x3 + 2))), .int (ab_i h x0 (Int32.toNatClampNeg (x3 + 3))), .int (ab_i h x0 (Int32.toNatClampNeg (x3 + 4))), .int (ab_i h x0 (Int32.toNatClampNeg (x3 + 5)))] h (fun r9 h9 => wq (d + 1) 331 915 [.ref x0, .ref x1, .ref x2, .int x3] (r9.toList ++ [.int s0]) h9 Q)) : wq (d + 1) 331 886 [.ref x0, .ref x1, .ref x2, .int x3] [.int s0] h Q := by
  refine g5 c_331_886 rfl ?_
  refine g5 c_331_887 rfl ?_
  refine g3 c_331_888 rfl ?_
  refine g1 c_331_889 k_1 ?_
  refine g10 c_331_890 ?_
  obtain ⟨ho, t⟩ := t
  refine g50 c_331_891 ho ?_
  refine g5 c_331_892 rfl ?_
  refine g3 c_331_893 rfl ?_
  refine g1 c_331_894 k_2 ?_
  refine g10 c_331_895 ?_
  obtain ⟨ho, t⟩ := t
  refine g50 c_331_896 ho ?_
  refine g5 c_331_897 rfl ?_
  refine g3 c_331_898 rfl ?_
  refine g1 c_331_899 k_3 ?_
  refine g10 c_331_900 ?_
  obtain ⟨ho, t⟩ := t
  refine g50 c_331_901 ho ?_
  refine g5 c_331_902 rfl ?_
  refine g3 c_331_903 rfl ?_
  refine g1 c_331_904 k_4 ?_
  refine g10 c_331_905 ?_
  obtain ⟨ho, t⟩ := t
  refine g50 c_331_906 ho ?_
  refine g5 c_331_907 rfl ?_
  refine g3 c_331_908 rfl ?_
  refine g1 c_331_909 k_5 ?_
  refine g10 c_331_910 ?_
  obtain ⟨ho, t⟩ := t
  refine g50 c_331_911 ho ?_
  exact g80 (As := [.int (ab_i h x0 (Int32.toNatClampNeg (x3 + 1))), .int (ab_i h x0 (Int32.toNatClampNeg (x3 + 2))), .int (ab_i h x0 (Int32.toNatClampNeg (x3 + 3))), .int (ab_i h x0 (Int32.toNatClampNeg (x3 + 4))), .int (ab_i h x0 (Int32.toNatClampNeg (x3 + 5)))]) (rest := [.int s0]) c_331_912 rfl rfl (Nat.le_of_ble_eq_true rfl) (Nat.le_of_ble_eq_true rfl) t.1 t.2
set_option maxRecDepth 20000 in
theorem t_331_915 {d : Nat} {h : ab_H} {Q : Option Value → ab_H → Prop} {x0 : Nat} {x1 : Nat} {x2 : Nat} {x3 : Int32} {s0 : Int32} {s1 : Int32} (t : if s0 = s1 then (wq d 331 1847 [.ref x0, .ref x1, .ref x2, .int x3] [] h Q) else (Q (some (.int 0)) h)) : wq d 331 915 [.ref x0, .ref x1, .ref x2, .int x3] [.int s1, .int s0] h Q := by
  refine gcm c_331_915 (gbr t rfl rfl (fun hc t => ?_) (fun hc t => ?_))
  · exact t
  · refine g1 c_331_918 k_0 ?_
    exact g91 c_331_919 ⟨by decide, t⟩
set_option maxRecDepth 20000 in
theorem t_331_944 {d : Nat} {h : ab_H} {Q : Option Value → ab_H → Prop} {x0 : Nat} {x1 : Nat} {x2 : Nat} {x3 : Int32} {s0 : Int32} (t : ((x0 = 0 ∨ ab_ok h x0 0 = true) ∧ ab_in (x3 + 1) (ab_s h x0).2 = true) ∧ ((x0 = 0 ∨ ab_ok h x0 0 = true) ∧ ab_in (x3 + 2) (ab_s h x0).2 = true) ∧ ((x0 = 0 ∨ ab_ok h x0 0 = true) ∧ ab_in (x3 + 3) (ab_s h x0).2 = true) ∧ ((x0 = 0 ∨ ab_ok h x0 0 = true) ∧ ab_in (x3 + 4) (ab_s h x0).2 = true) ∧ ab_ok h x2 112 = true ∧ wm d 277 [.ref x2, .int (ab_i h x0 (Int32.toNatClampNeg (x3 + 1))), .int (ab_i h x0 (Int32.toNatClampNeg (x3 + 2))), .int (ab_i h x0 (Int32.toNatClampNeg (x3 + 3))), .int (ab_i h x0 (Int32.toNatClampNeg (x3 + 4)))] h (fun r9 h9 => wq (d + 1) 331 968 [.ref x0, .ref x1, .ref x2, .int x3] (r9.toList ++ [.int s0]) h9 Q)) : wq (d + 1) 331 944 [.ref x0, .ref x1, .ref x2, .int x3] [.int s0] h Q := by
  refine g5 c_331_944 rfl ?_
  refine g5 c_331_945 rfl ?_
  refine g3 c_331_946 rfl ?_
  refine g1 c_331_947 k_1 ?_
  refine g10 c_331_948 ?_
  obtain ⟨ho, t⟩ := t
  refine g50 c_331_949 ho ?_
  refine g5 c_331_950 rfl ?_
  refine g3 c_331_951 rfl ?_
  refine g1 c_331_952 k_2 ?_
  refine g10 c_331_953 ?_
  obtain ⟨ho, t⟩ := t
  refine g50 c_331_954 ho ?_
  refine g5 c_331_955 rfl ?_
  refine g3 c_331_956 rfl ?_
  refine g1 c_331_957 k_3 ?_
  refine g10 c_331_958 ?_
  obtain ⟨ho, t⟩ := t
  refine g50 c_331_959 ho ?_
  refine g5 c_331_960 rfl ?_
  refine g3 c_331_961 rfl ?_
  refine g1 c_331_962 k_4 ?_
  refine g10 c_331_963 ?_
  obtain ⟨ho, t⟩ := t
  refine g50 c_331_964 ho ?_
  exact g80 (As := [.int (ab_i h x0 (Int32.toNatClampNeg (x3 + 1))), .int (ab_i h x0 (Int32.toNatClampNeg (x3 + 2))), .int (ab_i h x0 (Int32.toNatClampNeg (x3 + 3))), .int (ab_i h x0 (Int32.toNatClampNeg (x3 + 4)))]) (rest := [.int s0]) c_331_965 rfl rfl (Nat.le_of_ble_eq_true rfl) (Nat.le_of_ble_eq_true rfl) t.1 t.2
set_option maxRecDepth 20000 in
theorem t_331_968 {d : Nat} {h : ab_H} {Q : Option Value → ab_H → Prop} {x0 : Nat} {x1 : Nat} {x2 : Nat} {x3 : Int32} {s0 : Int32} {s1 : Int32} (t : if s0 = s1 then (wq d 331 1847 [.ref x0, .ref x1, .ref x2, .int x3] [] h Q) else (Q (some (.int 0)) h)) : wq d 331 968 [.ref x0, .ref x1, .ref x2, .int x3] [.int s1, .int s0] h Q := by
  refine gcm c_331_968 (gbr t rfl rfl (fun hc t => ?_) (fun hc t => ?_))
  · exact t
  · refine g1 c_331_971 k_0 ?_
    exact g91 c_331_972 ⟨by decide, t⟩
set_option maxRecDepth 20000 in
theorem t_331_1002 {d : Nat} {h : ab_H} {Q : Option Value → ab_H → Prop} {x0 : Nat} {x1 : Nat} {x2 : Nat} {x3 : Int32} {s0 : Int32} (t : ((x0 = 0 ∨ ab_ok h x0 0 = true) ∧ ab_in (x3 + 1) (ab_s h x0).2 = true) ∧ ((x0 = 0 ∨ ab_ok h x0 0 = true) ∧ ab_in (x3 + 2) (ab_s h x0).2 = true) ∧ ((x0 = 0 ∨ ab_ok h x0 0 = true) ∧ ab_in (x3 + 3) (ab_s h x0).2 = true) ∧ ((x0 = 0 ∨ ab_ok h x0 0 = true) ∧ ab_in (x3 + 4) (ab_s h x0).2 = true) ∧ ((x0 = 0 ∨ ab_ok h x0 0 = true) ∧ ab_in (x3 + 5) (ab_s h x0).2 = true) ∧ ab_ok h x2 112 = true ∧ wm d 221 [.ref x2, .int (ab_i h x0 (Int32.toNatClampNeg (x3 + 1))), .int (ab_i h x0 (Int32.toNatClampNeg (x3 + 2))), .int (ab_i h x0 (Int32.toNatClampNeg (x3 + 3))), .int (ab_i h x0 (Int32.toNatClampNeg (x3 + 4))), .int (ab_i h x0 (Int32.toNatClampNeg (x3 + 5)))] h (fun r9 h9 => wq (d + 1) 331 1031 [.ref x0, .ref x1, .ref x2, .int x3] (r9.toList ++ [.int s0]) h9 Q)) : wq (d + 1) 331 1002 [.ref x0, .ref x1, .ref x2, .int x3] [.int s0] h Q := by
  refine g5 c_331_1002 rfl ?_
  refine g5 c_331_1003 rfl ?_
  refine g3 c_331_1004 rfl ?_
  refine g1 c_331_1005 k_1 ?_
  refine g10 c_331_1006 ?_
  obtain ⟨ho, t⟩ := t
  refine g50 c_331_1007 ho ?_
  refine g5 c_331_1008 rfl ?_
  refine g3 c_331_1009 rfl ?_
  refine g1 c_331_1010 k_2 ?_
  refine g10 c_331_1011 ?_
  obtain ⟨ho, t⟩ := t
  refine g50 c_331_1012 ho ?_
  refine g5 c_331_1013 rfl ?_
  refine g3 c_331_1014 rfl ?_
  refine g1 c_331_1015 k_3 ?_
  refine g10 c_331_1016 ?_
  obtain ⟨ho, t⟩ := t
  refine g50 c_331_1017 ho ?_
  refine g5 c_331_1018 rfl ?_
  refine g3 c_331_1019 rfl ?_
  refine g1 c_331_1020 k_4 ?_
  refine g10 c_331_1021 ?_
  obtain ⟨ho, t⟩ := t
  refine g50 c_331_1022 ho ?_
  refine g5 c_331_1023 rfl ?_
  refine g3 c_331_1024 rfl ?_
  refine g1 c_331_1025 k_5 ?_
  refine g10 c_331_1026 ?_
  obtain ⟨ho, t⟩ := t
  refine g50 c_331_1027 ho ?_
  exact g80 (As := [.int (ab_i h x0 (Int32.toNatClampNeg (x3 + 1))), .int (ab_i h x0 (Int32.toNatClampNeg (x3 + 2))), .int (ab_i h x0 (Int32.toNatClampNeg (x3 + 3))), .int (ab_i h x0 (Int32.toNatClampNeg (x3 + 4))), .int (ab_i h x0 (Int32.toNatClampNeg (x3 + 5)))]) (rest := [.int s0]) c_331_1028 rfl rfl (Nat.le_of_ble_eq_true rfl) (Nat.le_of_ble_eq_true rfl) t.1 t.2
set_option maxRecDepth 20000 in
theorem t_331_1031 {d : Nat} {h : ab_H} {Q : Option Value → ab_H → Prop} {x0 : Nat} {x1 : Nat} {x2 : Nat} {x3 : Int32} {s0 : Int32} {s1 : Int32} (t : if s0 = s1 then (wq d 331 1847 [.ref x0, .ref x1, .ref x2, .int x3] [] h Q) else (Q (some (.int 0)) h)) : wq d 331 1031 [.ref x0, .ref x1, .ref x2, .int x3] [.int s1, .int s0] h Q := by
  refine gcm c_331_1031 (gbr t rfl rfl (fun hc t => ?_) (fun hc t => ?_))
  · exact t
  · refine g1 c_331_1034 k_0 ?_
    exact g91 c_331_1035 ⟨by decide, t⟩
set_option maxRecDepth 20000 in
theorem t_331_1050 {d : Nat} {h : ab_H} {Q : Option Value → ab_H → Prop} {x0 : Nat} {x1 : Nat} {x2 : Nat} {x3 : Int32} {s0 : Int32} (t : ((x0 = 0 ∨ ab_ok h x0 0 = true) ∧ ab_in (x3 + 1) (ab_s h x0).2 = true) ∧ ((x0 = 0 ∨ ab_ok h x0 0 = true) ∧ ab_in (x3 + 2) (ab_s h x0).2 = true) ∧ ab_ok h x2 112 = true ∧ wm d 222 [.ref x2, .int (ab_i h x0 (Int32.toNatClampNeg (x3 + 1))), .int (ab_i h x0 (Int32.toNatClampNeg (x3 + 2)))] h (fun r9 h9 => wq (d + 1) 331 1064 [.ref x0, .ref x1, .ref x2, .int x3] (r9.toList ++ [.int s0]) h9 Q)) : wq (d + 1) 331 1050 [.ref x0, .ref x1, .ref x2, .int x3] [.int s0] h Q := by
  refine g5 c_331_1050 rfl ?_
  refine g5 c_331_1051 rfl ?_
  refine g3 c_331_1052 rfl ?_
  refine g1 c_331_1053 k_1 ?_
  refine g10 c_331_1054 ?_
  obtain ⟨ho, t⟩ := t
  refine g50 c_331_1055 ho ?_
  refine g5 c_331_1056 rfl ?_
  refine g3 c_331_1057 rfl ?_
  refine g1 c_331_1058 k_2 ?_
  refine g10 c_331_1059 ?_
  obtain ⟨ho, t⟩ := t
  refine g50 c_331_1060 ho ?_
  exact g80 (As := [.int (ab_i h x0 (Int32.toNatClampNeg (x3 + 1))), .int (ab_i h x0 (Int32.toNatClampNeg (x3 + 2)))]) (rest := [.int s0]) c_331_1061 rfl rfl (Nat.le_of_ble_eq_true rfl) (Nat.le_of_ble_eq_true rfl) t.1 t.2
set_option maxRecDepth 20000 in
theorem t_331_1064 {d : Nat} {h : ab_H} {Q : Option Value → ab_H → Prop} {x0 : Nat} {x1 : Nat} {x2 : Nat} {x3 : Int32} {s0 : Int32} {s1 : Int32} (t : if s0 = s1 then (wq d 331 1847 [.ref x0, .ref x1, .ref x2, .int x3] [] h Q) else (Q (some (.int 0)) h)) : wq d 331 1064 [.ref x0, .ref x1, .ref x2, .int x3] [.int s1, .int s0] h Q := by
  refine gcm c_331_1064 (gbr t rfl rfl (fun hc t => ?_) (fun hc t => ?_))
  · exact t
  · refine g1 c_331_1067 k_0 ?_
    exact g91 c_331_1068 ⟨by decide, t⟩
set_option maxRecDepth 20000 in
theorem t_331_1088 {d : Nat} {h : ab_H} {Q : Option Value → ab_H → Prop} {x0 : Nat} {x1 : Nat} {x2 : Nat} {x3 : Int32} {s0 : Int32} (t : ((x0 = 0 ∨ ab_ok h x0 0 = true) ∧ ab_in (x3 + 1) (ab_s h x0).2 = true) ∧ ((x0 = 0 ∨ ab_ok h x0 0 = true) ∧ ab_in (x3 + 2) (ab_s h x0).2 = true) ∧ ((x0 = 0 ∨ ab_ok h x0 0 = true) ∧ ab_in (x3 + 3) (ab_s h x0).2 = true) ∧ ab_ok h x2 112 = true ∧ wm d 223 [.ref x2, .int (ab_i h x0 (Int32.toNatClampNeg (x3 + 1))), .int (ab_i h x0 (Int32.toNatClampNeg (x3 + 2))), .int (ab_i h x0 (Int32.toNatClampNeg (x3 + 3)))] h (fun r9 h9 => wq (d + 1) 331 1107 [.ref x0, .ref x1, .ref x2, .int x3] (r9.toList ++ [.int s0]) h9 Q)) : wq (d + 1) 331 1088 [.ref x0, .ref x1, .ref x2, .int x3] [.int s0] h Q := by
  refine g5 c_331_1088 rfl ?_
  refine g5 c_331_1089 rfl ?_
  refine g3 c_331_1090 rfl ?_
  refine g1 c_331_1091 k_1 ?_
  refine g10 c_331_1092 ?_
  obtain ⟨ho, t⟩ := t
  refine g50 c_331_1093 ho ?_
  refine g5 c_331_1094 rfl ?_
  refine g3 c_331_1095 rfl ?_
  refine g1 c_331_1096 k_2 ?_
  refine g10 c_331_1097 ?_
  obtain ⟨ho, t⟩ := t
  refine g50 c_331_1098 ho ?_
  refine g5 c_331_1099 rfl ?_
  refine g3 c_331_1100 rfl ?_
  refine g1 c_331_1101 k_3 ?_
  refine g10 c_331_1102 ?_
  obtain ⟨ho, t⟩ := t
  refine g50 c_331_1103 ho ?_
  exact g80 (As := [.int (ab_i h x0 (Int32.toNatClampNeg (x3 + 1))), .int (ab_i h x0 (Int32.toNatClampNeg (x3 + 2))), .int (ab_i h x0 (Int32.toNatClampNeg (x3 + 3)))]) (rest := [.int s0]) c_331_1104 rfl rfl (Nat.le_of_ble_eq_true rfl) (Nat.le_of_ble_eq_true rfl) t.1 t.2
set_option maxRecDepth 20000 in
theorem t_331_1107 {d : Nat} {h : ab_H} {Q : Option Value → ab_H → Prop} {x0 : Nat} {x1 : Nat} {x2 : Nat} {x3 : Int32} {s0 : Int32} {s1 : Int32} (t : if s0 = s1 then (wq d 331 1847 [.ref x0, .ref x1, .ref x2, .int x3] [] h Q) else (Q (some (.int 0)) h)) : wq d 331 1107 [.ref x0, .ref x1, .ref x2, .int x3] [.int s1, .int s0] h Q := by
  refine gcm c_331_1107 (gbr t rfl rfl (fun hc t => ?_) (fun hc t => ?_))
  · exact t
  · refine g1 c_331_1110 k_0 ?_
    exact g91 c_331_1111 ⟨by decide, t⟩
set_option maxRecDepth 20000 in
theorem t_331_1131 {d : Nat} {h : ab_H} {Q : Option Value → ab_H → Prop} {x0 : Nat} {x1 : Nat} {x2 : Nat} {x3 : Int32} {s0 : Nat} {s1 : Int32} {s2 : Int32} (t : ab_ok h s0 111 = true ∧ wm d 169 [.ref s0, .int s1, .int s2] h (fun r9 h9 => wq (d + 1) 331 1134 [.ref x0, .ref x1, .ref x2, .int x3] (r9.toList ++ []) h9 Q)) : wq (d + 1) 331 1131 [.ref x0, .ref x1, .ref x2, .int x3] [.int s2, .int s1, .ref s0] h Q := by
  exact g80 (As := [.int s1, .int s2]) (rest := []) c_331_1131 rfl rfl (Nat.le_of_ble_eq_true rfl) (Nat.le_of_ble_eq_true rfl) t.1 t.2
set_option maxRecDepth 20000 in
theorem t_331_1134 {d : Nat} {h : ab_H} {Q : Option Value → ab_H → Prop} {x0 : Nat} {x1 : Nat} {x2 : Nat} {x3 : Int32} {s0 : Int32} (t : ((x0 = 0 ∨ ab_ok h x0 0 = true) ∧ ab_in (x3 + 1) (ab_s h x0).2 = true) ∧ ((x0 = 0 ∨ ab_ok h x0 0 = true) ∧ ab_in (x3 + 2) (ab_s h x0).2 = true) ∧ if (ab_i h x0 (Int32.toNatClampNeg (x3 + 2))) = 0 then (wq d 331 1153 [.ref x0, .ref x1, .ref x2, .int x3] [.int 0, .int (ab_i h x0 (Int32.toNatClampNeg (x3 + 1))), .ref x2, .int s0] h Q) else (wq d 331 1153 [.ref x0, .ref x1, .ref x2, .int x3] [.int 1, .int (ab_i h x0 (Int32.toNatClampNeg (x3 + 1))), .ref x2, .int s0] h Q)) : wq d 331 1134 [.ref x0, .ref x1, .ref x2, .int x3] [.int s0] h Q := by
  refine g5 c_331_1134 rfl ?_
  refine g5 c_331_1135 rfl ?_
  refine g3 c_331_1136 rfl ?_
  refine g1 c_331_1137 k_1 ?_
  refine g10 c_331_1138 ?_
  obtain ⟨ho, t⟩ := t
  refine g50 c_331_1139 ho ?_
  refine g5 c_331_1140 rfl ?_
  refine g3 c_331_1141 rfl ?_
  refine g1 c_331_1142 k_2 ?_
  refine g10 c_331_1143 ?_
  obtain ⟨ho, t⟩ := t
  refine g50 c_331_1144 ho ?_
  refine gif c_331_1145 (gbr t rfl rfl (fun hc t => ?_) (fun hc t => ?_))
  · refine g1 c_331_1152 k_0 ?_
    exact t
  · refine g1 c_331_1148 k_1 ?_
    refine g38 c_331_1149 rfl ?_
    exact t
set_option maxRecDepth 20000 in
theorem t_331_1153 {d : Nat} {h : ab_H} {Q : Option Value → ab_H → Prop} {x0 : Nat} {x1 : Nat} {x2 : Nat} {x3 : Int32} {s0 : Int32} {s1 : Nat} {s2 : Int32} {s3 : Int32} (t : ab_ok h s1 112 = true ∧ wm d 224 [.ref s1, .int s2, .int s3] h (fun r9 h9 => wq (d + 1) 331 1156 [.ref x0, .ref x1, .ref x2, .int x3] (r9.toList ++ [.int s0]) h9 Q)) : wq (d + 1) 331 1153 [.ref x0, .ref x1, .ref x2, .int x3] [.int s3, .int s2, .ref s1, .int s0] h Q := by
  exact g80 (As := [.int s2, .int s3]) (rest := [.int s0]) c_331_1153 rfl rfl (Nat.le_of_ble_eq_true rfl) (Nat.le_of_ble_eq_true rfl) t.1 t.2
set_option maxRecDepth 20000 in
theorem t_331_1156 {d : Nat} {h : ab_H} {Q : Option Value → ab_H → Prop} {x0 : Nat} {x1 : Nat} {x2 : Nat} {x3 : Int32} {s0 : Int32} {s1 : Int32} (t : if s0 = s1 then (wq d 331 1847 [.ref x0, .ref x1, .ref x2, .int x3] [] h Q) else (Q (some (.int 0)) h)) : wq d 331 1156 [.ref x0, .ref x1, .ref x2, .int x3] [.int s1, .int s0] h Q := by
  refine gcm c_331_1156 (gbr t rfl rfl (fun hc t => ?_) (fun hc t => ?_))
  · exact t
  · refine g1 c_331_1159 k_0 ?_
    exact g91 c_331_1160 ⟨by decide, t⟩
set_option maxRecDepth 20000 in
theorem t_331_1170 {d : Nat} {h : ab_H} {Q : Option Value → ab_H → Prop} {x0 : Nat} {x1 : Nat} {x2 : Nat} {x3 : Int32} {s0 : Int32} (t : ((x0 = 0 ∨ ab_ok h x0 0 = true) ∧ ab_in (x3 + 1) (ab_s h x0).2 = true) ∧ ab_ok h x2 112 = true ∧ wm d 294 [.ref x2, .int (ab_i h x0 (Int32.toNatClampNeg (x3 + 1)))] h (fun r9 h9 => wq (d + 1) 331 1179 [.ref x0, .ref x1, .ref x2, .int x3] (r9.toList ++ [.int s0]) h9 Q)) : wq (d + 1) 331 1170 [.ref x0, .ref x1, .ref x2, .int x3] [.int s0] h Q := by
  refine g5 c_331_1170 rfl ?_
  refine g5 c_331_1171 rfl ?_
  refine g3 c_331_1172 rfl ?_
  refine g1 c_331_1173 k_1 ?_
  refine g10 c_331_1174 ?_
  obtain ⟨ho, t⟩ := t
  refine g50 c_331_1175 ho ?_
  exact g80 (As := [.int (ab_i h x0 (Int32.toNatClampNeg (x3 + 1)))]) (rest := [.int s0]) c_331_1176 rfl rfl (Nat.le_of_ble_eq_true rfl) (Nat.le_of_ble_eq_true rfl) t.1 t.2
set_option maxRecDepth 20000 in
theorem t_331_1179 {d : Nat} {h : ab_H} {Q : Option Value → ab_H → Prop} {x0 : Nat} {x1 : Nat} {x2 : Nat} {x3 : Int32} {s0 : Int32} {s1 : Int32} (t : if s0 = s1 then (wq d 331 1847 [.ref x0, .ref x1, .ref x2, .int x3] [] h Q) else (Q (some (.int 0)) h)) : wq d 331 1179 [.ref x0, .ref x1, .ref x2, .int x3] [.int s1, .int s0] h Q := by
  refine gcm c_331_1179 (gbr t rfl rfl (fun hc t => ?_) (fun hc t => ?_))
  · exact t
  · refine g1 c_331_1182 k_0 ?_
    exact g91 c_331_1183 ⟨by decide, t⟩
set_option maxRecDepth 20000 in
theorem t_331_1198 {d : Nat} {h : ab_H} {Q : Option Value → ab_H → Prop} {x0 : Nat} {x1 : Nat} {x2 : Nat} {x3 : Int32} {s0 : Int32} (t : ((x0 = 0 ∨ ab_ok h x0 0 = true) ∧ ab_in (x3 + 1) (ab_s h x0).2 = true) ∧ ((x0 = 0 ∨ ab_ok h x0 0 = true) ∧ ab_in (x3 + 2) (ab_s h x0).2 = true) ∧ ab_ok h x2 112 = true ∧ wm d 295 [.ref x2, .int (ab_i h x0 (Int32.toNatClampNeg (x3 + 1))), .int (ab_i h x0 (Int32.toNatClampNeg (x3 + 2)))] h (fun r9 h9 => wq (d + 1) 331 1212 [.ref x0, .ref x1, .ref x2, .int x3] (r9.toList ++ [.int s0]) h9 Q)) : wq (d + 1) 331 1198 [.ref x0, .ref x1, .ref x2, .int x3] [.int s0] h Q := by
  refine g5 c_331_1198 rfl ?_
  refine g5 c_331_1199 rfl ?_
  refine g3 c_331_1200 rfl ?_
  refine g1 c_331_1201 k_1 ?_
  refine g10 c_331_1202 ?_
  obtain ⟨ho, t⟩ := t
  refine g50 c_331_1203 ho ?_
  refine g5 c_331_1204 rfl ?_
  refine g3 c_331_1205 rfl ?_
  refine g1 c_331_1206 k_2 ?_
  refine g10 c_331_1207 ?_
  obtain ⟨ho, t⟩ := t
  refine g50 c_331_1208 ho ?_
  exact g80 (As := [.int (ab_i h x0 (Int32.toNatClampNeg (x3 + 1))), .int (ab_i h x0 (Int32.toNatClampNeg (x3 + 2)))]) (rest := [.int s0]) c_331_1209 rfl rfl (Nat.le_of_ble_eq_true rfl) (Nat.le_of_ble_eq_true rfl) t.1 t.2
set_option maxRecDepth 20000 in
theorem t_331_1212 {d : Nat} {h : ab_H} {Q : Option Value → ab_H → Prop} {x0 : Nat} {x1 : Nat} {x2 : Nat} {x3 : Int32} {s0 : Int32} {s1 : Int32} (t : if s0 = s1 then (wq d 331 1847 [.ref x0, .ref x1, .ref x2, .int x3] [] h Q) else (Q (some (.int 0)) h)) : wq d 331 1212 [.ref x0, .ref x1, .ref x2, .int x3] [.int s1, .int s0] h Q := by
  refine gcm c_331_1212 (gbr t rfl rfl (fun hc t => ?_) (fun hc t => ?_))
  · exact t
  · refine g1 c_331_1215 k_0 ?_
    exact g91 c_331_1216 ⟨by decide, t⟩
set_option maxRecDepth 20000 in
theorem t_331_1231 {d : Nat} {h : ab_H} {Q : Option Value → ab_H → Prop} {x0 : Nat} {x1 : Nat} {x2 : Nat} {x3 : Int32} {s0 : Int32} (t : ((x0 = 0 ∨ ab_ok h x0 0 = true) ∧ ab_in (x3 + 1) (ab_s h x0).2 = true) ∧ ((x0 = 0 ∨ ab_ok h x0 0 = true) ∧ ab_in (x3 + 2) (ab_s h x0).2 = true) ∧ ab_ok h x2 112 = true ∧ wm d 297 [.ref x2, .int (ab_i h x0 (Int32.toNatClampNeg (x3 + 1))), .int (ab_i h x0 (Int32.toNatClampNeg (x3 + 2)))] h (fun r9 h9 => wq (d + 1) 331 1245 [.ref x0, .ref x1, .ref x2, .int x3] (r9.toList ++ [.int s0]) h9 Q)) : wq (d + 1) 331 1231 [.ref x0, .ref x1, .ref x2, .int x3] [.int s0] h Q := by
  refine g5 c_331_1231 rfl ?_
  refine g5 c_331_1232 rfl ?_
  refine g3 c_331_1233 rfl ?_
  refine g1 c_331_1234 k_1 ?_
  refine g10 c_331_1235 ?_
  obtain ⟨ho, t⟩ := t
  refine g50 c_331_1236 ho ?_
  refine g5 c_331_1237 rfl ?_
  refine g3 c_331_1238 rfl ?_
  refine g1 c_331_1239 k_2 ?_
  refine g10 c_331_1240 ?_
  obtain ⟨ho, t⟩ := t
  refine g50 c_331_1241 ho ?_
  exact g80 (As := [.int (ab_i h x0 (Int32.toNatClampNeg (x3 + 1))), .int (ab_i h x0 (Int32.toNatClampNeg (x3 + 2)))]) (rest := [.int s0]) c_331_1242 rfl rfl (Nat.le_of_ble_eq_true rfl) (Nat.le_of_ble_eq_true rfl) t.1 t.2
set_option maxRecDepth 20000 in
theorem t_331_1245 {d : Nat} {h : ab_H} {Q : Option Value → ab_H → Prop} {x0 : Nat} {x1 : Nat} {x2 : Nat} {x3 : Int32} {s0 : Int32} {s1 : Int32} (t : if s0 = s1 then (wq d 331 1847 [.ref x0, .ref x1, .ref x2, .int x3] [] h Q) else (Q (some (.int 0)) h)) : wq d 331 1245 [.ref x0, .ref x1, .ref x2, .int x3] [.int s1, .int s0] h Q := by
  refine gcm c_331_1245 (gbr t rfl rfl (fun hc t => ?_) (fun hc t => ?_))
  · exact t
  · refine g1 c_331_1248 k_0 ?_
    exact g91 c_331_1249 ⟨by decide, t⟩
set_option maxRecDepth 20000 in
theorem t_331_1264 {d : Nat} {h : ab_H} {Q : Option Value → ab_H → Prop} {x0 : Nat} {x1 : Nat} {x2 : Nat} {x3 : Int32} {s0 : Int32} (t : ((x0 = 0 ∨ ab_ok h x0 0 = true) ∧ ab_in (x3 + 1) (ab_s h x0).2 = true) ∧ ((x0 = 0 ∨ ab_ok h x0 0 = true) ∧ ab_in (x3 + 2) (ab_s h x0).2 = true) ∧ ab_ok h x2 112 = true ∧ wm d 298 [.ref x2, .int (ab_i h x0 (Int32.toNatClampNeg (x3 + 1))), .int (ab_i h x0 (Int32.toNatClampNeg (x3 + 2)))] h (fun r9 h9 => wq (d + 1) 331 1278 [.ref x0, .ref x1, .ref x2, .int x3] (r9.toList ++ [.int s0]) h9 Q)) : wq (d + 1) 331 1264 [.ref x0, .ref x1, .ref x2, .int x3] [.int s0] h Q := by
  refine g5 c_331_1264 rfl ?_
  refine g5 c_331_1265 rfl ?_
  refine g3 c_331_1266 rfl ?_
  refine g1 c_331_1267 k_1 ?_
  refine g10 c_331_1268 ?_
  obtain ⟨ho, t⟩ := t
  refine g50 c_331_1269 ho ?_
  refine g5 c_331_1270 rfl ?_
  refine g3 c_331_1271 rfl ?_
  refine g1 c_331_1272 k_2 ?_
  refine g10 c_331_1273 ?_
  obtain ⟨ho, t⟩ := t
  refine g50 c_331_1274 ho ?_
  exact g80 (As := [.int (ab_i h x0 (Int32.toNatClampNeg (x3 + 1))), .int (ab_i h x0 (Int32.toNatClampNeg (x3 + 2)))]) (rest := [.int s0]) c_331_1275 rfl rfl (Nat.le_of_ble_eq_true rfl) (Nat.le_of_ble_eq_true rfl) t.1 t.2
set_option maxRecDepth 20000 in
theorem t_331_1278 {d : Nat} {h : ab_H} {Q : Option Value → ab_H → Prop} {x0 : Nat} {x1 : Nat} {x2 : Nat} {x3 : Int32} {s0 : Int32} {s1 : Int32} (t : if s0 = s1 then (wq d 331 1847 [.ref x0, .ref x1, .ref x2, .int x3] [] h Q) else (Q (some (.int 0)) h)) : wq d 331 1278 [.ref x0, .ref x1, .ref x2, .int x3] [.int s1, .int s0] h Q := by
  refine gcm c_331_1278 (gbr t rfl rfl (fun hc t => ?_) (fun hc t => ?_))
  · exact t
  · refine g1 c_331_1281 k_0 ?_
    exact g91 c_331_1282 ⟨by decide, t⟩
set_option maxRecDepth 20000 in
theorem t_331_1297 {d : Nat} {h : ab_H} {Q : Option Value → ab_H → Prop} {x0 : Nat} {x1 : Nat} {x2 : Nat} {x3 : Int32} {s0 : Int32} (t : ((x0 = 0 ∨ ab_ok h x0 0 = true) ∧ ab_in (x3 + 1) (ab_s h x0).2 = true) ∧ ((x0 = 0 ∨ ab_ok h x0 0 = true) ∧ ab_in (x3 + 2) (ab_s h x0).2 = true) ∧ ab_ok h x2 112 = true ∧ wm d 299 [.ref x2, .int (ab_i h x0 (Int32.toNatClampNeg (x3 + 1))), .int (ab_i h x0 (Int32.toNatClampNeg (x3 + 2)))] h (fun r9 h9 => wq (d + 1) 331 1311 [.ref x0, .ref x1, .ref x2, .int x3] (r9.toList ++ [.int s0]) h9 Q)) : wq (d + 1) 331 1297 [.ref x0, .ref x1, .ref x2, .int x3] [.int s0] h Q := by
  refine g5 c_331_1297 rfl ?_
  refine g5 c_331_1298 rfl ?_
  refine g3 c_331_1299 rfl ?_
  refine g1 c_331_1300 k_1 ?_
  refine g10 c_331_1301 ?_
  obtain ⟨ho, t⟩ := t
  refine g50 c_331_1302 ho ?_
  refine g5 c_331_1303 rfl ?_
  refine g3 c_331_1304 rfl ?_
  refine g1 c_331_1305 k_2 ?_
  refine g10 c_331_1306 ?_
  obtain ⟨ho, t⟩ := t
  refine g50 c_331_1307 ho ?_
  exact g80 (As := [.int (ab_i h x0 (Int32.toNatClampNeg (x3 + 1))), .int (ab_i h x0 (Int32.toNatClampNeg (x3 + 2)))]) (rest := [.int s0]) c_331_1308 rfl rfl (Nat.le_of_ble_eq_true rfl) (Nat.le_of_ble_eq_true rfl) t.1 t.2
set_option maxRecDepth 20000 in
theorem t_331_1311 {d : Nat} {h : ab_H} {Q : Option Value → ab_H → Prop} {x0 : Nat} {x1 : Nat} {x2 : Nat} {x3 : Int32} {s0 : Int32} {s1 : Int32} (t : if s0 = s1 then (wq d 331 1847 [.ref x0, .ref x1, .ref x2, .int x3] [] h Q) else (Q (some (.int 0)) h)) : wq d 331 1311 [.ref x0, .ref x1, .ref x2, .int x3] [.int s1, .int s0] h Q := by
  refine gcm c_331_1311 (gbr t rfl rfl (fun hc t => ?_) (fun hc t => ?_))
  · exact t
  · refine g1 c_331_1314 k_0 ?_
    exact g91 c_331_1315 ⟨by decide, t⟩
set_option maxRecDepth 20000 in
theorem t_331_1330 {d : Nat} {h : ab_H} {Q : Option Value → ab_H → Prop} {x0 : Nat} {x1 : Nat} {x2 : Nat} {x3 : Int32} {s0 : Int32} (t : ((x0 = 0 ∨ ab_ok h x0 0 = true) ∧ ab_in (x3 + 1) (ab_s h x0).2 = true) ∧ ((x0 = 0 ∨ ab_ok h x0 0 = true) ∧ ab_in (x3 + 2) (ab_s h x0).2 = true) ∧ ab_ok h x2 112 = true ∧ wm d 300 [.ref x2, .int (ab_i h x0 (Int32.toNatClampNeg (x3 + 1))), .int (ab_i h x0 (Int32.toNatClampNeg (x3 + 2)))] h (fun r9 h9 => wq (d + 1) 331 1344 [.ref x0, .ref x1, .ref x2, .int x3] (r9.toList ++ [.int s0]) h9 Q)) : wq (d + 1) 331 1330 [.ref x0, .ref x1, .ref x2, .int x3] [.int s0] h Q := by
  refine g5 c_331_1330 rfl ?_
  refine g5 c_331_1331 rfl ?_
  refine g3 c_331_1332 rfl ?_
  refine g1 c_331_1333 k_1 ?_
  refine g10 c_331_1334 ?_
  obtain ⟨ho, t⟩ := t
  refine g50 c_331_1335 ho ?_
  refine g5 c_331_1336 rfl ?_
  refine g3 c_331_1337 rfl ?_
  refine g1 c_331_1338 k_2 ?_
  refine g10 c_331_1339 ?_
  obtain ⟨ho, t⟩ := t
  refine g50 c_331_1340 ho ?_
  exact g80 (As := [.int (ab_i h x0 (Int32.toNatClampNeg (x3 + 1))), .int (ab_i h x0 (Int32.toNatClampNeg (x3 + 2)))]) (rest := [.int s0]) c_331_1341 rfl rfl (Nat.le_of_ble_eq_true rfl) (Nat.le_of_ble_eq_true rfl) t.1 t.2
set_option maxRecDepth 20000 in
theorem t_331_1344 {d : Nat} {h : ab_H} {Q : Option Value → ab_H → Prop} {x0 : Nat} {x1 : Nat} {x2 : Nat} {x3 : Int32} {s0 : Int32} {s1 : Int32} (t : if s0 = s1 then (wq d 331 1847 [.ref x0, .ref x1, .ref x2, .int x3] [] h Q) else (Q (some (.int 0)) h)) : wq d 331 1344 [.ref x0, .ref x1, .ref x2, .int x3] [.int s1, .int s0] h Q := by
  refine gcm c_331_1344 (gbr t rfl rfl (fun hc t => ?_) (fun hc t => ?_))
  · exact t
  · refine g1 c_331_1347 k_0 ?_
    exact g91 c_331_1348 ⟨by decide, t⟩
set_option maxRecDepth 20000 in
theorem t_331_1368 {d : Nat} {h : ab_H} {Q : Option Value → ab_H → Prop} {x0 : Nat} {x1 : Nat} {x2 : Nat} {x3 : Int32} {s0 : Int32} (t : ((x0 = 0 ∨ ab_ok h x0 0 = true) ∧ ab_in (x3 + 1) (ab_s h x0).2 = true) ∧ ((x0 = 0 ∨ ab_ok h x0 0 = true) ∧ ab_in (x3 + 2) (ab_s h x0).2 = true) ∧ ((x0 = 0 ∨ ab_ok h x0 0 = true) ∧ ab_in (x3 + 3) (ab_s h x0).2 = true) ∧ ab_ok h x2 112 = true ∧ wm d 301 [.ref x2, .int (ab_i h x0 (Int32.toNatClampNeg (x3 + 1))), .int (ab_i h x0 (Int32.toNatClampNeg (x3 + 2))), .int (ab_i h x0 (Int32.toNatClampNeg (x3 + 3)))] h (fun r9 h9 => wq (d + 1) 331 1387 [.ref x0, .ref x1, .ref x2, .int x3] (r9.toList ++ [.int s0]) h9 Q)) : wq (d + 1) 331 1368 [.ref x0, .ref x1, .ref x2, .int x3] [.int s0] h Q := by
  refine g5 c_331_1368 rfl ?_
  refine g5 c_331_1369 rfl ?_
  refine g3 c_331_1370 rfl ?_
  refine g1 c_331_1371 k_1 ?_
  refine g10 c_331_1372 ?_
  obtain ⟨ho, t⟩ := t
  refine g50 c_331_1373 ho ?_
  refine g5 c_331_1374 rfl ?_
  refine g3 c_331_1375 rfl ?_
  refine g1 c_331_1376 k_2 ?_
  refine g10 c_331_1377 ?_
  obtain ⟨ho, t⟩ := t
  refine g50 c_331_1378 ho ?_
  refine g5 c_331_1379 rfl ?_
  refine g3 c_331_1380 rfl ?_
  refine g1 c_331_1381 k_3 ?_
  refine g10 c_331_1382 ?_
  obtain ⟨ho, t⟩ := t
  refine g50 c_331_1383 ho ?_
  exact g80 (As := [.int (ab_i h x0 (Int32.toNatClampNeg (x3 + 1))), .int (ab_i h x0 (Int32.toNatClampNeg (x3 + 2))), .int (ab_i h x0 (Int32.toNatClampNeg (x3 + 3)))]) (rest := [.int s0]) c_331_1384 rfl rfl (Nat.le_of_ble_eq_true rfl) (Nat.le_of_ble_eq_true rfl) t.1 t.2
set_option maxRecDepth 20000 in
theorem t_331_1387 {d : Nat} {h : ab_H} {Q : Option Value → ab_H → Prop} {x0 : Nat} {x1 : Nat} {x2 : Nat} {x3 : Int32} {s0 : Int32} {s1 : Int32} (t : if s0 = s1 then (wq d 331 1847 [.ref x0, .ref x1, .ref x2, .int x3] [] h Q) else (Q (some (.int 0)) h)) : wq d 331 1387 [.ref x0, .ref x1, .ref x2, .int x3] [.int s1, .int s0] h Q := by
  refine gcm c_331_1387 (gbr t rfl rfl (fun hc t => ?_) (fun hc t => ?_))
  · exact t
  · refine g1 c_331_1390 k_0 ?_
    exact g91 c_331_1391 ⟨by decide, t⟩
set_option maxRecDepth 20000 in
theorem t_331_1416 {d : Nat} {h : ab_H} {Q : Option Value → ab_H → Prop} {x0 : Nat} {x1 : Nat} {x2 : Nat} {x3 : Int32} {s0 : Int32} (t : ((x0 = 0 ∨ ab_ok h x0 0 = true) ∧ ab_in (x3 + 1) (ab_s h x0).2 = true) ∧ ((x0 = 0 ∨ ab_ok h x0 0 = true) ∧ ab_in (x3 + 2) (ab_s h x0).2 = true) ∧ ((x0 = 0 ∨ ab_ok h x0 0 = true) ∧ ab_in (x3 + 3) (ab_s h x0).2 = true) ∧ ((x0 = 0 ∨ ab_ok h x0 0 = true) ∧ ab_in (x3 + 4) (ab_s h x0).2 = true) ∧ ab_ok h x2 112 = true ∧ wm d 304 [.ref x2, .int (ab_i h x0 (Int32.toNatClampNeg (x3 + 1))), .int (ab_i h x0 (Int32.toNatClampNeg (x3 + 2))), .int (ab_i h x0 (Int32.toNatClampNeg (x3 + 3))), .int (ab_i h x0 (Int32.toNatClampNeg (x3 + 4)))] h (fun r9 h9 => wq (d + 1) 331 1440 [.ref x0, .ref x1, .ref x2, .int x3] (r9.toList ++ [.int s0]) h9 Q)) : wq (d + 1) 331 1416 [.ref x0, .ref x1, .ref x2, .int x3] [.int s0] h Q := by
  refine g5 c_331_1416 rfl ?_
  refine g5 c_331_1417 rfl ?_
  refine g3 c_331_1418 rfl ?_
  refine g1 c_331_1419 k_1 ?_
  refine g10 c_331_1420 ?_
  obtain ⟨ho, t⟩ := t
  refine g50 c_331_1421 ho ?_
  refine g5 c_331_1422 rfl ?_
  refine g3 c_331_1423 rfl ?_
  refine g1 c_331_1424 k_2 ?_
  refine g10 c_331_1425 ?_
  obtain ⟨ho, t⟩ := t
  refine g50 c_331_1426 ho ?_
  refine g5 c_331_1427 rfl ?_
  refine g3 c_331_1428 rfl ?_
  refine g1 c_331_1429 k_3 ?_
  refine g10 c_331_1430 ?_
  obtain ⟨ho, t⟩ := t
  refine g50 c_331_1431 ho ?_
  refine g5 c_331_1432 rfl ?_
  refine g3 c_331_1433 rfl ?_
  refine g1 c_331_1434 k_4 ?_
  refine g10 c_331_1435 ?_
  obtain ⟨ho, t⟩ := t
  refine g50 c_331_1436 ho ?_
  exact g80 (As := [.int (ab_i h x0 (Int32.toNatClampNeg (x3 + 1))), .int (ab_i h x0 (Int32.toNatClampNeg (x3 + 2))), .int (ab_i h x0 (Int32.toNatClampNeg (x3 + 3))), .int (ab_i h x0 (Int32.toNatClampNeg (x3 + 4)))]) (rest := [.int s0]) c_331_1437 rfl rfl (Nat.le_of_ble_eq_true rfl) (Nat.le_of_ble_eq_true rfl) t.1 t.2
set_option maxRecDepth 20000 in
theorem t_331_1440 {d : Nat} {h : ab_H} {Q : Option Value → ab_H → Prop} {x0 : Nat} {x1 : Nat} {x2 : Nat} {x3 : Int32} {s0 : Int32} {s1 : Int32} (t : if s0 = s1 then (wq d 331 1847 [.ref x0, .ref x1, .ref x2, .int x3] [] h Q) else (Q (some (.int 0)) h)) : wq d 331 1440 [.ref x0, .ref x1, .ref x2, .int x3] [.int s1, .int s0] h Q := by
  refine gcm c_331_1440 (gbr t rfl rfl (fun hc t => ?_) (fun hc t => ?_))
  · exact t
  · refine g1 c_331_1443 k_0 ?_
    exact g91 c_331_1444 ⟨by decide, t⟩
set_option maxRecDepth 20000 in
theorem t_331_1459 {d : Nat} {h : ab_H} {Q : Option Value → ab_H → Prop} {x0 : Nat} {x1 : Nat} {x2 : Nat} {x3 : Int32} {s0 : Int32} (t : ((x0 = 0 ∨ ab_ok h x0 0 = true) ∧ ab_in (x3 + 1) (ab_s h x0).2 = true) ∧ ((x0 = 0 ∨ ab_ok h x0 0 = true) ∧ ab_in (x3 + 2) (ab_s h x0).2 = true) ∧ ab_ok h x2 112 = true ∧ wm d 305 [.ref x2, .int (ab_i h x0 (Int32.toNatClampNeg (x3 + 1))), .int (ab_i h x0 (Int32.toNatClampNeg (x3 + 2)))] h (fun r9 h9 => wq (d + 1) 331 1473 [.ref x0, .ref x1, .ref x2, .int x3] (r9.toList ++ [.int s0]) h9 Q)) : wq (d + 1) 331 1459 [.ref x0, .ref x1, .ref x2, .int x3] [.int s0] h Q := by
  refine g5 c_331_1459 rfl ?_
  refine g5 c_331_1460 rfl ?_
  refine g3 c_331_1461 rfl ?_
  refine g1 c_331_1462 k_1 ?_
  refine g10 c_331_1463 ?_
  obtain ⟨ho, t⟩ := t
  refine g50 c_331_1464 ho ?_
  refine g5 c_331_1465 rfl ?_
  refine g3 c_331_1466 rfl ?_
  refine g1 c_331_1467 k_2 ?_
  refine g10 c_331_1468 ?_
  obtain ⟨ho, t⟩ := t
  refine g50 c_331_1469 ho ?_
  exact g80 (As := [.int (ab_i h x0 (Int32.toNatClampNeg (x3 + 1))), .int (ab_i h x0 (Int32.toNatClampNeg (x3 + 2)))]) (rest := [.int s0]) c_331_1470 rfl rfl (Nat.le_of_ble_eq_true rfl) (Nat.le_of_ble_eq_true rfl) t.1 t.2
set_option maxRecDepth 20000 in
theorem t_331_1473 {d : Nat} {h : ab_H} {Q : Option Value → ab_H → Prop} {x0 : Nat} {x1 : Nat} {x2 : Nat} {x3 : Int32} {s0 : Int32} {s1 : Int32} (t : if s0 = s1 then (wq d 331 1847 [.ref x0, .ref x1, .ref x2, .int x3] [] h Q) else (Q (some (.int 0)) h)) : wq d 331 1473 [.ref x0, .ref x1, .ref x2, .int x3] [.int s1, .int s0] h Q := by
  refine gcm c_331_1473 (gbr t rfl rfl (fun hc t => ?_) (fun hc t => ?_))
  · exact t
  · refine g1 c_331_1476 k_0 ?_
    exact g91 c_331_1477 ⟨by decide, t⟩
set_option maxRecDepth 20000 in
theorem t_331_1482 {d : Nat} {h : ab_H} {Q : Option Value → ab_H → Prop} {x0 : Nat} {x1 : Nat} {x2 : Nat} {x3 : Int32} {s0 : Int32} (t : ab_ok h x2 112 = true ∧ wm d 306 [.ref x2] h (fun r9 h9 => wq (d + 1) 331 1486 [.ref x0, .ref x1, .ref x2, .int x3] (r9.toList ++ [.int s0]) h9 Q)) : wq (d + 1) 331 1482 [.ref x0, .ref x1, .ref x2, .int x3] [.int s0] h Q := by
  refine g5 c_331_1482 rfl ?_
  exact g80 (As := []) (rest := [.int s0]) c_331_1483 rfl rfl (Nat.le_of_ble_eq_true rfl) (Nat.le_of_ble_eq_true rfl) t.1 t.2
set_option maxRecDepth 20000 in
theorem t_331_1486 {d : Nat} {h : ab_H} {Q : Option Value → ab_H → Prop} {x0 : Nat} {x1 : Nat} {x2 : Nat} {x3 : Int32} {s0 : Int32} {s1 : Int32} (t : if s0 = s1 then (wq d 331 1847 [.ref x0, .ref x1, .ref x2, .int x3] [] h Q) else (Q (some (.int 0)) h)) : wq d 331 1486 [.ref x0, .ref x1, .ref x2, .int x3] [.int s1, .int s0] h Q := by
  refine gcm c_331_1486 (gbr t rfl rfl (fun hc t => ?_) (fun hc t => ?_))
  · exact t
  · refine g1 c_331_1489 k_0 ?_
    exact g91 c_331_1490 ⟨by decide, t⟩
set_option maxRecDepth 20000 in
theorem t_331_1505 {d : Nat} {h : ab_H} {Q : Option Value → ab_H → Prop} {x0 : Nat} {x1 : Nat} {x2 : Nat} {x3 : Int32} {s0 : Int32} (t : ((x0 = 0 ∨ ab_ok h x0 0 = true) ∧ ab_in (x3 + 1) (ab_s h x0).2 = true) ∧ ((x0 = 0 ∨ ab_ok h x0 0 = true) ∧ ab_in (x3 + 2) (ab_s h x0).2 = true) ∧ ab_ok h x2 112 = true ∧ wm d 307 [.ref x2, .int (ab_i h x0 (Int32.toNatClampNeg (x3 + 1))), .int (ab_i h x0 (Int32.toNatClampNeg (x3 + 2)))] h (fun r9 h9 => wq (d + 1) 331 1519 [.ref x0, .ref x1, .ref x2, .int x3] (r9.toList ++ [.int s0]) h9 Q)) : wq (d + 1) 331 1505 [.ref x0, .ref x1, .ref x2, .int x3] [.int s0] h Q := by
  refine g5 c_331_1505 rfl ?_
  refine g5 c_331_1506 rfl ?_
  refine g3 c_331_1507 rfl ?_
  refine g1 c_331_1508 k_1 ?_
  refine g10 c_331_1509 ?_
  obtain ⟨ho, t⟩ := t
  refine g50 c_331_1510 ho ?_
  refine g5 c_331_1511 rfl ?_
  refine g3 c_331_1512 rfl ?_
  refine g1 c_331_1513 k_2 ?_
  refine g10 c_331_1514 ?_
  obtain ⟨ho, t⟩ := t
  refine g50 c_331_1515 ho ?_
  exact g80 (As := [.int (ab_i h x0 (Int32.toNatClampNeg (x3 + 1))), .int (ab_i h x0 (Int32.toNatClampNeg (x3 + 2)))]) (rest := [.int s0]) c_331_1516 rfl rfl (Nat.le_of_ble_eq_true rfl) (Nat.le_of_ble_eq_true rfl) t.1 t.2
set_option maxRecDepth 20000 in
theorem t_331_1519 {d : Nat} {h : ab_H} {Q : Option Value → ab_H → Prop} {x0 : Nat} {x1 : Nat} {x2 : Nat} {x3 : Int32} {s0 : Int32} {s1 : Int32} (t : if s0 = s1 then (wq d 331 1847 [.ref x0, .ref x1, .ref x2, .int x3] [] h Q) else (Q (some (.int 0)) h)) : wq d 331 1519 [.ref x0, .ref x1, .ref x2, .int x3] [.int s1, .int s0] h Q := by
  refine gcm c_331_1519 (gbr t rfl rfl (fun hc t => ?_) (fun hc t => ?_))
  · exact t
  · refine g1 c_331_1522 k_0 ?_
    exact g91 c_331_1523 ⟨by decide, t⟩
set_option maxRecDepth 20000 in
theorem t_331_1548 {d : Nat} {h : ab_H} {Q : Option Value → ab_H → Prop} {x0 : Nat} {x1 : Nat} {x2 : Nat} {x3 : Int32} {s0 : Int32} (t : ((x0 = 0 ∨ ab_ok h x0 0 = true) ∧ ab_in (x3 + 1) (ab_s h x0).2 = true) ∧ ((x0 = 0 ∨ ab_ok h x0 0 = true) ∧ ab_in (x3 + 2) (ab_s h x0).2 = true) ∧ ((x0 = 0 ∨ ab_ok h x0 0 = true) ∧ ab_in (x3 + 3) (ab_s h x0).2 = true) ∧ ((x0 = 0 ∨ ab_ok h x0 0 = true) ∧ ab_in (x3 + 4) (ab_s h x0).2 = true) ∧ ab_ok h x2 112 = true ∧ wm d 310 [.ref x2, .int (ab_i h x0 (Int32.toNatClampNeg (x3 + 1))), .int (ab_i h x0 (Int32.toNatClampNeg (x3 + 2))), .int (ab_i h x0 (Int32.toNatClampNeg (x3 + 3))), .int (ab_i h x0 (Int32.toNatClampNeg (x3 + 4)))] h (fun r9 h9 => wq (d + 1) 331 1572 [.ref x0, .ref x1, .ref x2, .int x3] (r9.toList ++ [.int s0]) h9 Q)) : wq (d + 1) 331 1548 [.ref x0, .ref x1, .ref x2, .int x3] [.int s0] h Q := by
  refine g5 c_331_1548 rfl ?_
  refine g5 c_331_1549 rfl ?_
  refine g3 c_331_1550 rfl ?_
  refine g1 c_331_1551 k_1 ?_
  refine g10 c_331_1552 ?_
  obtain ⟨ho, t⟩ := t
  refine g50 c_331_1553 ho ?_
  refine g5 c_331_1554 rfl ?_
  refine g3 c_331_1555 rfl ?_
  refine g1 c_331_1556 k_2 ?_
  refine g10 c_331_1557 ?_
  obtain ⟨ho, t⟩ := t
  refine g50 c_331_1558 ho ?_
  refine g5 c_331_1559 rfl ?_
  refine g3 c_331_1560 rfl ?_
  refine g1 c_331_1561 k_3 ?_
  refine g10 c_331_1562 ?_
  obtain ⟨ho, t⟩ := t
  refine g50 c_331_1563 ho ?_
  refine g5 c_331_1564 rfl ?_
  refine g3 c_331_1565 rfl ?_
  refine g1 c_331_1566 k_4 ?_
  refine g10 c_331_1567 ?_
  obtain ⟨ho, t⟩ := t
  refine g50 c_331_1568 ho ?_
  exact g80 (As := [.int (ab_i h x0 (Int32.toNatClampNeg (x3 + 1))), .int (ab_i h x0 (Int32.toNatClampNeg (x3 + 2))), .int (ab_i h x0 (Int32.toNatClampNeg (x3 + 3))), .int (ab_i h x0 (Int32.toNatClampNeg (x3 + 4)))]) (rest := [.int s0]) c_331_1569 rfl rfl (Nat.le_of_ble_eq_true rfl) (Nat.le_of_ble_eq_true rfl) t.1 t.2
set_option maxRecDepth 20000 in
theorem t_331_1572 {d : Nat} {h : ab_H} {Q : Option Value → ab_H → Prop} {x0 : Nat} {x1 : Nat} {x2 : Nat} {x3 : Int32} {s0 : Int32} {s1 : Int32} (t : if s0 = s1 then (wq d 331 1847 [.ref x0, .ref x1, .ref x2, .int x3] [] h Q) else (Q (some (.int 0)) h)) : wq d 331 1572 [.ref x0, .ref x1, .ref x2, .int x3] [.int s1, .int s0] h Q := by
  refine gcm c_331_1572 (gbr t rfl rfl (fun hc t => ?_) (fun hc t => ?_))
  · exact t
  · refine g1 c_331_1575 k_0 ?_
    exact g91 c_331_1576 ⟨by decide, t⟩
set_option maxRecDepth 20000 in
theorem t_331_1591 {d : Nat} {h : ab_H} {Q : Option Value → ab_H → Prop} {x0 : Nat} {x1 : Nat} {x2 : Nat} {x3 : Int32} {s0 : Int32} (t : ((x0 = 0 ∨ ab_ok h x0 0 = true) ∧ ab_in (x3 + 1) (ab_s h x0).2 = true) ∧ ((x0 = 0 ∨ ab_ok h x0 0 = true) ∧ ab_in (x3 + 2) (ab_s h x0).2 = true) ∧ ab_ok h x2 112 = true ∧ wm d 311 [.ref x2, .int (ab_i h x0 (Int32.toNatClampNeg (x3 + 1))), .int (ab_i h x0 (Int32.toNatClampNeg (x3 + 2)))] h (fun r9 h9 => wq (d + 1) 331 1605 [.ref x0, .ref x1, .ref x2, .int x3] (r9.toList ++ [.int s0]) h9 Q)) : wq (d + 1) 331 1591 [.ref x0, .ref x1, .ref x2, .int x3] [.int s0] h Q := by
  refine g5 c_331_1591 rfl ?_
  refine g5 c_331_1592 rfl ?_
  refine g3 c_331_1593 rfl ?_
  refine g1 c_331_1594 k_1 ?_
  refine g10 c_331_1595 ?_
  obtain ⟨ho, t⟩ := t
  refine g50 c_331_1596 ho ?_
  refine g5 c_331_1597 rfl ?_
  refine g3 c_331_1598 rfl ?_
  refine g1 c_331_1599 k_2 ?_
  refine g10 c_331_1600 ?_
  obtain ⟨ho, t⟩ := t
  refine g50 c_331_1601 ho ?_
  exact g80 (As := [.int (ab_i h x0 (Int32.toNatClampNeg (x3 + 1))), .int (ab_i h x0 (Int32.toNatClampNeg (x3 + 2)))]) (rest := [.int s0]) c_331_1602 rfl rfl (Nat.le_of_ble_eq_true rfl) (Nat.le_of_ble_eq_true rfl) t.1 t.2
set_option maxRecDepth 20000 in
theorem t_331_1605 {d : Nat} {h : ab_H} {Q : Option Value → ab_H → Prop} {x0 : Nat} {x1 : Nat} {x2 : Nat} {x3 : Int32} {s0 : Int32} {s1 : Int32} (t : if s0 = s1 then (wq d 331 1847 [.ref x0, .ref x1, .ref x2, .int x3] [] h Q) else (Q (some (.int 0)) h)) : wq d 331 1605 [.ref x0, .ref x1, .ref x2, .int x3] [.int s1, .int s0] h Q := by
  refine gcm c_331_1605 (gbr t rfl rfl (fun hc t => ?_) (fun hc t => ?_))
  · exact t
  · refine g1 c_331_1608 k_0 ?_
    exact g91 c_331_1609 ⟨by decide, t⟩
set_option maxRecDepth 20000 in
theorem t_331_1624 {d : Nat} {h : ab_H} {Q : Option Value → ab_H → Prop} {x0 : Nat} {x1 : Nat} {x2 : Nat} {x3 : Int32} {s0 : Int32} (t : ((x0 = 0 ∨ ab_ok h x0 0 = true) ∧ ab_in (x3 + 1) (ab_s h x0).2 = true) ∧ ((x0 = 0 ∨ ab_ok h x0 0 = true) ∧ ab_in (x3 + 2) (ab_s h x0).2 = true) ∧ ab_ok h x2 112 = true ∧ wm d 315 [.ref x2, .int (ab_i h x0 (Int32.toNatClampNeg (x3 + 1))), .int (ab_i h x0 (Int32.toNatClampNeg (x3 + 2)))] h (fun r9 h9 => wq (d + 1) 331 1638 [.ref x0, .ref x1, .ref x2, .int x3] (r9.toList ++ [.int s0]) h9 Q)) : wq (d + 1) 331 1624 [.ref x0, .ref x1, .ref x2, .int x3] [.int s0] h Q := by
  refine g5 c_331_1624 rfl ?_
  refine g5 c_331_1625 rfl ?_
  refine g3 c_331_1626 rfl ?_
  refine g1 c_331_1627 k_1 ?_
  refine g10 c_331_1628 ?_
  obtain ⟨ho, t⟩ := t
  refine g50 c_331_1629 ho ?_
  refine g5 c_331_1630 rfl ?_
  refine g3 c_331_1631 rfl ?_
  refine g1 c_331_1632 k_2 ?_
  refine g10 c_331_1633 ?_
  obtain ⟨ho, t⟩ := t
  refine g50 c_331_1634 ho ?_
  exact g80 (As := [.int (ab_i h x0 (Int32.toNatClampNeg (x3 + 1))), .int (ab_i h x0 (Int32.toNatClampNeg (x3 + 2)))]) (rest := [.int s0]) c_331_1635 rfl rfl (Nat.le_of_ble_eq_true rfl) (Nat.le_of_ble_eq_true rfl) t.1 t.2
set_option maxRecDepth 20000 in
theorem t_331_1638 {d : Nat} {h : ab_H} {Q : Option Value → ab_H → Prop} {x0 : Nat} {x1 : Nat} {x2 : Nat} {x3 : Int32} {s0 : Int32} {s1 : Int32} (t : if s0 = s1 then (wq d 331 1847 [.ref x0, .ref x1, .ref x2, .int x3] [] h Q) else (Q (some (.int 0)) h)) : wq d 331 1638 [.ref x0, .ref x1, .ref x2, .int x3] [.int s1, .int s0] h Q := by
  refine gcm c_331_1638 (gbr t rfl rfl (fun hc t => ?_) (fun hc t => ?_))
  · exact t
  · refine g1 c_331_1641 k_0 ?_
    exact g91 c_331_1642 ⟨by decide, t⟩
set_option maxRecDepth 20000 in
theorem t_331_1657 {d : Nat} {h : ab_H} {Q : Option Value → ab_H → Prop} {x0 : Nat} {x1 : Nat} {x2 : Nat} {x3 : Int32} {s0 : Int32} (t : ((x0 = 0 ∨ ab_ok h x0 0 = true) ∧ ab_in (x3 + 1) (ab_s h x0).2 = true) ∧ ((x0 = 0 ∨ ab_ok h x0 0 = true) ∧ ab_in (x3 + 2) (ab_s h x0).2 = true) ∧ ab_ok h x2 112 = true ∧ wm d 317 [.ref x2, .int (ab_i h x0 (Int32.toNatClampNeg (x3 + 1))), .int (ab_i h x0 (Int32.toNatClampNeg (x3 + 2)))] h (fun r9 h9 => wq (d + 1) 331 1671 [.ref x0, .ref x1, .ref x2, .int x3] (r9.toList ++ [.int s0]) h9 Q)) : wq (d + 1) 331 1657 [.ref x0, .ref x1, .ref x2, .int x3] [.int s0] h Q := by
  refine g5 c_331_1657 rfl ?_
  refine g5 c_331_1658 rfl ?_
  refine g3 c_331_1659 rfl ?_
  refine g1 c_331_1660 k_1 ?_
  refine g10 c_331_1661 ?_
  obtain ⟨ho, t⟩ := t
  refine g50 c_331_1662 ho ?_
  refine g5 c_331_1663 rfl ?_
  refine g3 c_331_1664 rfl ?_
  refine g1 c_331_1665 k_2 ?_
  refine g10 c_331_1666 ?_
  obtain ⟨ho, t⟩ := t
  refine g50 c_331_1667 ho ?_
  exact g80 (As := [.int (ab_i h x0 (Int32.toNatClampNeg (x3 + 1))), .int (ab_i h x0 (Int32.toNatClampNeg (x3 + 2)))]) (rest := [.int s0]) c_331_1668 rfl rfl (Nat.le_of_ble_eq_true rfl) (Nat.le_of_ble_eq_true rfl) t.1 t.2
set_option maxRecDepth 20000 in
theorem t_331_1671 {d : Nat} {h : ab_H} {Q : Option Value → ab_H → Prop} {x0 : Nat} {x1 : Nat} {x2 : Nat} {x3 : Int32} {s0 : Int32} {s1 : Int32} (t : if s0 = s1 then (wq d 331 1847 [.ref x0, .ref x1, .ref x2, .int x3] [] h Q) else (Q (some (.int 0)) h)) : wq d 331 1671 [.ref x0, .ref x1, .ref x2, .int x3] [.int s1, .int s0] h Q := by
  refine gcm c_331_1671 (gbr t rfl rfl (fun hc t => ?_) (fun hc t => ?_))
  · exact t
  · refine g1 c_331_1674 k_0 ?_
    exact g91 c_331_1675 ⟨by decide, t⟩
set_option maxRecDepth 20000 in
theorem t_331_1685 {d : Nat} {h : ab_H} {Q : Option Value → ab_H → Prop} {x0 : Nat} {x1 : Nat} {x2 : Nat} {x3 : Int32} {s0 : Int32} (t : ((x0 = 0 ∨ ab_ok h x0 0 = true) ∧ ab_in (x3 + 1) (ab_s h x0).2 = true) ∧ ab_ok h x2 112 = true ∧ wm d 319 [.ref x2, .int (ab_i h x0 (Int32.toNatClampNeg (x3 + 1)))] h (fun r9 h9 => wq (d + 1) 331 1694 [.ref x0, .ref x1, .ref x2, .int x3] (r9.toList ++ [.int s0]) h9 Q)) : wq (d + 1) 331 1685 [.ref x0, .ref x1, .ref x2, .int x3] [.int s0] h Q := by
  refine g5 c_331_1685 rfl ?_
  refine g5 c_331_1686 rfl ?_
  refine g3 c_331_1687 rfl ?_
  refine g1 c_331_1688 k_1 ?_
  refine g10 c_331_1689 ?_
  obtain ⟨ho, t⟩ := t
  refine g50 c_331_1690 ho ?_
  exact g80 (As := [.int (ab_i h x0 (Int32.toNatClampNeg (x3 + 1)))]) (rest := [.int s0]) c_331_1691 rfl rfl (Nat.le_of_ble_eq_true rfl) (Nat.le_of_ble_eq_true rfl) t.1 t.2
set_option maxRecDepth 20000 in
theorem t_331_1694 {d : Nat} {h : ab_H} {Q : Option Value → ab_H → Prop} {x0 : Nat} {x1 : Nat} {x2 : Nat} {x3 : Int32} {s0 : Int32} {s1 : Int32} (t : if s0 = s1 then (wq d 331 1847 [.ref x0, .ref x1, .ref x2, .int x3] [] h Q) else (Q (some (.int 0)) h)) : wq d 331 1694 [.ref x0, .ref x1, .ref x2, .int x3] [.int s1, .int s0] h Q := by
  refine gcm c_331_1694 (gbr t rfl rfl (fun hc t => ?_) (fun hc t => ?_))
  · exact t
  · refine g1 c_331_1697 k_0 ?_
    exact g91 c_331_1698 ⟨by decide, t⟩
set_option maxRecDepth 20000 in
theorem t_331_1713 {d : Nat} {h : ab_H} {Q : Option Value → ab_H → Prop} {x0 : Nat} {x1 : Nat} {x2 : Nat} {x3 : Int32} {s0 : Int32} (t : ((x0 = 0 ∨ ab_ok h x0 0 = true) ∧ ab_in (x3 + 1) (ab_s h x0).2 = true) ∧ ((x0 = 0 ∨ ab_ok h x0 0 = true) ∧ ab_in (x3 + 2) (ab_s h x0).2 = true) ∧ ab_ok h x2 112 = true ∧ wm d 321 [.ref x2, .int (ab_i h x0 (Int32.toNatClampNeg (x3 + 1))), .int (ab_i h x0 (Int32.toNatClampNeg (x3 + 2)))] h (fun r9 h9 => wq (d + 1) 331 1727 [.ref x0, .ref x1, .ref x2, .int x3] (r9.toList ++ [.int s0]) h9 Q)) : wq (d + 1) 331 1713 [.ref x0, .ref x1, .ref x2, .int x3] [.int s0] h Q := by
  refine g5 c_331_1713 rfl ?_
  refine g5 c_331_1714 rfl ?_
  refine g3 c_331_1715 rfl ?_
  refine g1 c_331_1716 k_1 ?_
  refine g10 c_331_1717 ?_
  obtain ⟨ho, t⟩ := t
  refine g50 c_331_1718 ho ?_
  refine g5 c_331_1719 rfl ?_
  refine g3 c_331_1720 rfl ?_
  refine g1 c_331_1721 k_2 ?_
  refine g10 c_331_1722 ?_
  obtain ⟨ho, t⟩ := t
  refine g50 c_331_1723 ho ?_
  exact g80 (As := [.int (ab_i h x0 (Int32.toNatClampNeg (x3 + 1))), .int (ab_i h x0 (Int32.toNatClampNeg (x3 + 2)))]) (rest := [.int s0]) c_331_1724 rfl rfl (Nat.le_of_ble_eq_true rfl) (Nat.le_of_ble_eq_true rfl) t.1 t.2
set_option maxRecDepth 20000 in
theorem t_331_1727 {d : Nat} {h : ab_H} {Q : Option Value → ab_H → Prop} {x0 : Nat} {x1 : Nat} {x2 : Nat} {x3 : Int32} {s0 : Int32} {s1 : Int32} (t : if s0 = s1 then (wq d 331 1847 [.ref x0, .ref x1, .ref x2, .int x3] [] h Q) else (Q (some (.int 0)) h)) : wq d 331 1727 [.ref x0, .ref x1, .ref x2, .int x3] [.int s1, .int s0] h Q := by
  refine gcm c_331_1727 (gbr t rfl rfl (fun hc t => ?_) (fun hc t => ?_))
  · exact t
  · refine g1 c_331_1730 k_0 ?_
    exact g91 c_331_1731 ⟨by decide, t⟩
set_option maxRecDepth 20000 in
theorem t_331_1751 {d : Nat} {h : ab_H} {Q : Option Value → ab_H → Prop} {x0 : Nat} {x1 : Nat} {x2 : Nat} {x3 : Int32} {s0 : Int32} (t : ((x0 = 0 ∨ ab_ok h x0 0 = true) ∧ ab_in (x3 + 1) (ab_s h x0).2 = true) ∧ ((x0 = 0 ∨ ab_ok h x0 0 = true) ∧ ab_in (x3 + 2) (ab_s h x0).2 = true) ∧ ((x0 = 0 ∨ ab_ok h x0 0 = true) ∧ ab_in (x3 + 3) (ab_s h x0).2 = true) ∧ ab_ok h x2 112 = true ∧ wm d 322 [.ref x2, .int (ab_i h x0 (Int32.toNatClampNeg (x3 + 1))), .int (ab_i h x0 (Int32.toNatClampNeg (x3 + 2))), .int (ab_i h x0 (Int32.toNatClampNeg (x3 + 3)))] h (fun r9 h9 => wq (d + 1) 331 1770 [.ref x0, .ref x1, .ref x2, .int x3] (r9.toList ++ [.int s0]) h9 Q)) : wq (d + 1) 331 1751 [.ref x0, .ref x1, .ref x2, .int x3] [.int s0] h Q := by
  refine g5 c_331_1751 rfl ?_
  refine g5 c_331_1752 rfl ?_
  refine g3 c_331_1753 rfl ?_
  refine g1 c_331_1754 k_1 ?_
  refine g10 c_331_1755 ?_
  obtain ⟨ho, t⟩ := t
  refine g50 c_331_1756 ho ?_
  refine g5 c_331_1757 rfl ?_
  refine g3 c_331_1758 rfl ?_
  refine g1 c_331_1759 k_2 ?_
  refine g10 c_331_1760 ?_
  obtain ⟨ho, t⟩ := t
  refine g50 c_331_1761 ho ?_
  refine g5 c_331_1762 rfl ?_
  refine g3 c_331_1763 rfl ?_
  refine g1 c_331_1764 k_3 ?_
  refine g10 c_331_1765 ?_
  obtain ⟨ho, t⟩ := t
  refine g50 c_331_1766 ho ?_
  exact g80 (As := [.int (ab_i h x0 (Int32.toNatClampNeg (x3 + 1))), .int (ab_i h x0 (Int32.toNatClampNeg (x3 + 2))), .int (ab_i h x0 (Int32.toNatClampNeg (x3 + 3)))]) (rest := [.int s0]) c_331_1767 rfl rfl (Nat.le_of_ble_eq_true rfl) (Nat.le_of_ble_eq_true rfl) t.1 t.2
set_option maxRecDepth 20000 in
theorem t_331_1770 {d : Nat} {h : ab_H} {Q : Option Value → ab_H → Prop} {x0 : Nat} {x1 : Nat} {x2 : Nat} {x3 : Int32} {s0 : Int32} {s1 : Int32} (t : if s0 = s1 then (wq d 331 1847 [.ref x0, .ref x1, .ref x2, .int x3] [] h Q) else (Q (some (.int 0)) h)) : wq d 331 1770 [.ref x0, .ref x1, .ref x2, .int x3] [.int s1, .int s0] h Q := by
  refine gcm c_331_1770 (gbr t rfl rfl (fun hc t => ?_) (fun hc t => ?_))
  · exact t
  · refine g1 c_331_1773 k_0 ?_
    exact g91 c_331_1774 ⟨by decide, t⟩
set_option maxRecDepth 20000 in
theorem t_331_1784 {d : Nat} {h : ab_H} {Q : Option Value → ab_H → Prop} {x0 : Nat} {x1 : Nat} {x2 : Nat} {x3 : Int32} {s0 : Int32} (t : ((x0 = 0 ∨ ab_ok h x0 0 = true) ∧ ab_in (x3 + 1) (ab_s h x0).2 = true) ∧ ab_ok h x2 112 = true ∧ wm d 323 [.ref x2, .int (ab_i h x0 (Int32.toNatClampNeg (x3 + 1)))] h (fun r9 h9 => wq (d + 1) 331 1793 [.ref x0, .ref x1, .ref x2, .int x3] (r9.toList ++ [.int s0]) h9 Q)) : wq (d + 1) 331 1784 [.ref x0, .ref x1, .ref x2, .int x3] [.int s0] h Q := by
  refine g5 c_331_1784 rfl ?_
  refine g5 c_331_1785 rfl ?_
  refine g3 c_331_1786 rfl ?_
  refine g1 c_331_1787 k_1 ?_
  refine g10 c_331_1788 ?_
  obtain ⟨ho, t⟩ := t
  refine g50 c_331_1789 ho ?_
  exact g80 (As := [.int (ab_i h x0 (Int32.toNatClampNeg (x3 + 1)))]) (rest := [.int s0]) c_331_1790 rfl rfl (Nat.le_of_ble_eq_true rfl) (Nat.le_of_ble_eq_true rfl) t.1 t.2
set_option maxRecDepth 20000 in
theorem t_331_1793 {d : Nat} {h : ab_H} {Q : Option Value → ab_H → Prop} {x0 : Nat} {x1 : Nat} {x2 : Nat} {x3 : Int32} {s0 : Int32} {s1 : Int32} (t : if s0 = s1 then (wq d 331 1847 [.ref x0, .ref x1, .ref x2, .int x3] [] h Q) else (Q (some (.int 0)) h)) : wq d 331 1793 [.ref x0, .ref x1, .ref x2, .int x3] [.int s1, .int s0] h Q := by
  refine gcm c_331_1793 (gbr t rfl rfl (fun hc t => ?_) (fun hc t => ?_))
  · exact t
  · refine g1 c_331_1796 k_0 ?_
    exact g91 c_331_1797 ⟨by decide, t⟩
set_option maxRecDepth 20000 in
theorem t_331_1802 {d : Nat} {h : ab_H} {Q : Option Value → ab_H → Prop} {x0 : Nat} {x1 : Nat} {x2 : Nat} {x3 : Int32} {s0 : Int32} (t : ab_ok h x2 112 = true ∧ wm d 324 [.ref x2] h (fun r9 h9 => wq (d + 1) 331 1806 [.ref x0, .ref x1, .ref x2, .int x3] (r9.toList ++ [.int s0]) h9 Q)) : wq (d + 1) 331 1802 [.ref x0, .ref x1, .ref x2, .int x3] [.int s0] h Q := by
  refine g5 c_331_1802 rfl ?_
  exact g80 (As := []) (rest := [.int s0]) c_331_1803 rfl rfl (Nat.le_of_ble_eq_true rfl) (Nat.le_of_ble_eq_true rfl) t.1 t.2
set_option maxRecDepth 20000 in
theorem t_331_1806 {d : Nat} {h : ab_H} {Q : Option Value → ab_H → Prop} {x0 : Nat} {x1 : Nat} {x2 : Nat} {x3 : Int32} {s0 : Int32} {s1 : Int32} (t : if s0 = s1 then (wq d 331 1847 [.ref x0, .ref x1, .ref x2, .int x3] [] h Q) else (Q (some (.int 0)) h)) : wq d 331 1806 [.ref x0, .ref x1, .ref x2, .int x3] [.int s1, .int s0] h Q := by
  refine gcm c_331_1806 (gbr t rfl rfl (fun hc t => ?_) (fun hc t => ?_))
  · exact t
  · refine g1 c_331_1809 k_0 ?_
    exact g91 c_331_1810 ⟨by decide, t⟩
set_option maxRecDepth 20000 in
theorem t_331_1815 {d : Nat} {h : ab_H} {Q : Option Value → ab_H → Prop} {x0 : Nat} {x1 : Nat} {x2 : Nat} {x3 : Int32} {s0 : Int32} (t : ab_ok h x2 112 = true ∧ wm d 325 [.ref x2] h (fun r9 h9 => wq (d + 1) 331 1819 [.ref x0, .ref x1, .ref x2, .int x3] (r9.toList ++ [.int s0]) h9 Q)) : wq (d + 1) 331 1815 [.ref x0, .ref x1, .ref x2, .int x3] [.int s0] h Q := by
  refine g5 c_331_1815 rfl ?_
  exact g80 (As := []) (rest := [.int s0]) c_331_1816 rfl rfl (Nat.le_of_ble_eq_true rfl) (Nat.le_of_ble_eq_true rfl) t.1 t.2
set_option maxRecDepth 20000 in
theorem t_331_1819 {d : Nat} {h : ab_H} {Q : Option Value → ab_H → Prop} {x0 : Nat} {x1 : Nat} {x2 : Nat} {x3 : Int32} {s0 : Int32} {s1 : Int32} (t : if s0 = s1 then (wq d 331 1847 [.ref x0, .ref x1, .ref x2, .int x3] [] h Q) else (Q (some (.int 0)) h)) : wq d 331 1819 [.ref x0, .ref x1, .ref x2, .int x3] [.int s1, .int s0] h Q := by
  refine gcm c_331_1819 (gbr t rfl rfl (fun hc t => ?_) (fun hc t => ?_))
  · exact t
  · refine g1 c_331_1822 k_0 ?_
    exact g91 c_331_1823 ⟨by decide, t⟩
set_option maxRecDepth 20000 in
theorem t_331_1833 {d : Nat} {h : ab_H} {Q : Option Value → ab_H → Prop} {x0 : Nat} {x1 : Nat} {x2 : Nat} {x3 : Int32} {s0 : Int32} (t : ((x0 = 0 ∨ ab_ok h x0 0 = true) ∧ ab_in (x3 + 1) (ab_s h x0).2 = true) ∧ ab_ok h x2 112 = true ∧ wm d 326 [.ref x2, .int (ab_i h x0 (Int32.toNatClampNeg (x3 + 1)))] h (fun r9 h9 => wq (d + 1) 331 1842 [.ref x0, .ref x1, .ref x2, .int x3] (r9.toList ++ [.int s0]) h9 Q)) : wq (d + 1) 331 1833 [.ref x0, .ref x1, .ref x2, .int x3] [.int s0] h Q := by
  refine g5 c_331_1833 rfl ?_
  refine g5 c_331_1834 rfl ?_
  refine g3 c_331_1835 rfl ?_
  refine g1 c_331_1836 k_1 ?_
  refine g10 c_331_1837 ?_
  obtain ⟨ho, t⟩ := t
  refine g50 c_331_1838 ho ?_
  exact g80 (As := [.int (ab_i h x0 (Int32.toNatClampNeg (x3 + 1)))]) (rest := [.int s0]) c_331_1839 rfl rfl (Nat.le_of_ble_eq_true rfl) (Nat.le_of_ble_eq_true rfl) t.1 t.2
set_option maxRecDepth 20000 in
theorem t_331_1842 {d : Nat} {h : ab_H} {Q : Option Value → ab_H → Prop} {x0 : Nat} {x1 : Nat} {x2 : Nat} {x3 : Int32} {s0 : Int32} {s1 : Int32} (t : if s0 = s1 then (wq d 331 1847 [.ref x0, .ref x1, .ref x2, .int x3] [] h Q) else (Q (some (.int 0)) h)) : wq d 331 1842 [.ref x0, .ref x1, .ref x2, .int x3] [.int s1, .int s0] h Q := by
  refine gcm c_331_1842 (gbr t rfl rfl (fun hc t => ?_) (fun hc t => ?_))
  · exact t
  · refine g1 c_331_1845 k_0 ?_
    exact g91 c_331_1846 ⟨by decide, t⟩
set_option maxRecDepth 20000 in
theorem t_331_1847 {d : Nat} {h : ab_H} {Q : Option Value → ab_H → Prop} {x0 : Nat} {x1 : Nat} {x2 : Nat} {x3 : Int32} (t : wq d 331 18 [.ref x0, .ref x1, .ref x2, .int (x3 + 7)] [] h Q) : wq d 331 1847 [.ref x0, .ref x1, .ref x2, .int x3] [] h Q := by
  refine g9 (L' := [.ref x0, .ref x1, .ref x2, .int (x3 + 7)]) c_331_1847 rfl k_7 rfl ?_
  refine g38 c_331_1850 rfl ?_
  exact t
