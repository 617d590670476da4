theorem i238_0 : ts_ins 238 0 = some (.new 7, 3, 0) := by decide +kernel
theorem i238_3 : ts_ins 238 3 = some (.dup, 4, 0) := by decide +kernel
theorem i238_4 : ts_ins 238 4 = some (.invokespecial 9, 7, 0) := by decide +kernel
theorem g238_4 : ts_cal (ts_mc 238) 9 = some (2, 93, 0) := by decide +kernel
theorem i238_7 : ts_ins 238 7 = some (.astore_n 1, 8, 0) := by decide +kernel
theorem i238_8 : ts_ins 238 8 = some (.new 10, 11, 0) := by decide +kernel
theorem i238_11 : ts_ins 238 11 = some (.dup, 12, 0) := by decide +kernel
theorem i238_12 : ts_ins 238 12 = some (.invokespecial 12, 15, 0) := by decide +kernel
theorem g238_12 : ts_cal (ts_mc 238) 12 = some (2, 144, 0) := by decide +kernel
theorem i238_15 : ts_ins 238 15 = some (.astore_n 2, 16, 0) := by decide +kernel
theorem i238_16 : ts_ins 238 16 = some (.iconst 0, 17, 0) := by decide +kernel
theorem i238_17 : ts_ins 238 17 = some (.istore_n 3, 18, 0) := by decide +kernel
theorem i238_18 : ts_ins 238 18 = some (.iload_n 3, 19, 0) := by decide +kernel
theorem i238_19 : ts_ins 238 19 = some (.aload_n 0, 20, 0) := by decide +kernel
theorem i238_20 : ts_ins 238 20 = some (.arraylength, 21, 0) := by decide +kernel
theorem i238_21 : ts_ins 238 21 = some (.bipush 6, 23, 0) := by decide +kernel
theorem i238_23 : ts_ins 238 23 = some (.isub, 24, 0) := by decide +kernel
theorem i238_24 : ts_ins 238 24 = some (.if_icmp .gt 1454, 27, 1478) := by decide +kernel
theorem i238_27 : ts_ins 238 27 = some (.aload_n 0, 28, 0) := by decide +kernel
theorem i238_28 : ts_ins 238 28 = some (.iload_n 3, 29, 0) := by decide +kernel
theorem i238_29 : ts_ins 238 29 = some (.iaload, 30, 0) := by decide +kernel
theorem i238_30 : ts_ins 238 30 = some (.bipush 63, 32, 0) := by decide +kernel
theorem i238_32 : ts_ins 238 32 = some (.iand, 33, 0) := by decide +kernel
theorem i238_33 : ts_ins 238 33 = some (.tableswitch 1439 0 42 #[187, 210, 253, 296, 329, 352, 365, 388, 421, 454, 497, 530, 543, 567, 580, 603, 636, 680, 713, 736, 749, 772, 795, 818, 831, 874, 927, 950, 973, 996, 1009, 1022, 1035, 1048, 1071, 1114, 1137, 1170, 1213, 1286, 1320, 1383, 1416], 220, 0) := by decide +kernel
theorem i238_220 : ts_ins 238 220 = some (.aload_n 1, 221, 0) := by decide +kernel
theorem i238_221 : ts_ins 238 221 = some (.aload_n 0, 222, 0) := by decide +kernel
theorem i238_222 : ts_ins 238 222 = some (.iload_n 3, 223, 0) := by decide +kernel
theorem i238_223 : ts_ins 238 223 = some (.iconst 1, 224, 0) := by decide +kernel
theorem i238_224 : ts_ins 238 224 = some (.iadd, 225, 0) := by decide +kernel
theorem i238_225 : ts_ins 238 225 = some (.iaload, 226, 0) := by decide +kernel
theorem i238_226 : ts_ins 238 226 = some (.invokevirtual 13, 229, 0) := by decide +kernel
theorem g238_226 : ts_cal (ts_mc 238) 13 = some (0, 94, 1) := by decide +kernel
theorem i238_229 : ts_ins 238 229 = some (.aload_n 2, 230, 0) := by decide +kernel
theorem i238_230 : ts_ins 238 230 = some (.aload_n 0, 231, 0) := by decide +kernel
theorem i238_231 : ts_ins 238 231 = some (.iload_n 3, 232, 0) := by decide +kernel
theorem i238_232 : ts_ins 238 232 = some (.iconst 1, 233, 0) := by decide +kernel
theorem i238_233 : ts_ins 238 233 = some (.iadd, 234, 0) := by decide +kernel
theorem i238_234 : ts_ins 238 234 = some (.iaload, 235, 0) := by decide +kernel
theorem i238_235 : ts_ins 238 235 = some (.invokevirtual 17, 238, 0) := by decide +kernel
theorem g238_235 : ts_cal (ts_mc 238) 17 = some (0, 152, 1) := by decide +kernel
theorem i238_238 : ts_ins 238 238 = some (.if_icmp .eq 1234, 241, 1472) := by decide +kernel
theorem i238_241 : ts_ins 238 241 = some (.iconst 0, 242, 0) := by decide +kernel
theorem i238_242 : ts_ins 238 242 = some (.ireturn, 243, 0) := by decide +kernel
theorem i238_243 : ts_ins 238 243 = some (.aload_n 1, 244, 0) := by decide +kernel
theorem i238_244 : ts_ins 238 244 = some (.aload_n 0, 245, 0) := by decide +kernel
theorem i238_245 : ts_ins 238 245 = some (.iload_n 3, 246, 0) := by decide +kernel
theorem i238_246 : ts_ins 238 246 = some (.iconst 1, 247, 0) := by decide +kernel
theorem i238_247 : ts_ins 238 247 = some (.iadd, 248, 0) := by decide +kernel
theorem i238_248 : ts_ins 238 248 = some (.iaload, 249, 0) := by decide +kernel
theorem i238_249 : ts_ins 238 249 = some (.aload_n 0, 250, 0) := by decide +kernel
theorem i238_250 : ts_ins 238 250 = some (.iload_n 3, 251, 0) := by decide +kernel
theorem i238_251 : ts_ins 238 251 = some (.iconst 2, 252, 0) := by decide +kernel
theorem i238_252 : ts_ins 238 252 = some (.iadd, 253, 0) := by decide +kernel
theorem i238_253 : ts_ins 238 253 = some (.iaload, 254, 0) := by decide +kernel
theorem i238_254 : ts_ins 238 254 = some (.aload_n 0, 255, 0) := by decide +kernel
theorem i238_255 : ts_ins 238 255 = some (.iload_n 3, 256, 0) := by decide +kernel
theorem i238_256 : ts_ins 238 256 = some (.iconst 3, 257, 0) := by decide +kernel
theorem i238_257 : ts_ins 238 257 = some (.iadd, 258, 0) := by decide +kernel
theorem i238_258 : ts_ins 238 258 = some (.iaload, 259, 0) := by decide +kernel
theorem i238_259 : ts_ins 238 259 = some (.invokevirtual 18, 262, 0) := by decide +kernel
theorem g238_259 : ts_cal (ts_mc 238) 18 = some (0, 95, 3) := by decide +kernel
theorem i238_262 : ts_ins 238 262 = some (.aload_n 2, 263, 0) := by decide +kernel
theorem i238_263 : ts_ins 238 263 = some (.aload_n 0, 264, 0) := by decide +kernel
theorem i238_264 : ts_ins 238 264 = some (.iload_n 3, 265, 0) := by decide +kernel
theorem i238_265 : ts_ins 238 265 = some (.iconst 1, 266, 0) := by decide +kernel
theorem i238_266 : ts_ins 238 266 = some (.iadd, 267, 0) := by decide +kernel
theorem i238_267 : ts_ins 238 267 = some (.iaload, 268, 0) := by decide +kernel
theorem i238_268 : ts_ins 238 268 = some (.aload_n 0, 269, 0) := by decide +kernel
theorem i238_269 : ts_ins 238 269 = some (.iload_n 3, 270, 0) := by decide +kernel
theorem i238_270 : ts_ins 238 270 = some (.iconst 2, 271, 0) := by decide +kernel
theorem i238_271 : ts_ins 238 271 = some (.iadd, 272, 0) := by decide +kernel
theorem i238_272 : ts_ins 238 272 = some (.iaload, 273, 0) := by decide +kernel
theorem i238_273 : ts_ins 238 273 = some (.aload_n 0, 274, 0) := by decide +kernel
theorem i238_274 : ts_ins 238 274 = some (.iload_n 3, 275, 0) := by decide +kernel
theorem i238_275 : ts_ins 238 275 = some (.iconst 3, 276, 0) := by decide +kernel
theorem i238_276 : ts_ins 238 276 = some (.iadd, 277, 0) := by decide +kernel
theorem i238_277 : ts_ins 238 277 = some (.iaload, 278, 0) := by decide +kernel
theorem i238_278 : ts_ins 238 278 = some (.invokevirtual 22, 281, 0) := by decide +kernel
theorem g238_278 : ts_cal (ts_mc 238) 22 = some (0, 154, 3) := by decide +kernel
theorem i238_281 : ts_ins 238 281 = some (.if_icmp .eq 1191, 284, 1472) := by decide +kernel
theorem i238_284 : ts_ins 238 284 = some (.iconst 0, 285, 0) := by decide +kernel
theorem i238_285 : ts_ins 238 285 = some (.ireturn, 286, 0) := by decide +kernel
theorem i238_286 : ts_ins 238 286 = some (.aload_n 1, 287, 0) := by decide +kernel
theorem i238_287 : ts_ins 238 287 = some (.aload_n 0, 288, 0) := by decide +kernel
theorem i238_288 : ts_ins 238 288 = some (.iload_n 3, 289, 0) := by decide +kernel
theorem i238_289 : ts_ins 238 289 = some (.iconst 1, 290, 0) := by decide +kernel
theorem i238_290 : ts_ins 238 290 = some (.iadd, 291, 0) := by decide +kernel
theorem i238_291 : ts_ins 238 291 = some (.iaload, 292, 0) := by decide +kernel
theorem i238_292 : ts_ins 238 292 = some (.aload_n 0, 293, 0) := by decide +kernel
theorem i238_293 : ts_ins 238 293 = some (.iload_n 3, 294, 0) := by decide +kernel
theorem i238_294 : ts_ins 238 294 = some (.iconst 2, 295, 0) := by decide +kernel
theorem i238_295 : ts_ins 238 295 = some (.iadd, 296, 0) := by decide +kernel
theorem i238_296 : ts_ins 238 296 = some (.iaload, 297, 0) := by decide +kernel
theorem i238_297 : ts_ins 238 297 = some (.aload_n 0, 298, 0) := by decide +kernel
theorem i238_298 : ts_ins 238 298 = some (.iload_n 3, 299, 0) := by decide +kernel
theorem i238_299 : ts_ins 238 299 = some (.iconst 3, 300, 0) := by decide +kernel
theorem i238_300 : ts_ins 238 300 = some (.iadd, 301, 0) := by decide +kernel
theorem i238_301 : ts_ins 238 301 = some (.iaload, 302, 0) := by decide +kernel
theorem i238_302 : ts_ins 238 302 = some (.invokevirtual 23, 305, 0) := by decide +kernel
theorem g238_302 : ts_cal (ts_mc 238) 23 = some (0, 96, 3) := by decide +kernel
theorem i238_305 : ts_ins 238 305 = some (.aload_n 2, 306, 0) := by decide +kernel
theorem i238_306 : ts_ins 238 306 = some (.aload_n 0, 307, 0) := by decide +kernel
theorem i238_307 : ts_ins 238 307 = some (.iload_n 3, 308, 0) := by decide +kernel
theorem i238_308 : ts_ins 238 308 = some (.iconst 1, 309, 0) := by decide +kernel
theorem i238_309 : ts_ins 238 309 = some (.iadd, 310, 0) := by decide +kernel
theorem i238_310 : ts_ins 238 310 = some (.iaload, 311, 0) := by decide +kernel
theorem i238_311 : ts_ins 238 311 = some (.aload_n 0, 312, 0) := by decide +kernel
theorem i238_312 : ts_ins 238 312 = some (.iload_n 3, 313, 0) := by decide +kernel
theorem i238_313 : ts_ins 238 313 = some (.iconst 2, 314, 0) := by decide +kernel
theorem i238_314 : ts_ins 238 314 = some (.iadd, 315, 0) := by decide +kernel
theorem i238_315 : ts_ins 238 315 = some (.iaload, 316, 0) := by decide +kernel
theorem i238_316 : ts_ins 238 316 = some (.aload_n 0, 317, 0) := by decide +kernel
theorem i238_317 : ts_ins 238 317 = some (.iload_n 3, 318, 0) := by decide +kernel
theorem i238_318 : ts_ins 238 318 = some (.iconst 3, 319, 0) := by decide +kernel
theorem i238_319 : ts_ins 238 319 = some (.iadd, 320, 0) := by decide +kernel
theorem i238_320 : ts_ins 238 320 = some (.iaload, 321, 0) := by decide +kernel
theorem i238_321 : ts_ins 238 321 = some (.invokevirtual 26, 324, 0) := by decide +kernel
theorem g238_321 : ts_cal (ts_mc 238) 26 = some (0, 157, 3) := by decide +kernel
theorem i238_324 : ts_ins 238 324 = some (.if_icmp .eq 1148, 327, 1472) := by decide +kernel
theorem i238_327 : ts_ins 238 327 = some (.iconst 0, 328, 0) := by decide +kernel
theorem i238_328 : ts_ins 238 328 = some (.ireturn, 329, 0) := by decide +kernel
theorem i238_329 : ts_ins 238 329 = some (.aload_n 1, 330, 0) := by decide +kernel
theorem i238_330 : ts_ins 238 330 = some (.aload_n 0, 331, 0) := by decide +kernel
theorem i238_331 : ts_ins 238 331 = some (.iload_n 3, 332, 0) := by decide +kernel
theorem i238_332 : ts_ins 238 332 = some (.iconst 1, 333, 0) := by decide +kernel
theorem i238_333 : ts_ins 238 333 = some (.iadd, 334, 0) := by decide +kernel
theorem i238_334 : ts_ins 238 334 = some (.iaload, 335, 0) := by decide +kernel
theorem i238_335 : ts_ins 238 335 = some (.aload_n 0, 336, 0) := by decide +kernel
theorem i238_336 : ts_ins 238 336 = some (.iload_n 3, 337, 0) := by decide +kernel
theorem i238_337 : ts_ins 238 337 = some (.iconst 2, 338, 0) := by decide +kernel
theorem i238_338 : ts_ins 238 338 = some (.iadd, 339, 0) := by decide +kernel
theorem i238_339 : ts_ins 238 339 = some (.iaload, 340, 0) := by decide +kernel
theorem i238_340 : ts_ins 238 340 = some (.invokevirtual 27, 343, 0) := by decide +kernel
theorem g238_340 : ts_cal (ts_mc 238) 27 = some (0, 97, 2) := by decide +kernel
theorem i238_343 : ts_ins 238 343 = some (.aload_n 2, 344, 0) := by decide +kernel
theorem i238_344 : ts_ins 238 344 = some (.aload_n 0, 345, 0) := by decide +kernel
theorem i238_345 : ts_ins 238 345 = some (.iload_n 3, 346, 0) := by decide +kernel
theorem i238_346 : ts_ins 238 346 = some (.iconst 1, 347, 0) := by decide +kernel
theorem i238_347 : ts_ins 238 347 = some (.iadd, 348, 0) := by decide +kernel
theorem i238_348 : ts_ins 238 348 = some (.iaload, 349, 0) := by decide +kernel
theorem i238_349 : ts_ins 238 349 = some (.aload_n 0, 350, 0) := by decide +kernel
theorem i238_350 : ts_ins 238 350 = some (.iload_n 3, 351, 0) := by decide +kernel
theorem i238_351 : ts_ins 238 351 = some (.iconst 2, 352, 0) := by decide +kernel
theorem i238_352 : ts_ins 238 352 = some (.iadd, 353, 0) := by decide +kernel
theorem i238_353 : ts_ins 238 353 = some (.iaload, 354, 0) := by decide +kernel
theorem i238_354 : ts_ins 238 354 = some (.invokevirtual 31, 357, 0) := by decide +kernel
theorem g238_354 : ts_cal (ts_mc 238) 31 = some (0, 158, 2) := by decide +kernel
theorem i238_357 : ts_ins 238 357 = some (.if_icmp .eq 1115, 360, 1472) := by decide +kernel
theorem i238_360 : ts_ins 238 360 = some (.iconst 0, 361, 0) := by decide +kernel
theorem i238_361 : ts_ins 238 361 = some (.ireturn, 362, 0) := by decide +kernel
theorem i238_362 : ts_ins 238 362 = some (.aload_n 1, 363, 0) := by decide +kernel
theorem i238_363 : ts_ins 238 363 = some (.aload_n 0, 364, 0) := by decide +kernel
theorem i238_364 : ts_ins 238 364 = some (.iload_n 3, 365, 0) := by decide +kernel
theorem i238_365 : ts_ins 238 365 = some (.iconst 1, 366, 0) := by decide +kernel
theorem i238_366 : ts_ins 238 366 = some (.iadd, 367, 0) := by decide +kernel
theorem i238_367 : ts_ins 238 367 = some (.iaload, 368, 0) := by decide +kernel
theorem i238_368 : ts_ins 238 368 = some (.invokevirtual 32, 371, 0) := by decide +kernel
theorem g238_368 : ts_cal (ts_mc 238) 32 = some (0, 98, 1) := by decide +kernel
theorem i238_371 : ts_ins 238 371 = some (.aload_n 2, 372, 0) := by decide +kernel
theorem i238_372 : ts_ins 238 372 = some (.aload_n 0, 373, 0) := by decide +kernel
theorem i238_373 : ts_ins 238 373 = some (.iload_n 3, 374, 0) := by decide +kernel
theorem i238_374 : ts_ins 238 374 = some (.iconst 1, 375, 0) := by decide +kernel
theorem i238_375 : ts_ins 238 375 = some (.iadd, 376, 0) := by decide +kernel
theorem i238_376 : ts_ins 238 376 = some (.iaload, 377, 0) := by decide +kernel
theorem i238_377 : ts_ins 238 377 = some (.invokevirtual 35, 380, 0) := by decide +kernel
theorem g238_377 : ts_cal (ts_mc 238) 35 = some (0, 159, 1) := by decide +kernel
theorem i238_380 : ts_ins 238 380 = some (.if_icmp .eq 1092, 383, 1472) := by decide +kernel
theorem i238_383 : ts_ins 238 383 = some (.iconst 0, 384, 0) := by decide +kernel
theorem i238_384 : ts_ins 238 384 = some (.ireturn, 385, 0) := by decide +kernel
theorem i238_385 : ts_ins 238 385 = some (.aload_n 1, 386, 0) := by decide +kernel
theorem i238_386 : ts_ins 238 386 = some (.invokevirtual 36, 389, 0) := by decide +kernel
theorem g238_386 : ts_cal (ts_mc 238) 36 = some (0, 99, 0) := by decide +kernel
theorem i238_389 : ts_ins 238 389 = some (.aload_n 2, 390, 0) := by decide +kernel
theorem i238_390 : ts_ins 238 390 = some (.invokevirtual 40, 393, 0) := by decide +kernel
theorem g238_390 : ts_cal (ts_mc 238) 40 = some (0, 171, 0) := by decide +kernel
theorem i238_393 : ts_ins 238 393 = some (.if_icmp .eq 1079, 396, 1472) := by decide +kernel
theorem i238_396 : ts_ins 238 396 = some (.iconst 0, 397, 0) := by decide +kernel
theorem i238_397 : ts_ins 238 397 = some (.ireturn, 398, 0) := by decide +kernel
theorem i238_398 : ts_ins 238 398 = some (.aload_n 1, 399, 0) := by decide +kernel
theorem i238_399 : ts_ins 238 399 = some (.aload_n 0, 400, 0) := by decide +kernel
theorem i238_400 : ts_ins 238 400 = some (.iload_n 3, 401, 0) := by decide +kernel
theorem i238_401 : ts_ins 238 401 = some (.iconst 1, 402, 0) := by decide +kernel
theorem i238_402 : ts_ins 238 402 = some (.iadd, 403, 0) := by decide +kernel
theorem i238_403 : ts_ins 238 403 = some (.iaload, 404, 0) := by decide +kernel
theorem i238_404 : ts_ins 238 404 = some (.invokevirtual 41, 407, 0) := by decide +kernel
theorem g238_404 : ts_cal (ts_mc 238) 41 = some (0, 100, 1) := by decide +kernel
theorem i238_407 : ts_ins 238 407 = some (.aload_n 2, 408, 0) := by decide +kernel
theorem i238_408 : ts_ins 238 408 = some (.aload_n 0, 409, 0) := by decide +kernel
theorem i238_409 : ts_ins 238 409 = some (.iload_n 3, 410, 0) := by decide +kernel
theorem i238_410 : ts_ins 238 410 = some (.iconst 1, 411, 0) := by decide +kernel
theorem i238_411 : ts_ins 238 411 = some (.iadd, 412, 0) := by decide +kernel
theorem i238_412 : ts_ins 238 412 = some (.iaload, 413, 0) := by decide +kernel
theorem i238_413 : ts_ins 238 413 = some (.invokevirtual 44, 416, 0) := by decide +kernel
theorem g238_413 : ts_cal (ts_mc 238) 44 = some (0, 174, 1) := by decide +kernel
theorem i238_416 : ts_ins 238 416 = some (.if_icmp .eq 1056, 419, 1472) := by decide +kernel
theorem i238_419 : ts_ins 238 419 = some (.iconst 0, 420, 0) := by decide +kernel
theorem i238_420 : ts_ins 238 420 = some (.ireturn, 421, 0) := by decide +kernel
theorem i238_421 : ts_ins 238 421 = some (.aload_n 1, 422, 0) := by decide +kernel
theorem i238_422 : ts_ins 238 422 = some (.aload_n 0, 423, 0) := by decide +kernel
theorem i238_423 : ts_ins 238 423 = some (.iload_n 3, 424, 0) := by decide +kernel
theorem i238_424 : ts_ins 238 424 = some (.iconst 1, 425, 0) := by decide +kernel
theorem i238_425 : ts_ins 238 425 = some (.iadd, 426, 0) := by decide +kernel
theorem i238_426 : ts_ins 238 426 = some (.iaload, 427, 0) := by decide +kernel
theorem i238_427 : ts_ins 238 427 = some (.aload_n 0, 428, 0) := by decide +kernel
theorem i238_428 : ts_ins 238 428 = some (.iload_n 3, 429, 0) := by decide +kernel
theorem i238_429 : ts_ins 238 429 = some (.iconst 2, 430, 0) := by decide +kernel
theorem i238_430 : ts_ins 238 430 = some (.iadd, 431, 0) := by decide +kernel
theorem i238_431 : ts_ins 238 431 = some (.iaload, 432, 0) := by decide +kernel
theorem i238_432 : ts_ins 238 432 = some (.invokevirtual 45, 435, 0) := by decide +kernel
theorem g238_432 : ts_cal (ts_mc 238) 45 = some (0, 101, 2) := by decide +kernel
theorem i238_435 : ts_ins 238 435 = some (.aload_n 2, 436, 0) := by decide +kernel
theorem i238_436 : ts_ins 238 436 = some (.aload_n 0, 437, 0) := by decide +kernel
theorem i238_437 : ts_ins 238 437 = some (.iload_n 3, 438, 0) := by decide +kernel
theorem i238_438 : ts_ins 238 438 = some (.iconst 1, 439, 0) := by decide +kernel
theorem i238_439 : ts_ins 238 439 = some (.iadd, 440, 0) := by decide +kernel
theorem i238_440 : ts_ins 238 440 = some (.iaload, 441, 0) := by decide +kernel
theorem i238_441 : ts_ins 238 441 = some (.aload_n 0, 442, 0) := by decide +kernel
theorem i238_442 : ts_ins 238 442 = some (.iload_n 3, 443, 0) := by decide +kernel
theorem i238_443 : ts_ins 238 443 = some (.iconst 2, 444, 0) := by decide +kernel
theorem i238_444 : ts_ins 238 444 = some (.iadd, 445, 0) := by decide +kernel
theorem i238_445 : ts_ins 238 445 = some (.iaload, 446, 0) := by decide +kernel
theorem i238_446 : ts_ins 238 446 = some (.invokevirtual 48, 449, 0) := by decide +kernel
theorem g238_446 : ts_cal (ts_mc 238) 48 = some (0, 180, 2) := by decide +kernel
theorem i238_449 : ts_ins 238 449 = some (.if_icmp .eq 1023, 452, 1472) := by decide +kernel
theorem i238_452 : ts_ins 238 452 = some (.iconst 0, 453, 0) := by decide +kernel
theorem i238_453 : ts_ins 238 453 = some (.ireturn, 454, 0) := by decide +kernel
theorem i238_454 : ts_ins 238 454 = some (.aload_n 1, 455, 0) := by decide +kernel
theorem i238_455 : ts_ins 238 455 = some (.aload_n 0, 456, 0) := by decide +kernel
theorem i238_456 : ts_ins 238 456 = some (.iload_n 3, 457, 0) := by decide +kernel
theorem i238_457 : ts_ins 238 457 = some (.iconst 1, 458, 0) := by decide +kernel
theorem i238_458 : ts_ins 238 458 = some (.iadd, 459, 0) := by decide +kernel
theorem i238_459 : ts_ins 238 459 = some (.iaload, 460, 0) := by decide +kernel
theorem i238_460 : ts_ins 238 460 = some (.aload_n 0, 461, 0) := by decide +kernel
theorem i238_461 : ts_ins 238 461 = some (.iload_n 3, 462, 0) := by decide +kernel
theorem i238_462 : ts_ins 238 462 = some (.iconst 2, 463, 0) := by decide +kernel
theorem i238_463 : ts_ins 238 463 = some (.iadd, 464, 0) := by decide +kernel
theorem i238_464 : ts_ins 238 464 = some (.iaload, 465, 0) := by decide +kernel
theorem i238_465 : ts_ins 238 465 = some (.invokevirtual 49, 468, 0) := by decide +kernel
theorem g238_465 : ts_cal (ts_mc 238) 49 = some (0, 102, 2) := by decide +kernel
theorem i238_468 : ts_ins 238 468 = some (.aload_n 2, 469, 0) := by decide +kernel
theorem i238_469 : ts_ins 238 469 = some (.aload_n 0, 470, 0) := by decide +kernel
theorem i238_470 : ts_ins 238 470 = some (.iload_n 3, 471, 0) := by decide +kernel
theorem i238_471 : ts_ins 238 471 = some (.iconst 1, 472, 0) := by decide +kernel
theorem i238_472 : ts_ins 238 472 = some (.iadd, 473, 0) := by decide +kernel
theorem i238_473 : ts_ins 238 473 = some (.iaload, 474, 0) := by decide +kernel
theorem i238_474 : ts_ins 238 474 = some (.aload_n 0, 475, 0) := by decide +kernel
theorem i238_475 : ts_ins 238 475 = some (.iload_n 3, 476, 0) := by decide +kernel
theorem i238_476 : ts_ins 238 476 = some (.iconst 2, 477, 0) := by decide +kernel
theorem i238_477 : ts_ins 238 477 = some (.iadd, 478, 0) := by decide +kernel
theorem i238_478 : ts_ins 238 478 = some (.iaload, 479, 0) := by decide +kernel
theorem i238_479 : ts_ins 238 479 = some (.invokevirtual 52, 482, 0) := by decide +kernel
theorem g238_479 : ts_cal (ts_mc 238) 52 = some (0, 181, 2) := by decide +kernel
theorem i238_482 : ts_ins 238 482 = some (.if_icmp .eq 990, 485, 1472) := by decide +kernel
theorem i238_485 : ts_ins 238 485 = some (.iconst 0, 486, 0) := by decide +kernel
theorem i238_486 : ts_ins 238 486 = some (.ireturn, 487, 0) := by decide +kernel
theorem i238_487 : ts_ins 238 487 = some (.aload_n 1, 488, 0) := by decide +kernel
theorem i238_488 : ts_ins 238 488 = some (.aload_n 0, 489, 0) := by decide +kernel
theorem i238_489 : ts_ins 238 489 = some (.iload_n 3, 490, 0) := by decide +kernel
theorem i238_490 : ts_ins 238 490 = some (.iconst 1, 491, 0) := by decide +kernel
theorem i238_491 : ts_ins 238 491 = some (.iadd, 492, 0) := by decide +kernel
theorem i238_492 : ts_ins 238 492 = some (.iaload, 493, 0) := by decide +kernel
theorem i238_493 : ts_ins 238 493 = some (.aload_n 0, 494, 0) := by decide +kernel
theorem i238_494 : ts_ins 238 494 = some (.iload_n 3, 495, 0) := by decide +kernel
theorem i238_495 : ts_ins 238 495 = some (.iconst 2, 496, 0) := by decide +kernel
theorem i238_496 : ts_ins 238 496 = some (.iadd, 497, 0) := by decide +kernel
theorem i238_497 : ts_ins 238 497 = some (.iaload, 498, 0) := by decide +kernel
theorem i238_498 : ts_ins 238 498 = some (.aload_n 0, 499, 0) := by decide +kernel
theorem i238_499 : ts_ins 238 499 = some (.iload_n 3, 500, 0) := by decide +kernel
theorem i238_500 : ts_ins 238 500 = some (.iconst 3, 501, 0) := by decide +kernel
theorem i238_501 : ts_ins 238 501 = some (.iadd, 502, 0) := by decide +kernel
theorem i238_502 : ts_ins 238 502 = some (.iaload, 503, 0) := by decide +kernel
theorem i238_503 : ts_ins 238 503 = some (.invokevirtual 53, 506, 0) := by decide +kernel
theorem g238_503 : ts_cal (ts_mc 238) 53 = some (0, 103, 3) := by decide +kernel
theorem i238_506 : ts_ins 238 506 = some (.aload_n 2, 507, 0) := by decide +kernel
theorem i238_507 : ts_ins 238 507 = some (.aload_n 0, 508, 0) := by decide +kernel
theorem i238_508 : ts_ins 238 508 = some (.iload_n 3, 509, 0) := by decide +kernel
theorem i238_509 : ts_ins 238 509 = some (.iconst 1, 510, 0) := by decide +kernel
theorem i238_510 : ts_ins 238 510 = some (.iadd, 511, 0) := by decide +kernel
theorem i238_511 : ts_ins 238 511 = some (.iaload, 512, 0) := by decide +kernel
theorem i238_512 : ts_ins 238 512 = some (.aload_n 0, 513, 0) := by decide +kernel
theorem i238_513 : ts_ins 238 513 = some (.iload_n 3, 514, 0) := by decide +kernel
theorem i238_514 : ts_ins 238 514 = some (.iconst 2, 515, 0) := by decide +kernel
theorem i238_515 : ts_ins 238 515 = some (.iadd, 516, 0) := by decide +kernel
theorem i238_516 : ts_ins 238 516 = some (.iaload, 517, 0) := by decide +kernel
theorem i238_517 : ts_ins 238 517 = some (.aload_n 0, 518, 0) := by decide +kernel
theorem i238_518 : ts_ins 238 518 = some (.iload_n 3, 519, 0) := by decide +kernel
theorem i238_519 : ts_ins 238 519 = some (.iconst 3, 520, 0) := by decide +kernel
theorem i238_520 : ts_ins 238 520 = some (.iadd, 521, 0) := by decide +kernel
theorem i238_521 : ts_ins 238 521 = some (.iaload, 522, 0) := by decide +kernel
theorem i238_522 : ts_ins 238 522 = some (.invokevirtual 56, 525, 0) := by decide +kernel
theorem g238_522 : ts_cal (ts_mc 238) 56 = some (0, 182, 3) := by decide +kernel
theorem i238_525 : ts_ins 238 525 = some (.if_icmp .eq 947, 528, 1472) := by decide +kernel
theorem i238_528 : ts_ins 238 528 = some (.iconst 0, 529, 0) := by decide +kernel
theorem i238_529 : ts_ins 238 529 = some (.ireturn, 530, 0) := by decide +kernel
theorem i238_530 : ts_ins 238 530 = some (.aload_n 1, 531, 0) := by decide +kernel
theorem i238_531 : ts_ins 238 531 = some (.aload_n 0, 532, 0) := by decide +kernel
theorem i238_532 : ts_ins 238 532 = some (.iload_n 3, 533, 0) := by decide +kernel
theorem i238_533 : ts_ins 238 533 = some (.iconst 1, 534, 0) := by decide +kernel
theorem i238_534 : ts_ins 238 534 = some (.iadd, 535, 0) := by decide +kernel
theorem i238_535 : ts_ins 238 535 = some (.iaload, 536, 0) := by decide +kernel
theorem i238_536 : ts_ins 238 536 = some (.aload_n 0, 537, 0) := by decide +kernel
theorem i238_537 : ts_ins 238 537 = some (.iload_n 3, 538, 0) := by decide +kernel
theorem i238_538 : ts_ins 238 538 = some (.iconst 2, 539, 0) := by decide +kernel
theorem i238_539 : ts_ins 238 539 = some (.iadd, 540, 0) := by decide +kernel
theorem i238_540 : ts_ins 238 540 = some (.iaload, 541, 0) := by decide +kernel
theorem i238_541 : ts_ins 238 541 = some (.invokevirtual 57, 544, 0) := by decide +kernel
theorem g238_541 : ts_cal (ts_mc 238) 57 = some (0, 104, 2) := by decide +kernel
theorem i238_544 : ts_ins 238 544 = some (.aload_n 2, 545, 0) := by decide +kernel
theorem i238_545 : ts_ins 238 545 = some (.aload_n 0, 546, 0) := by decide +kernel
theorem i238_546 : ts_ins 238 546 = some (.iload_n 3, 547, 0) := by decide +kernel
theorem i238_547 : ts_ins 238 547 = some (.iconst 1, 548, 0) := by decide +kernel
theorem i238_548 : ts_ins 238 548 = some (.iadd, 549, 0) := by decide +kernel
theorem i238_549 : ts_ins 238 549 = some (.iaload, 550, 0) := by decide +kernel
theorem i238_550 : ts_ins 238 550 = some (.aload_n 0, 551, 0) := by decide +kernel
theorem i238_551 : ts_ins 238 551 = some (.iload_n 3, 552, 0) := by decide +kernel
theorem i238_552 : ts_ins 238 552 = some (.iconst 2, 553, 0) := by decide +kernel
theorem i238_553 : ts_ins 238 553 = some (.iadd, 554, 0) := by decide +kernel
theorem i238_554 : ts_ins 238 554 = some (.iaload, 555, 0) := by decide +kernel
theorem i238_555 : ts_ins 238 555 = some (.invokevirtual 60, 558, 0) := by decide +kernel
theorem g238_555 : ts_cal (ts_mc 238) 60 = some (0, 184, 2) := by decide +kernel
theorem i238_558 : ts_ins 238 558 = some (.if_icmp .eq 914, 561, 1472) := by decide +kernel
theorem i238_561 : ts_ins 238 561 = some (.iconst 0, 562, 0) := by decide +kernel
theorem i238_562 : ts_ins 238 562 = some (.ireturn, 563, 0) := by decide +kernel
theorem i238_563 : ts_ins 238 563 = some (.aload_n 1, 564, 0) := by decide +kernel
theorem i238_564 : ts_ins 238 564 = some (.invokevirtual 61, 567, 0) := by decide +kernel
theorem g238_564 : ts_cal (ts_mc 238) 61 = some (0, 105, 0) := by decide +kernel
theorem i238_567 : ts_ins 238 567 = some (.aload_n 2, 568, 0) := by decide +kernel
theorem i238_568 : ts_ins 238 568 = some (.invokevirtual 64, 571, 0) := by decide +kernel
theorem g238_568 : ts_cal (ts_mc 238) 64 = some (0, 185, 0) := by decide +kernel
theorem i238_571 : ts_ins 238 571 = some (.if_icmp .eq 901, 574, 1472) := by decide +kernel
theorem i238_574 : ts_ins 238 574 = some (.iconst 0, 575, 0) := by decide +kernel
theorem i238_575 : ts_ins 238 575 = some (.ireturn, 576, 0) := by decide +kernel
theorem i238_576 : ts_ins 238 576 = some (.aload_n 1, 577, 0) := by decide +kernel
theorem i238_577 : ts_ins 238 577 = some (.aload_n 0, 578, 0) := by decide +kernel
theorem i238_578 : ts_ins 238 578 = some (.iload_n 3, 579, 0) := by decide +kernel
theorem i238_579 : ts_ins 238 579 = some (.iconst 1, 580, 0) := by decide +kernel
theorem i238_580 : ts_ins 238 580 = some (.iadd, 581, 0) := by decide +kernel
theorem i238_581 : ts_ins 238 581 = some (.iaload, 582, 0) := by decide +kernel
theorem i238_582 : ts_ins 238 582 = some (.invokevirtual 65, 585, 0) := by decide +kernel
theorem g238_582 : ts_cal (ts_mc 238) 65 = some (0, 106, 1) := by decide +kernel
theorem i238_585 : ts_ins 238 585 = some (.aload_n 2, 586, 0) := by decide +kernel
theorem i238_586 : ts_ins 238 586 = some (.aload_n 0, 587, 0) := by decide +kernel
theorem i238_587 : ts_ins 238 587 = some (.iload_n 3, 588, 0) := by decide +kernel
theorem i238_588 : ts_ins 238 588 = some (.iconst 1, 589, 0) := by decide +kernel
theorem i238_589 : ts_ins 238 589 = some (.iadd, 590, 0) := by decide +kernel
theorem i238_590 : ts_ins 238 590 = some (.iaload, 591, 0) := by decide +kernel
theorem i238_591 : ts_ins 238 591 = some (.invokevirtual 69, 594, 0) := by decide +kernel
theorem g238_591 : ts_cal (ts_mc 238) 69 = some (0, 187, 1) := by decide +kernel
theorem i238_594 : ts_ins 238 594 = some (.lcmp, 595, 0) := by decide +kernel
theorem i238_595 : ts_ins 238 595 = some (.ifCond .eq 877, 598, 1472) := by decide +kernel
theorem i238_598 : ts_ins 238 598 = some (.iconst 0, 599, 0) := by decide +kernel
theorem i238_599 : ts_ins 238 599 = some (.ireturn, 600, 0) := by decide +kernel
theorem i238_600 : ts_ins 238 600 = some (.aload_n 1, 601, 0) := by decide +kernel
theorem i238_601 : ts_ins 238 601 = some (.invokevirtual 70, 604, 0) := by decide +kernel
theorem g238_601 : ts_cal (ts_mc 238) 70 = some (0, 107, 0) := by decide +kernel
theorem i238_604 : ts_ins 238 604 = some (.aload_n 2, 605, 0) := by decide +kernel
theorem i238_605 : ts_ins 238 605 = some (.invokevirtual 73, 608, 0) := by decide +kernel
theorem g238_605 : ts_cal (ts_mc 238) 73 = some (0, 189, 0) := by decide +kernel
theorem i238_608 : ts_ins 238 608 = some (.if_icmp .eq 864, 611, 1472) := by decide +kernel
theorem i238_611 : ts_ins 238 611 = some (.iconst 0, 612, 0) := by decide +kernel
theorem i238_612 : ts_ins 238 612 = some (.ireturn, 613, 0) := by decide +kernel
theorem i238_613 : ts_ins 238 613 = some (.aload_n 1, 614, 0) := by decide +kernel
theorem i238_614 : ts_ins 238 614 = some (.aload_n 0, 615, 0) := by decide +kernel
theorem i238_615 : ts_ins 238 615 = some (.iload_n 3, 616, 0) := by decide +kernel
theorem i238_616 : ts_ins 238 616 = some (.iconst 1, 617, 0) := by decide +kernel
theorem i238_617 : ts_ins 238 617 = some (.iadd, 618, 0) := by decide +kernel
theorem i238_618 : ts_ins 238 618 = some (.iaload, 619, 0) := by decide +kernel
theorem i238_619 : ts_ins 238 619 = some (.invokevirtual 74, 622, 0) := by decide +kernel
theorem g238_619 : ts_cal (ts_mc 238) 74 = some (0, 108, 1) := by decide +kernel
theorem i238_622 : ts_ins 238 622 = some (.aload_n 2, 623, 0) := by decide +kernel
theorem i238_623 : ts_ins 238 623 = some (.aload_n 0, 624, 0) := by decide +kernel
theorem i238_624 : ts_ins 238 624 = some (.iload_n 3, 625, 0) := by decide +kernel
theorem i238_625 : ts_ins 238 625 = some (.iconst 1, 626, 0) := by decide +kernel
theorem i238_626 : ts_ins 238 626 = some (.iadd, 627, 0) := by decide +kernel
theorem i238_627 : ts_ins 238 627 = some (.iaload, 628, 0) := by decide +kernel
theorem i238_628 : ts_ins 238 628 = some (.invokevirtual 77, 631, 0) := by decide +kernel
theorem g238_628 : ts_cal (ts_mc 238) 77 = some (0, 190, 1) := by decide +kernel
theorem i238_631 : ts_ins 238 631 = some (.if_icmp .eq 841, 634, 1472) := by decide +kernel
theorem i238_634 : ts_ins 238 634 = some (.iconst 0, 635, 0) := by decide +kernel
theorem i238_635 : ts_ins 238 635 = some (.ireturn, 636, 0) := by decide +kernel
theorem i238_636 : ts_ins 238 636 = some (.aload_n 1, 637, 0) := by decide +kernel
theorem i238_637 : ts_ins 238 637 = some (.aload_n 0, 638, 0) := by decide +kernel
theorem i238_638 : ts_ins 238 638 = some (.iload_n 3, 639, 0) := by decide +kernel
theorem i238_639 : ts_ins 238 639 = some (.iconst 1, 640, 0) := by decide +kernel
theorem i238_640 : ts_ins 238 640 = some (.iadd, 641, 0) := by decide +kernel
theorem i238_641 : ts_ins 238 641 = some (.iaload, 642, 0) := by decide +kernel
theorem i238_642 : ts_ins 238 642 = some (.aload_n 0, 643, 0) := by decide +kernel
theorem i238_643 : ts_ins 238 643 = some (.iload_n 3, 644, 0) := by decide +kernel
theorem i238_644 : ts_ins 238 644 = some (.iconst 2, 645, 0) := by decide +kernel
theorem i238_645 : ts_ins 238 645 = some (.iadd, 646, 0) := by decide +kernel
theorem i238_646 : ts_ins 238 646 = some (.iaload, 647, 0) := by decide +kernel
theorem i238_647 : ts_ins 238 647 = some (.invokevirtual 78, 650, 0) := by decide +kernel
theorem g238_647 : ts_cal (ts_mc 238) 78 = some (0, 109, 2) := by decide +kernel
theorem i238_650 : ts_ins 238 650 = some (.aload_n 2, 651, 0) := by decide +kernel
theorem i238_651 : ts_ins 238 651 = some (.aload_n 0, 652, 0) := by decide +kernel
theorem i238_652 : ts_ins 238 652 = some (.iload_n 3, 653, 0) := by decide +kernel
theorem i238_653 : ts_ins 238 653 = some (.iconst 1, 654, 0) := by decide +kernel
theorem i238_654 : ts_ins 238 654 = some (.iadd, 655, 0) := by decide +kernel
theorem i238_655 : ts_ins 238 655 = some (.iaload, 656, 0) := by decide +kernel
theorem i238_656 : ts_ins 238 656 = some (.aload_n 0, 657, 0) := by decide +kernel
theorem i238_657 : ts_ins 238 657 = some (.iload_n 3, 658, 0) := by decide +kernel
theorem i238_658 : ts_ins 238 658 = some (.iconst 2, 659, 0) := by decide +kernel
theorem i238_659 : ts_ins 238 659 = some (.iadd, 660, 0) := by decide +kernel
theorem i238_660 : ts_ins 238 660 = some (.iaload, 661, 0) := by decide +kernel
theorem i238_661 : ts_ins 238 661 = some (.invokevirtual 81, 664, 0) := by decide +kernel
theorem g238_661 : ts_cal (ts_mc 238) 81 = some (0, 195, 2) := by decide +kernel
theorem i238_664 : ts_ins 238 664 = some (.if_icmp .eq 808, 667, 1472) := by decide +kernel
theorem i238_667 : ts_ins 238 667 = some (.iconst 0, 668, 0) := by decide +kernel
theorem i238_668 : ts_ins 238 668 = some (.ireturn, 669, 0) := by decide +kernel
theorem i238_669 : ts_ins 238 669 = some (.aload_n 1, 670, 0) := by decide +kernel
theorem i238_670 : ts_ins 238 670 = some (.aload_n 0, 671, 0) := by decide +kernel
theorem i238_671 : ts_ins 238 671 = some (.iload_n 3, 672, 0) := by decide +kernel
theorem i238_672 : ts_ins 238 672 = some (.iconst 1, 673, 0) := by decide +kernel
theorem i238_673 : ts_ins 238 673 = some (.iadd, 674, 0) := by decide +kernel
theorem i238_674 : ts_ins 238 674 = some (.iaload, 675, 0) := by decide +kernel
theorem i238_675 : ts_ins 238 675 = some (.aload_n 0, 676, 0) := by decide +kernel
theorem i238_676 : ts_ins 238 676 = some (.iload_n 3, 677, 0) := by decide +kernel
theorem i238_677 : ts_ins 238 677 = some (.iconst 2, 678, 0) := by decide +kernel
theorem i238_678 : ts_ins 238 678 = some (.iadd, 679, 0) := by decide +kernel
theorem i238_679 : ts_ins 238 679 = some (.iaload, 680, 0) := by decide +kernel
theorem i238_680 : ts_ins 238 680 = some (.aload_n 0, 681, 0) := by decide +kernel
theorem i238_681 : ts_ins 238 681 = some (.iload_n 3, 682, 0) := by decide +kernel
theorem i238_682 : ts_ins 238 682 = some (.iconst 3, 683, 0) := by decide +kernel
theorem i238_683 : ts_ins 238 683 = some (.iadd, 684, 0) := by decide +kernel
theorem i238_684 : ts_ins 238 684 = some (.iaload, 685, 0) := by decide +kernel
theorem i238_685 : ts_ins 238 685 = some (.invokevirtual 82, 688, 0) := by decide +kernel
theorem g238_685 : ts_cal (ts_mc 238) 82 = some (0, 110, 3) := by decide +kernel
theorem i238_688 : ts_ins 238 688 = some (.aload_n 2, 689, 0) := by decide +kernel
theorem i238_689 : ts_ins 238 689 = some (.aload_n 0, 690, 0) := by decide +kernel
theorem i238_690 : ts_ins 238 690 = some (.iload_n 3, 691, 0) := by decide +kernel
theorem i238_691 : ts_ins 238 691 = some (.iconst 1, 692, 0) := by decide +kernel
theorem i238_692 : ts_ins 238 692 = some (.iadd, 693, 0) := by decide +kernel
theorem i238_693 : ts_ins 238 693 = some (.iaload, 694, 0) := by decide +kernel
theorem i238_694 : ts_ins 238 694 = some (.aload_n 0, 695, 0) := by decide +kernel
theorem i238_695 : ts_ins 238 695 = some (.iload_n 3, 696, 0) := by decide +kernel
theorem i238_696 : ts_ins 238 696 = some (.iconst 2, 697, 0) := by decide +kernel
theorem i238_697 : ts_ins 238 697 = some (.iadd, 698, 0) := by decide +kernel
theorem i238_698 : ts_ins 238 698 = some (.iaload, 699, 0) := by decide +kernel
theorem i238_699 : ts_ins 238 699 = some (.aload_n 0, 700, 0) := by decide +kernel
theorem i238_700 : ts_ins 238 700 = some (.iload_n 3, 701, 0) := by decide +kernel
theorem i238_701 : ts_ins 238 701 = some (.iconst 3, 702, 0) := by decide +kernel
theorem i238_702 : ts_ins 238 702 = some (.iadd, 703, 0) := by decide +kernel
theorem i238_703 : ts_ins 238 703 = some (.iaload, 704, 0) := by decide +kernel
theorem i238_704 : ts_ins 238 704 = some (.invokevirtual 86, 707, 0) := by decide +kernel
theorem g238_704 : ts_cal (ts_mc 238) 86 = some (0, 198, 3) := by decide +kernel
theorem i238_707 : ts_ins 238 707 = some (.lcmp, 708, 0) := by decide +kernel
theorem i238_708 : ts_ins 238 708 = some (.ifCond .eq 764, 711, 1472) := by decide +kernel
theorem i238_711 : ts_ins 238 711 = some (.iconst 0, 712, 0) := by decide +kernel
theorem i238_712 : ts_ins 238 712 = some (.ireturn, 713, 0) := by decide +kernel
theorem i238_713 : ts_ins 238 713 = some (.aload_n 1, 714, 0) := by decide +kernel
theorem i238_714 : ts_ins 238 714 = some (.aload_n 0, 715, 0) := by decide +kernel
theorem i238_715 : ts_ins 238 715 = some (.iload_n 3, 716, 0) := by decide +kernel
theorem i238_716 : ts_ins 238 716 = some (.iconst 1, 717, 0) := by decide +kernel
theorem i238_717 : ts_ins 238 717 = some (.iadd, 718, 0) := by decide +kernel
theorem i238_718 : ts_ins 238 718 = some (.iaload, 719, 0) := by decide +kernel
theorem i238_719 : ts_ins 238 719 = some (.aload_n 0, 720, 0) := by decide +kernel
theorem i238_720 : ts_ins 238 720 = some (.iload_n 3, 721, 0) := by decide +kernel
theorem i238_721 : ts_ins 238 721 = some (.iconst 2, 722, 0) := by decide +kernel
theorem i238_722 : ts_ins 238 722 = some (.iadd, 723, 0) := by decide +kernel
theorem i238_723 : ts_ins 238 723 = some (.iaload, 724, 0) := by decide +kernel
theorem i238_724 : ts_ins 238 724 = some (.invokevirtual 87, 727, 0) := by decide +kernel
theorem g238_724 : ts_cal (ts_mc 238) 87 = some (0, 111, 2) := by decide +kernel
theorem i238_727 : ts_ins 238 727 = some (.aload_n 2, 728, 0) := by decide +kernel
theorem i238_728 : ts_ins 238 728 = some (.aload_n 0, 729, 0) := by decide +kernel
theorem i238_729 : ts_ins 238 729 = some (.iload_n 3, 730, 0) := by decide +kernel
theorem i238_730 : ts_ins 238 730 = some (.iconst 1, 731, 0) := by decide +kernel
theorem i238_731 : ts_ins 238 731 = some (.iadd, 732, 0) := by decide +kernel
theorem i238_732 : ts_ins 238 732 = some (.iaload, 733, 0) := by decide +kernel
theorem i238_733 : ts_ins 238 733 = some (.aload_n 0, 734, 0) := by decide +kernel
theorem i238_734 : ts_ins 238 734 = some (.iload_n 3, 735, 0) := by decide +kernel
theorem i238_735 : ts_ins 238 735 = some (.iconst 2, 736, 0) := by decide +kernel
theorem i238_736 : ts_ins 238 736 = some (.iadd, 737, 0) := by decide +kernel
theorem i238_737 : ts_ins 238 737 = some (.iaload, 738, 0) := by decide +kernel
theorem i238_738 : ts_ins 238 738 = some (.invokevirtual 90, 741, 0) := by decide +kernel
theorem g238_738 : ts_cal (ts_mc 238) 90 = some (0, 199, 2) := by decide +kernel
theorem i238_741 : ts_ins 238 741 = some (.if_icmp .eq 731, 744, 1472) := by decide +kernel
theorem i238_744 : ts_ins 238 744 = some (.iconst 0, 745, 0) := by decide +kernel
theorem i238_745 : ts_ins 238 745 = some (.ireturn, 746, 0) := by decide +kernel
theorem i238_746 : ts_ins 238 746 = some (.aload_n 1, 747, 0) := by decide +kernel
theorem i238_747 : ts_ins 238 747 = some (.aload_n 0, 748, 0) := by decide +kernel
theorem i238_748 : ts_ins 238 748 = some (.iload_n 3, 749, 0) := by decide +kernel
theorem i238_749 : ts_ins 238 749 = some (.iconst 1, 750, 0) := by decide +kernel
theorem i238_750 : ts_ins 238 750 = some (.iadd, 751, 0) := by decide +kernel
theorem i238_751 : ts_ins 238 751 = some (.iaload, 752, 0) := by decide +kernel
theorem i238_752 : ts_ins 238 752 = some (.invokevirtual 91, 755, 0) := by decide +kernel
theorem g238_752 : ts_cal (ts_mc 238) 91 = some (0, 112, 1) := by decide +kernel
theorem i238_755 : ts_ins 238 755 = some (.aload_n 2, 756, 0) := by decide +kernel
theorem i238_756 : ts_ins 238 756 = some (.aload_n 0, 757, 0) := by decide +kernel
theorem i238_757 : ts_ins 238 757 = some (.iload_n 3, 758, 0) := by decide +kernel
theorem i238_758 : ts_ins 238 758 = some (.iconst 1, 759, 0) := by decide +kernel
theorem i238_759 : ts_ins 238 759 = some (.iadd, 760, 0) := by decide +kernel
theorem i238_760 : ts_ins 238 760 = some (.iaload, 761, 0) := by decide +kernel
theorem i238_761 : ts_ins 238 761 = some (.invokevirtual 94, 764, 0) := by decide +kernel
theorem g238_761 : ts_cal (ts_mc 238) 94 = some (0, 201, 1) := by decide +kernel
theorem i238_764 : ts_ins 238 764 = some (.if_icmp .eq 708, 767, 1472) := by decide +kernel
theorem i238_767 : ts_ins 238 767 = some (.iconst 0, 768, 0) := by decide +kernel
theorem i238_768 : ts_ins 238 768 = some (.ireturn, 769, 0) := by decide +kernel
theorem i238_769 : ts_ins 238 769 = some (.aload_n 1, 770, 0) := by decide +kernel
theorem i238_770 : ts_ins 238 770 = some (.invokevirtual 95, 773, 0) := by decide +kernel
theorem g238_770 : ts_cal (ts_mc 238) 95 = some (0, 113, 0) := by decide +kernel
theorem i238_773 : ts_ins 238 773 = some (.aload_n 2, 774, 0) := by decide +kernel
theorem i238_774 : ts_ins 238 774 = some (.invokevirtual 98, 777, 0) := by decide +kernel
theorem g238_774 : ts_cal (ts_mc 238) 98 = some (0, 202, 0) := by decide +kernel
theorem i238_777 : ts_ins 238 777 = some (.if_icmp .eq 695, 780, 1472) := by decide +kernel
theorem i238_780 : ts_ins 238 780 = some (.iconst 0, 781, 0) := by decide +kernel
theorem i238_781 : ts_ins 238 781 = some (.ireturn, 782, 0) := by decide +kernel
theorem i238_782 : ts_ins 238 782 = some (.aload_n 1, 783, 0) := by decide +kernel
theorem i238_783 : ts_ins 238 783 = some (.aload_n 0, 784, 0) := by decide +kernel
theorem i238_784 : ts_ins 238 784 = some (.iload_n 3, 785, 0) := by decide +kernel
theorem i238_785 : ts_ins 238 785 = some (.iconst 1, 786, 0) := by decide +kernel
theorem i238_786 : ts_ins 238 786 = some (.iadd, 787, 0) := by decide +kernel
theorem i238_787 : ts_ins 238 787 = some (.iaload, 788, 0) := by decide +kernel
theorem i238_788 : ts_ins 238 788 = some (.invokevirtual 99, 791, 0) := by decide +kernel
theorem g238_788 : ts_cal (ts_mc 238) 99 = some (0, 114, 1) := by decide +kernel
theorem i238_791 : ts_ins 238 791 = some (.aload_n 2, 792, 0) := by decide +kernel
theorem i238_792 : ts_ins 238 792 = some (.aload_n 0, 793, 0) := by decide +kernel
theorem i238_793 : ts_ins 238 793 = some (.iload_n 3, 794, 0) := by decide +kernel
theorem i238_794 : ts_ins 238 794 = some (.iconst 1, 795, 0) := by decide +kernel
theorem i238_795 : ts_ins 238 795 = some (.iadd, 796, 0) := by decide +kernel
theorem i238_796 : ts_ins 238 796 = some (.iaload, 797, 0) := by decide +kernel
theorem i238_797 : ts_ins 238 797 = some (.invokevirtual 102, 800, 0) := by decide +kernel
theorem g238_797 : ts_cal (ts_mc 238) 102 = some (0, 203, 1) := by decide +kernel
theorem i238_800 : ts_ins 238 800 = some (.if_icmp .eq 672, 803, 1472) := by decide +kernel
theorem i238_803 : ts_ins 238 803 = some (.iconst 0, 804, 0) := by decide +kernel
theorem i238_804 : ts_ins 238 804 = some (.ireturn, 805, 0) := by decide +kernel
theorem i238_805 : ts_ins 238 805 = some (.aload_n 1, 806, 0) := by decide +kernel
theorem i238_806 : ts_ins 238 806 = some (.aload_n 0, 807, 0) := by decide +kernel
theorem i238_807 : ts_ins 238 807 = some (.iload_n 3, 808, 0) := by decide +kernel
theorem i238_808 : ts_ins 238 808 = some (.iconst 1, 809, 0) := by decide +kernel
theorem i238_809 : ts_ins 238 809 = some (.iadd, 810, 0) := by decide +kernel
theorem i238_810 : ts_ins 238 810 = some (.iaload, 811, 0) := by decide +kernel
theorem i238_811 : ts_ins 238 811 = some (.invokevirtual 103, 814, 0) := by decide +kernel
theorem g238_811 : ts_cal (ts_mc 238) 103 = some (0, 115, 1) := by decide +kernel
theorem i238_814 : ts_ins 238 814 = some (.aload_n 2, 815, 0) := by decide +kernel
theorem i238_815 : ts_ins 238 815 = some (.aload_n 0, 816, 0) := by decide +kernel
theorem i238_816 : ts_ins 238 816 = some (.iload_n 3, 817, 0) := by decide +kernel
theorem i238_817 : ts_ins 238 817 = some (.iconst 1, 818, 0) := by decide +kernel
theorem i238_818 : ts_ins 238 818 = some (.iadd, 819, 0) := by decide +kernel
theorem i238_819 : ts_ins 238 819 = some (.iaload, 820, 0) := by decide +kernel
theorem i238_820 : ts_ins 238 820 = some (.invokevirtual 106, 823, 0) := by decide +kernel
theorem g238_820 : ts_cal (ts_mc 238) 106 = some (0, 205, 1) := by decide +kernel
theorem i238_823 : ts_ins 238 823 = some (.if_icmp .eq 649, 826, 1472) := by decide +kernel
theorem i238_826 : ts_ins 238 826 = some (.iconst 0, 827, 0) := by decide +kernel
theorem i238_827 : ts_ins 238 827 = some (.ireturn, 828, 0) := by decide +kernel
theorem i238_828 : ts_ins 238 828 = some (.aload_n 1, 829, 0) := by decide +kernel
theorem i238_829 : ts_ins 238 829 = some (.aload_n 0, 830, 0) := by decide +kernel
theorem i238_830 : ts_ins 238 830 = some (.iload_n 3, 831, 0) := by decide +kernel
theorem i238_831 : ts_ins 238 831 = some (.iconst 1, 832, 0) := by decide +kernel
theorem i238_832 : ts_ins 238 832 = some (.iadd, 833, 0) := by decide +kernel
theorem i238_833 : ts_ins 238 833 = some (.iaload, 834, 0) := by decide +kernel
theorem i238_834 : ts_ins 238 834 = some (.invokevirtual 107, 837, 0) := by decide +kernel
theorem g238_834 : ts_cal (ts_mc 238) 107 = some (0, 116, 1) := by decide +kernel
theorem i238_837 : ts_ins 238 837 = some (.aload_n 2, 838, 0) := by decide +kernel
theorem i238_838 : ts_ins 238 838 = some (.aload_n 0, 839, 0) := by decide +kernel
theorem i238_839 : ts_ins 238 839 = some (.iload_n 3, 840, 0) := by decide +kernel
theorem i238_840 : ts_ins 238 840 = some (.iconst 1, 841, 0) := by decide +kernel
theorem i238_841 : ts_ins 238 841 = some (.iadd, 842, 0) := by decide +kernel
theorem i238_842 : ts_ins 238 842 = some (.iaload, 843, 0) := by decide +kernel
theorem i238_843 : ts_ins 238 843 = some (.invokevirtual 110, 846, 0) := by decide +kernel
theorem g238_843 : ts_cal (ts_mc 238) 110 = some (0, 207, 1) := by decide +kernel
theorem i238_846 : ts_ins 238 846 = some (.if_icmp .eq 626, 849, 1472) := by decide +kernel
theorem i238_849 : ts_ins 238 849 = some (.iconst 0, 850, 0) := by decide +kernel
theorem i238_850 : ts_ins 238 850 = some (.ireturn, 851, 0) := by decide +kernel
theorem i238_851 : ts_ins 238 851 = some (.aload_n 1, 852, 0) := by decide +kernel
theorem i238_852 : ts_ins 238 852 = some (.invokevirtual 111, 855, 0) := by decide +kernel
theorem g238_852 : ts_cal (ts_mc 238) 111 = some (0, 117, 0) := by decide +kernel
theorem i238_855 : ts_ins 238 855 = some (.aload_n 2, 856, 0) := by decide +kernel
theorem i238_856 : ts_ins 238 856 = some (.invokevirtual 114, 859, 0) := by decide +kernel
theorem g238_856 : ts_cal (ts_mc 238) 114 = some (0, 208, 0) := by decide +kernel
theorem i238_859 : ts_ins 238 859 = some (.if_icmp .eq 613, 862, 1472) := by decide +kernel
theorem i238_862 : ts_ins 238 862 = some (.iconst 0, 863, 0) := by decide +kernel
theorem i238_863 : ts_ins 238 863 = some (.ireturn, 864, 0) := by decide +kernel
theorem i238_864 : ts_ins 238 864 = some (.aload_n 1, 865, 0) := by decide +kernel
theorem i238_865 : ts_ins 238 865 = some (.aload_n 0, 866, 0) := by decide +kernel
theorem i238_866 : ts_ins 238 866 = some (.iload_n 3, 867, 0) := by decide +kernel
theorem i238_867 : ts_ins 238 867 = some (.iconst 1, 868, 0) := by decide +kernel
theorem i238_868 : ts_ins 238 868 = some (.iadd, 869, 0) := by decide +kernel
theorem i238_869 : ts_ins 238 869 = some (.iaload, 870, 0) := by decide +kernel
theorem i238_870 : ts_ins 238 870 = some (.aload_n 0, 871, 0) := by decide +kernel
theorem i238_871 : ts_ins 238 871 = some (.iload_n 3, 872, 0) := by decide +kernel
theorem i238_872 : ts_ins 238 872 = some (.iconst 2, 873, 0) := by decide +kernel
theorem i238_873 : ts_ins 238 873 = some (.iadd, 874, 0) := by decide +kernel
theorem i238_874 : ts_ins 238 874 = some (.iaload, 875, 0) := by decide +kernel
theorem i238_875 : ts_ins 238 875 = some (.aload_n 0, 876, 0) := by decide +kernel
theorem i238_876 : ts_ins 238 876 = some (.iload_n 3, 877, 0) := by decide +kernel
theorem i238_877 : ts_ins 238 877 = some (.iconst 3, 878, 0) := by decide +kernel
theorem i238_878 : ts_ins 238 878 = some (.iadd, 879, 0) := by decide +kernel
theorem i238_879 : ts_ins 238 879 = some (.iaload, 880, 0) := by decide +kernel
theorem i238_880 : ts_ins 238 880 = some (.invokevirtual 115, 883, 0) := by decide +kernel
theorem g238_880 : ts_cal (ts_mc 238) 115 = some (0, 118, 3) := by decide +kernel
theorem i238_883 : ts_ins 238 883 = some (.aload_n 2, 884, 0) := by decide +kernel
theorem i238_884 : ts_ins 238 884 = some (.aload_n 0, 885, 0) := by decide +kernel
theorem i238_885 : ts_ins 238 885 = some (.iload_n 3, 886, 0) := by decide +kernel
theorem i238_886 : ts_ins 238 886 = some (.iconst 1, 887, 0) := by decide +kernel
theorem i238_887 : ts_ins 238 887 = some (.iadd, 888, 0) := by decide +kernel
theorem i238_888 : ts_ins 238 888 = some (.iaload, 889, 0) := by decide +kernel
theorem i238_889 : ts_ins 238 889 = some (.aload_n 0, 890, 0) := by decide +kernel
theorem i238_890 : ts_ins 238 890 = some (.iload_n 3, 891, 0) := by decide +kernel
theorem i238_891 : ts_ins 238 891 = some (.iconst 2, 892, 0) := by decide +kernel
theorem i238_892 : ts_ins 238 892 = some (.iadd, 893, 0) := by decide +kernel
theorem i238_893 : ts_ins 238 893 = some (.iaload, 894, 0) := by decide +kernel
theorem i238_894 : ts_ins 238 894 = some (.aload_n 0, 895, 0) := by decide +kernel
theorem i238_895 : ts_ins 238 895 = some (.iload_n 3, 896, 0) := by decide +kernel
theorem i238_896 : ts_ins 238 896 = some (.iconst 3, 897, 0) := by decide +kernel
theorem i238_897 : ts_ins 238 897 = some (.iadd, 898, 0) := by decide +kernel
theorem i238_898 : ts_ins 238 898 = some (.iaload, 899, 0) := by decide +kernel
theorem i238_899 : ts_ins 238 899 = some (.invokevirtual 118, 902, 0) := by decide +kernel
theorem g238_899 : ts_cal (ts_mc 238) 118 = some (0, 210, 3) := by decide +kernel
theorem i238_902 : ts_ins 238 902 = some (.if_icmp .eq 570, 905, 1472) := by decide +kernel
theorem i238_905 : ts_ins 238 905 = some (.iconst 0, 906, 0) := by decide +kernel
theorem i238_906 : ts_ins 238 906 = some (.ireturn, 907, 0) := by decide +kernel
theorem i238_907 : ts_ins 238 907 = some (.aload_n 1, 908, 0) := by decide +kernel
theorem i238_908 : ts_ins 238 908 = some (.aload_n 0, 909, 0) := by decide +kernel
theorem i238_909 : ts_ins 238 909 = some (.iload_n 3, 910, 0) := by decide +kernel
theorem i238_910 : ts_ins 238 910 = some (.iconst 1, 911, 0) := by decide +kernel
theorem i238_911 : ts_ins 238 911 = some (.iadd, 912, 0) := by decide +kernel
theorem i238_912 : ts_ins 238 912 = some (.iaload, 913, 0) := by decide +kernel
theorem i238_913 : ts_ins 238 913 = some (.aload_n 0, 914, 0) := by decide +kernel
theorem i238_914 : ts_ins 238 914 = some (.iload_n 3, 915, 0) := by decide +kernel
theorem i238_915 : ts_ins 238 915 = some (.iconst 2, 916, 0) := by decide +kernel
theorem i238_916 : ts_ins 238 916 = some (.iadd, 917, 0) := by decide +kernel
theorem i238_917 : ts_ins 238 917 = some (.iaload, 918, 0) := by decide +kernel
theorem i238_918 : ts_ins 238 918 = some (.aload_n 0, 919, 0) := by decide +kernel
theorem i238_919 : ts_ins 238 919 = some (.iload_n 3, 920, 0) := by decide +kernel
theorem i238_920 : ts_ins 238 920 = some (.iconst 3, 921, 0) := by decide +kernel
theorem i238_921 : ts_ins 238 921 = some (.iadd, 922, 0) := by decide +kernel
theorem i238_922 : ts_ins 238 922 = some (.iaload, 923, 0) := by decide +kernel
theorem i238_923 : ts_ins 238 923 = some (.aload_n 0, 924, 0) := by decide +kernel
theorem i238_924 : ts_ins 238 924 = some (.iload_n 3, 925, 0) := by decide +kernel
theorem i238_925 : ts_ins 238 925 = some (.iconst 4, 926, 0) := by decide +kernel
theorem i238_926 : ts_ins 238 926 = some (.iadd, 927, 0) := by decide +kernel
theorem i238_927 : ts_ins 238 927 = some (.iaload, 928, 0) := by decide +kernel
theorem i238_928 : ts_ins 238 928 = some (.invokevirtual 119, 931, 0) := by decide +kernel
theorem g238_928 : ts_cal (ts_mc 238) 119 = some (0, 119, 4) := by decide +kernel
theorem i238_931 : ts_ins 238 931 = some (.aload_n 2, 932, 0) := by decide +kernel
theorem i238_932 : ts_ins 238 932 = some (.aload_n 0, 933, 0) := by decide +kernel
theorem i238_933 : ts_ins 238 933 = some (.iload_n 3, 934, 0) := by decide +kernel
theorem i238_934 : ts_ins 238 934 = some (.iconst 1, 935, 0) := by decide +kernel
theorem i238_935 : ts_ins 238 935 = some (.iadd, 936, 0) := by decide +kernel
theorem i238_936 : ts_ins 238 936 = some (.iaload, 937, 0) := by decide +kernel
theorem i238_937 : ts_ins 238 937 = some (.aload_n 0, 938, 0) := by decide +kernel
theorem i238_938 : ts_ins 238 938 = some (.iload_n 3, 939, 0) := by decide +kernel
theorem i238_939 : ts_ins 238 939 = some (.iconst 2, 940, 0) := by decide +kernel
theorem i238_940 : ts_ins 238 940 = some (.iadd, 941, 0) := by decide +kernel
theorem i238_941 : ts_ins 238 941 = some (.iaload, 942, 0) := by decide +kernel
theorem i238_942 : ts_ins 238 942 = some (.aload_n 0, 943, 0) := by decide +kernel
theorem i238_943 : ts_ins 238 943 = some (.iload_n 3, 944, 0) := by decide +kernel
theorem i238_944 : ts_ins 238 944 = some (.iconst 3, 945, 0) := by decide +kernel
theorem i238_945 : ts_ins 238 945 = some (.iadd, 946, 0) := by decide +kernel
theorem i238_946 : ts_ins 238 946 = some (.iaload, 947, 0) := by decide +kernel
theorem i238_947 : ts_ins 238 947 = some (.aload_n 0, 948, 0) := by decide +kernel
theorem i238_948 : ts_ins 238 948 = some (.iload_n 3, 949, 0) := by decide +kernel
theorem i238_949 : ts_ins 238 949 = some (.iconst 4, 950, 0) := by decide +kernel
theorem i238_950 : ts_ins 238 950 = some (.iadd, 951, 0) := by decide +kernel
theorem i238_951 : ts_ins 238 951 = some (.iaload, 952, 0) := by decide +kernel
theorem i238_952 : ts_ins 238 952 = some (.invokevirtual 123, 955, 0) := by decide +kernel
theorem g238_952 : ts_cal (ts_mc 238) 123 = some (0, 211, 4) := by decide +kernel
theorem i238_955 : ts_ins 238 955 = some (.if_icmp .eq 517, 958, 1472) := by decide +kernel
theorem i238_958 : ts_ins 238 958 = some (.iconst 0, 959, 0) := by decide +kernel
theorem i238_959 : ts_ins 238 959 = some (.ireturn, 960, 0) := by decide +kernel
theorem i238_960 : ts_ins 238 960 = some (.aload_n 1, 961, 0) := by decide +kernel
theorem i238_961 : ts_ins 238 961 = some (.aload_n 0, 962, 0) := by decide +kernel
theorem i238_962 : ts_ins 238 962 = some (.iload_n 3, 963, 0) := by decide +kernel
theorem i238_963 : ts_ins 238 963 = some (.iconst 1, 964, 0) := by decide +kernel
theorem i238_964 : ts_ins 238 964 = some (.iadd, 965, 0) := by decide +kernel
theorem i238_965 : ts_ins 238 965 = some (.iaload, 966, 0) := by decide +kernel
theorem i238_966 : ts_ins 238 966 = some (.invokevirtual 124, 969, 0) := by decide +kernel
theorem g238_966 : ts_cal (ts_mc 238) 124 = some (0, 120, 1) := by decide +kernel
theorem i238_969 : ts_ins 238 969 = some (.aload_n 2, 970, 0) := by decide +kernel
theorem i238_970 : ts_ins 238 970 = some (.aload_n 0, 971, 0) := by decide +kernel
theorem i238_971 : ts_ins 238 971 = some (.iload_n 3, 972, 0) := by decide +kernel
theorem i238_972 : ts_ins 238 972 = some (.iconst 1, 973, 0) := by decide +kernel
theorem i238_973 : ts_ins 238 973 = some (.iadd, 974, 0) := by decide +kernel
theorem i238_974 : ts_ins 238 974 = some (.iaload, 975, 0) := by decide +kernel
theorem i238_975 : ts_ins 238 975 = some (.invokevirtual 127, 978, 0) := by decide +kernel
theorem g238_975 : ts_cal (ts_mc 238) 127 = some (0, 212, 1) := by decide +kernel
theorem i238_978 : ts_ins 238 978 = some (.if_icmp .eq 494, 981, 1472) := by decide +kernel
theorem i238_981 : ts_ins 238 981 = some (.iconst 0, 982, 0) := by decide +kernel
theorem i238_982 : ts_ins 238 982 = some (.ireturn, 983, 0) := by decide +kernel
theorem i238_983 : ts_ins 238 983 = some (.aload_n 1, 984, 0) := by decide +kernel
theorem i238_984 : ts_ins 238 984 = some (.aload_n 0, 985, 0) := by decide +kernel
theorem i238_985 : ts_ins 238 985 = some (.iload_n 3, 986, 0) := by decide +kernel
theorem i238_986 : ts_ins 238 986 = some (.iconst 1, 987, 0) := by decide +kernel
theorem i238_987 : ts_ins 238 987 = some (.iadd, 988, 0) := by decide +kernel
theorem i238_988 : ts_ins 238 988 = some (.iaload, 989, 0) := by decide +kernel
theorem i238_989 : ts_ins 238 989 = some (.invokevirtual 128, 992, 0) := by decide +kernel
theorem g238_989 : ts_cal (ts_mc 238) 128 = some (0, 121, 1) := by decide +kernel
theorem i238_992 : ts_ins 238 992 = some (.aload_n 2, 993, 0) := by decide +kernel
theorem i238_993 : ts_ins 238 993 = some (.aload_n 0, 994, 0) := by decide +kernel
theorem i238_994 : ts_ins 238 994 = some (.iload_n 3, 995, 0) := by decide +kernel
theorem i238_995 : ts_ins 238 995 = some (.iconst 1, 996, 0) := by decide +kernel
theorem i238_996 : ts_ins 238 996 = some (.iadd, 997, 0) := by decide +kernel
theorem i238_997 : ts_ins 238 997 = some (.iaload, 998, 0) := by decide +kernel
theorem i238_998 : ts_ins 238 998 = some (.invokevirtual 131, 1001, 0) := by decide +kernel
theorem g238_998 : ts_cal (ts_mc 238) 131 = some (0, 213, 1) := by decide +kernel
theorem i238_1001 : ts_ins 238 1001 = some (.if_icmp .eq 471, 1004, 1472) := by decide +kernel
theorem i238_1004 : ts_ins 238 1004 = some (.iconst 0, 1005, 0) := by decide +kernel
theorem i238_1005 : ts_ins 238 1005 = some (.ireturn, 1006, 0) := by decide +kernel
theorem i238_1006 : ts_ins 238 1006 = some (.aload_n 1, 1007, 0) := by decide +kernel
theorem i238_1007 : ts_ins 238 1007 = some (.aload_n 0, 1008, 0) := by decide +kernel
theorem i238_1008 : ts_ins 238 1008 = some (.iload_n 3, 1009, 0) := by decide +kernel
theorem i238_1009 : ts_ins 238 1009 = some (.iconst 1, 1010, 0) := by decide +kernel
theorem i238_1010 : ts_ins 238 1010 = some (.iadd, 1011, 0) := by decide +kernel
theorem i238_1011 : ts_ins 238 1011 = some (.iaload, 1012, 0) := by decide +kernel
theorem i238_1012 : ts_ins 238 1012 = some (.invokevirtual 132, 1015, 0) := by decide +kernel
theorem g238_1012 : ts_cal (ts_mc 238) 132 = some (0, 122, 1) := by decide +kernel
theorem i238_1015 : ts_ins 238 1015 = some (.aload_n 2, 1016, 0) := by decide +kernel
theorem i238_1016 : ts_ins 238 1016 = some (.aload_n 0, 1017, 0) := by decide +kernel
theorem i238_1017 : ts_ins 238 1017 = some (.iload_n 3, 1018, 0) := by decide +kernel
theorem i238_1018 : ts_ins 238 1018 = some (.iconst 1, 1019, 0) := by decide +kernel
theorem i238_1019 : ts_ins 238 1019 = some (.iadd, 1020, 0) := by decide +kernel
theorem i238_1020 : ts_ins 238 1020 = some (.iaload, 1021, 0) := by decide +kernel
theorem i238_1021 : ts_ins 238 1021 = some (.invokevirtual 135, 1024, 0) := by decide +kernel
theorem g238_1021 : ts_cal (ts_mc 238) 135 = some (0, 214, 1) := by decide +kernel
theorem i238_1024 : ts_ins 238 1024 = some (.if_icmp .eq 448, 1027, 1472) := by decide +kernel
theorem i238_1027 : ts_ins 238 1027 = some (.iconst 0, 1028, 0) := by decide +kernel
theorem i238_1028 : ts_ins 238 1028 = some (.ireturn, 1029, 0) := by decide +kernel
theorem i238_1029 : ts_ins 238 1029 = some (.aload_n 1, 1030, 0) := by decide +kernel
theorem i238_1030 : ts_ins 238 1030 = some (.invokevirtual 136, 1033, 0) := by decide +kernel
theorem g238_1030 : ts_cal (ts_mc 238) 136 = some (0, 123, 0) := by decide +kernel
theorem i238_1033 : ts_ins 238 1033 = some (.aload_n 2, 1034, 0) := by decide +kernel
theorem i238_1034 : ts_ins 238 1034 = some (.invokevirtual 139, 1037, 0) := by decide +kernel
theorem g238_1034 : ts_cal (ts_mc 238) 139 = some (0, 215, 0) := by decide +kernel
theorem i238_1037 : ts_ins 238 1037 = some (.if_icmp .eq 435, 1040, 1472) := by decide +kernel
theorem i238_1040 : ts_ins 238 1040 = some (.iconst 0, 1041, 0) := by decide +kernel
theorem i238_1041 : ts_ins 238 1041 = some (.ireturn, 1042, 0) := by decide +kernel
theorem i238_1042 : ts_ins 238 1042 = some (.aload_n 1, 1043, 0) := by decide +kernel
theorem i238_1043 : ts_ins 238 1043 = some (.invokevirtual 140, 1046, 0) := by decide +kernel
theorem g238_1043 : ts_cal (ts_mc 238) 140 = some (0, 124, 0) := by decide +kernel
theorem i238_1046 : ts_ins 238 1046 = some (.aload_n 2, 1047, 0) := by decide +kernel
theorem i238_1047 : ts_ins 238 1047 = some (.invokevirtual 143, 1050, 0) := by decide +kernel
theorem g238_1047 : ts_cal (ts_mc 238) 143 = some (0, 216, 0) := by decide +kernel
theorem i238_1050 : ts_ins 238 1050 = some (.if_icmp .eq 422, 1053, 1472) := by decide +kernel
theorem i238_1053 : ts_ins 238 1053 = some (.iconst 0, 1054, 0) := by decide +kernel
theorem i238_1054 : ts_ins 238 1054 = some (.ireturn, 1055, 0) := by decide +kernel
theorem i238_1055 : ts_ins 238 1055 = some (.aload_n 1, 1056, 0) := by decide +kernel
theorem i238_1056 : ts_ins 238 1056 = some (.invokevirtual 144, 1059, 0) := by decide +kernel
theorem g238_1056 : ts_cal (ts_mc 238) 144 = some (0, 125, 0) := by decide +kernel
theorem i238_1059 : ts_ins 238 1059 = some (.aload_n 2, 1060, 0) := by decide +kernel
theorem i238_1060 : ts_ins 238 1060 = some (.invokevirtual 147, 1063, 0) := by decide +kernel
theorem g238_1060 : ts_cal (ts_mc 238) 147 = some (0, 146, 0) := by decide +kernel
theorem i238_1063 : ts_ins 238 1063 = some (.if_icmp .eq 409, 1066, 1472) := by decide +kernel
theorem i238_1066 : ts_ins 238 1066 = some (.iconst 0, 1067, 0) := by decide +kernel
theorem i238_1067 : ts_ins 238 1067 = some (.ireturn, 1068, 0) := by decide +kernel
theorem i238_1068 : ts_ins 238 1068 = some (.aload_n 1, 1069, 0) := by decide +kernel
theorem i238_1069 : ts_ins 238 1069 = some (.invokevirtual 148, 1072, 0) := by decide +kernel
theorem g238_1069 : ts_cal (ts_mc 238) 148 = some (0, 126, 0) := by decide +kernel
theorem i238_1072 : ts_ins 238 1072 = some (.aload_n 2, 1073, 0) := by decide +kernel
theorem i238_1073 : ts_ins 238 1073 = some (.invokevirtual 151, 1076, 0) := by decide +kernel
theorem g238_1073 : ts_cal (ts_mc 238) 151 = some (0, 147, 0) := by decide +kernel
theorem i238_1076 : ts_ins 238 1076 = some (.if_icmp .eq 396, 1079, 1472) := by decide +kernel
theorem i238_1079 : ts_ins 238 1079 = some (.iconst 0, 1080, 0) := by decide +kernel
theorem i238_1080 : ts_ins 238 1080 = some (.ireturn, 1081, 0) := by decide +kernel
theorem i238_1081 : ts_ins 238 1081 = some (.aload_n 1, 1082, 0) := by decide +kernel
theorem i238_1082 : ts_ins 238 1082 = some (.aload_n 0, 1083, 0) := by decide +kernel
theorem i238_1083 : ts_ins 238 1083 = some (.iload_n 3, 1084, 0) := by decide +kernel
theorem i238_1084 : ts_ins 238 1084 = some (.iconst 1, 1085, 0) := by decide +kernel
theorem i238_1085 : ts_ins 238 1085 = some (.iadd, 1086, 0) := by decide +kernel
theorem i238_1086 : ts_ins 238 1086 = some (.iaload, 1087, 0) := by decide +kernel
theorem i238_1087 : ts_ins 238 1087 = some (.invokevirtual 152, 1090, 0) := by decide +kernel
theorem g238_1087 : ts_cal (ts_mc 238) 152 = some (0, 127, 1) := by decide +kernel
theorem i238_1090 : ts_ins 238 1090 = some (.aload_n 2, 1091, 0) := by decide +kernel
theorem i238_1091 : ts_ins 238 1091 = some (.aload_n 0, 1092, 0) := by decide +kernel
theorem i238_1092 : ts_ins 238 1092 = some (.iload_n 3, 1093, 0) := by decide +kernel
theorem i238_1093 : ts_ins 238 1093 = some (.iconst 1, 1094, 0) := by decide +kernel
theorem i238_1094 : ts_ins 238 1094 = some (.iadd, 1095, 0) := by decide +kernel
theorem i238_1095 : ts_ins 238 1095 = some (.iaload, 1096, 0) := by decide +kernel
theorem i238_1096 : ts_ins 238 1096 = some (.invokevirtual 155, 1099, 0) := by decide +kernel
theorem g238_1096 : ts_cal (ts_mc 238) 155 = some (0, 219, 1) := by decide +kernel
theorem i238_1099 : ts_ins 238 1099 = some (.if_icmp .eq 373, 1102, 1472) := by decide +kernel
theorem i238_1102 : ts_ins 238 1102 = some (.iconst 0, 1103, 0) := by decide +kernel
theorem i238_1103 : ts_ins 238 1103 = some (.ireturn, 1104, 0) := by decide +kernel
theorem i238_1104 : ts_ins 238 1104 = some (.aload_n 1, 1105, 0) := by decide +kernel
theorem i238_1105 : ts_ins 238 1105 = some (.aload_n 0, 1106, 0) := by decide +kernel
theorem i238_1106 : ts_ins 238 1106 = some (.iload_n 3, 1107, 0) := by decide +kernel
theorem i238_1107 : ts_ins 238 1107 = some (.iconst 1, 1108, 0) := by decide +kernel
theorem i238_1108 : ts_ins 238 1108 = some (.iadd, 1109, 0) := by decide +kernel
theorem i238_1109 : ts_ins 238 1109 = some (.iaload, 1110, 0) := by decide +kernel
theorem i238_1110 : ts_ins 238 1110 = some (.aload_n 0, 1111, 0) := by decide +kernel
theorem i238_1111 : ts_ins 238 1111 = some (.iload_n 3, 1112, 0) := by decide +kernel
theorem i238_1112 : ts_ins 238 1112 = some (.iconst 2, 1113, 0) := by decide +kernel
theorem i238_1113 : ts_ins 238 1113 = some (.iadd, 1114, 0) := by decide +kernel
theorem i238_1114 : ts_ins 238 1114 = some (.iaload, 1115, 0) := by decide +kernel
theorem i238_1115 : ts_ins 238 1115 = some (.aload_n 0, 1116, 0) := by decide +kernel
theorem i238_1116 : ts_ins 238 1116 = some (.iload_n 3, 1117, 0) := by decide +kernel
theorem i238_1117 : ts_ins 238 1117 = some (.iconst 3, 1118, 0) := by decide +kernel
theorem i238_1118 : ts_ins 238 1118 = some (.iadd, 1119, 0) := by decide +kernel
theorem i238_1119 : ts_ins 238 1119 = some (.iaload, 1120, 0) := by decide +kernel
theorem i238_1120 : ts_ins 238 1120 = some (.invokevirtual 156, 1123, 0) := by decide +kernel
theorem g238_1120 : ts_cal (ts_mc 238) 156 = some (0, 128, 3) := by decide +kernel
theorem i238_1123 : ts_ins 238 1123 = some (.aload_n 2, 1124, 0) := by decide +kernel
theorem i238_1124 : ts_ins 238 1124 = some (.aload_n 0, 1125, 0) := by decide +kernel
theorem i238_1125 : ts_ins 238 1125 = some (.iload_n 3, 1126, 0) := by decide +kernel
theorem i238_1126 : ts_ins 238 1126 = some (.iconst 1, 1127, 0) := by decide +kernel
theorem i238_1127 : ts_ins 238 1127 = some (.iadd, 1128, 0) := by decide +kernel
theorem i238_1128 : ts_ins 238 1128 = some (.iaload, 1129, 0) := by decide +kernel
theorem i238_1129 : ts_ins 238 1129 = some (.aload_n 0, 1130, 0) := by decide +kernel
theorem i238_1130 : ts_ins 238 1130 = some (.iload_n 3, 1131, 0) := by decide +kernel
theorem i238_1131 : ts_ins 238 1131 = some (.iconst 2, 1132, 0) := by decide +kernel
theorem i238_1132 : ts_ins 238 1132 = some (.iadd, 1133, 0) := by decide +kernel
theorem i238_1133 : ts_ins 238 1133 = some (.iaload, 1134, 0) := by decide +kernel
theorem i238_1134 : ts_ins 238 1134 = some (.aload_n 0, 1135, 0) := by decide +kernel
theorem i238_1135 : ts_ins 238 1135 = some (.iload_n 3, 1136, 0) := by decide +kernel
theorem i238_1136 : ts_ins 238 1136 = some (.iconst 3, 1137, 0) := by decide +kernel
theorem i238_1137 : ts_ins 238 1137 = some (.iadd, 1138, 0) := by decide +kernel
theorem i238_1138 : ts_ins 238 1138 = some (.iaload, 1139, 0) := by decide +kernel
theorem i238_1139 : ts_ins 238 1139 = some (.invokevirtual 159, 1142, 0) := by decide +kernel
theorem g238_1139 : ts_cal (ts_mc 238) 159 = some (0, 226, 3) := by decide +kernel
theorem i238_1142 : ts_ins 238 1142 = some (.if_icmp .eq 330, 1145, 1472) := by decide +kernel
theorem i238_1145 : ts_ins 238 1145 = some (.iconst 0, 1146, 0) := by decide +kernel
theorem i238_1146 : ts_ins 238 1146 = some (.ireturn, 1147, 0) := by decide +kernel
theorem i238_1147 : ts_ins 238 1147 = some (.aload_n 1, 1148, 0) := by decide +kernel
theorem i238_1148 : ts_ins 238 1148 = some (.aload_n 0, 1149, 0) := by decide +kernel
theorem i238_1149 : ts_ins 238 1149 = some (.iload_n 3, 1150, 0) := by decide +kernel
theorem i238_1150 : ts_ins 238 1150 = some (.iconst 1, 1151, 0) := by decide +kernel
theorem i238_1151 : ts_ins 238 1151 = some (.iadd, 1152, 0) := by decide +kernel
theorem i238_1152 : ts_ins 238 1152 = some (.iaload, 1153, 0) := by decide +kernel
theorem i238_1153 : ts_ins 238 1153 = some (.invokevirtual 160, 1156, 0) := by decide +kernel
theorem g238_1153 : ts_cal (ts_mc 238) 160 = some (0, 129, 1) := by decide +kernel
theorem i238_1156 : ts_ins 238 1156 = some (.aload_n 2, 1157, 0) := by decide +kernel
theorem i238_1157 : ts_ins 238 1157 = some (.aload_n 0, 1158, 0) := by decide +kernel
theorem i238_1158 : ts_ins 238 1158 = some (.iload_n 3, 1159, 0) := by decide +kernel
theorem i238_1159 : ts_ins 238 1159 = some (.iconst 1, 1160, 0) := by decide +kernel
theorem i238_1160 : ts_ins 238 1160 = some (.iadd, 1161, 0) := by decide +kernel
theorem i238_1161 : ts_ins 238 1161 = some (.iaload, 1162, 0) := by decide +kernel
theorem i238_1162 : ts_ins 238 1162 = some (.invokevirtual 163, 1165, 0) := by decide +kernel
theorem g238_1162 : ts_cal (ts_mc 238) 163 = some (0, 227, 1) := by decide +kernel
theorem i238_1165 : ts_ins 238 1165 = some (.if_icmp .eq 307, 1168, 1472) := by decide +kernel
theorem i238_1168 : ts_ins 238 1168 = some (.iconst 0, 1169, 0) := by decide +kernel
theorem i238_1169 : ts_ins 238 1169 = some (.ireturn, 1170, 0) := by decide +kernel
theorem i238_1170 : ts_ins 238 1170 = some (.aload_n 1, 1171, 0) := by decide +kernel
theorem i238_1171 : ts_ins 238 1171 = some (.aload_n 0, 1172, 0) := by decide +kernel
theorem i238_1172 : ts_ins 238 1172 = some (.iload_n 3, 1173, 0) := by decide +kernel
theorem i238_1173 : ts_ins 238 1173 = some (.iconst 1, 1174, 0) := by decide +kernel
theorem i238_1174 : ts_ins 238 1174 = some (.iadd, 1175, 0) := by decide +kernel
theorem i238_1175 : ts_ins 238 1175 = some (.iaload, 1176, 0) := by decide +kernel
theorem i238_1176 : ts_ins 238 1176 = some (.aload_n 0, 1177, 0) := by decide +kernel
theorem i238_1177 : ts_ins 238 1177 = some (.iload_n 3, 1178, 0) := by decide +kernel
theorem i238_1178 : ts_ins 238 1178 = some (.iconst 2, 1179, 0) := by decide +kernel
theorem i238_1179 : ts_ins 238 1179 = some (.iadd, 1180, 0) := by decide +kernel
theorem i238_1180 : ts_ins 238 1180 = some (.iaload, 1181, 0) := by decide +kernel
theorem i238_1181 : ts_ins 238 1181 = some (.invokevirtual 164, 1184, 0) := by decide +kernel
theorem g238_1181 : ts_cal (ts_mc 238) 164 = some (0, 130, 2) := by decide +kernel
theorem i238_1184 : ts_ins 238 1184 = some (.aload_n 2, 1185, 0) := by decide +kernel
theorem i238_1185 : ts_ins 238 1185 = some (.aload_n 0, 1186, 0) := by decide +kernel
theorem i238_1186 : ts_ins 238 1186 = some (.iload_n 3, 1187, 0) := by decide +kernel
theorem i238_1187 : ts_ins 238 1187 = some (.iconst 1, 1188, 0) := by decide +kernel
theorem i238_1188 : ts_ins 238 1188 = some (.iadd, 1189, 0) := by decide +kernel
theorem i238_1189 : ts_ins 238 1189 = some (.iaload, 1190, 0) := by decide +kernel
theorem i238_1190 : ts_ins 238 1190 = some (.aload_n 0, 1191, 0) := by decide +kernel
theorem i238_1191 : ts_ins 238 1191 = some (.iload_n 3, 1192, 0) := by decide +kernel
theorem i238_1192 : ts_ins 238 1192 = some (.iconst 2, 1193, 0) := by decide +kernel
theorem i238_1193 : ts_ins 238 1193 = some (.iadd, 1194, 0) := by decide +kernel
theorem i238_1194 : ts_ins 238 1194 = some (.iaload, 1195, 0) := by decide +kernel
theorem i238_1195 : ts_ins 238 1195 = some (.invokevirtual 167, 1198, 0) := by decide +kernel
theorem g238_1195 : ts_cal (ts_mc 238) 167 = some (0, 229, 2) := by decide +kernel
theorem i238_1198 : ts_ins 238 1198 = some (.if_icmp .eq 274, 1201, 1472) := by decide +kernel
theorem i238_1201 : ts_ins 238 1201 = some (.iconst 0, 1202, 0) := by decide +kernel
theorem i238_1202 : ts_ins 238 1202 = some (.ireturn, 1203, 0) := by decide +kernel
theorem i238_1203 : ts_ins 238 1203 = some (.aload_n 1, 1204, 0) := by decide +kernel
theorem i238_1204 : ts_ins 238 1204 = some (.aload_n 0, 1205, 0) := by decide +kernel
theorem i238_1205 : ts_ins 238 1205 = some (.iload_n 3, 1206, 0) := by decide +kernel
theorem i238_1206 : ts_ins 238 1206 = some (.iconst 1, 1207, 0) := by decide +kernel
theorem i238_1207 : ts_ins 238 1207 = some (.iadd, 1208, 0) := by decide +kernel
theorem i238_1208 : ts_ins 238 1208 = some (.iaload, 1209, 0) := by decide +kernel
theorem i238_1209 : ts_ins 238 1209 = some (.aload_n 0, 1210, 0) := by decide +kernel
theorem i238_1210 : ts_ins 238 1210 = some (.iload_n 3, 1211, 0) := by decide +kernel
theorem i238_1211 : ts_ins 238 1211 = some (.iconst 2, 1212, 0) := by decide +kernel
theorem i238_1212 : ts_ins 238 1212 = some (.iadd, 1213, 0) := by decide +kernel
theorem i238_1213 : ts_ins 238 1213 = some (.iaload, 1214, 0) := by decide +kernel
theorem i238_1214 : ts_ins 238 1214 = some (.aload_n 0, 1215, 0) := by decide +kernel
theorem i238_1215 : ts_ins 238 1215 = some (.iload_n 3, 1216, 0) := by decide +kernel
theorem i238_1216 : ts_ins 238 1216 = some (.iconst 3, 1217, 0) := by decide +kernel
theorem i238_1217 : ts_ins 238 1217 = some (.iadd, 1218, 0) := by decide +kernel
theorem i238_1218 : ts_ins 238 1218 = some (.iaload, 1219, 0) := by decide +kernel
theorem i238_1219 : ts_ins 238 1219 = some (.invokevirtual 168, 1222, 0) := by decide +kernel
theorem g238_1219 : ts_cal (ts_mc 238) 168 = some (0, 131, 3) := by decide +kernel
theorem i238_1222 : ts_ins 238 1222 = some (.aload_n 2, 1223, 0) := by decide +kernel
theorem i238_1223 : ts_ins 238 1223 = some (.aload_n 0, 1224, 0) := by decide +kernel
theorem i238_1224 : ts_ins 238 1224 = some (.iload_n 3, 1225, 0) := by decide +kernel
theorem i238_1225 : ts_ins 238 1225 = some (.iconst 1, 1226, 0) := by decide +kernel
theorem i238_1226 : ts_ins 238 1226 = some (.iadd, 1227, 0) := by decide +kernel
theorem i238_1227 : ts_ins 238 1227 = some (.iaload, 1228, 0) := by decide +kernel
theorem i238_1228 : ts_ins 238 1228 = some (.aload_n 0, 1229, 0) := by decide +kernel
theorem i238_1229 : ts_ins 238 1229 = some (.iload_n 3, 1230, 0) := by decide +kernel
theorem i238_1230 : ts_ins 238 1230 = some (.iconst 2, 1231, 0) := by decide +kernel
theorem i238_1231 : ts_ins 238 1231 = some (.iadd, 1232, 0) := by decide +kernel
theorem i238_1232 : ts_ins 238 1232 = some (.iaload, 1233, 0) := by decide +kernel
theorem i238_1233 : ts_ins 238 1233 = some (.aload_n 0, 1234, 0) := by decide +kernel
theorem i238_1234 : ts_ins 238 1234 = some (.iload_n 3, 1235, 0) := by decide +kernel
theorem i238_1235 : ts_ins 238 1235 = some (.iconst 3, 1236, 0) := by decide +kernel
theorem i238_1236 : ts_ins 238 1236 = some (.iadd, 1237, 0) := by decide +kernel
theorem i238_1237 : ts_ins 238 1237 = some (.iaload, 1238, 0) := by decide +kernel
theorem i238_1238 : ts_ins 238 1238 = some (.invokevirtual 171, 1241, 0) := by decide +kernel
theorem g238_1238 : ts_cal (ts_mc 238) 171 = some (0, 230, 3) := by decide +kernel
theorem i238_1241 : ts_ins 238 1241 = some (.if_icmp .eq 231, 1244, 1472) := by decide +kernel
theorem i238_1244 : ts_ins 238 1244 = some (.iconst 0, 1245, 0) := by decide +kernel
theorem i238_1245 : ts_ins 238 1245 = some (.ireturn, 1246, 0) := by decide +kernel
theorem i238_1246 : ts_ins 238 1246 = some (.aload_n 1, 1247, 0) := by decide +kernel
theorem i238_1247 : ts_ins 238 1247 = some (.aload_n 0, 1248, 0) := by decide +kernel
theorem i238_1248 : ts_ins 238 1248 = some (.iload_n 3, 1249, 0) := by decide +kernel
theorem i238_1249 : ts_ins 238 1249 = some (.iconst 1, 1250, 0) := by decide +kernel
theorem i238_1250 : ts_ins 238 1250 = some (.iadd, 1251, 0) := by decide +kernel
theorem i238_1251 : ts_ins 238 1251 = some (.iaload, 1252, 0) := by decide +kernel
theorem i238_1252 : ts_ins 238 1252 = some (.aload_n 0, 1253, 0) := by decide +kernel
theorem i238_1253 : ts_ins 238 1253 = some (.iload_n 3, 1254, 0) := by decide +kernel
theorem i238_1254 : ts_ins 238 1254 = some (.iconst 2, 1255, 0) := by decide +kernel
theorem i238_1255 : ts_ins 238 1255 = some (.iadd, 1256, 0) := by decide +kernel
theorem i238_1256 : ts_ins 238 1256 = some (.iaload, 1257, 0) := by decide +kernel
theorem i238_1257 : ts_ins 238 1257 = some (.aload_n 0, 1258, 0) := by decide +kernel
theorem i238_1258 : ts_ins 238 1258 = some (.iload_n 3, 1259, 0) := by decide +kernel
theorem i238_1259 : ts_ins 238 1259 = some (.iconst 3, 1260, 0) := by decide +kernel
theorem i238_1260 : ts_ins 238 1260 = some (.iadd, 1261, 0) := by decide +kernel
theorem i238_1261 : ts_ins 238 1261 = some (.iaload, 1262, 0) := by decide +kernel
theorem i238_1262 : ts_ins 238 1262 = some (.i2l, 1263, 0) := by decide +kernel
theorem i238_1263 : ts_ins 238 1263 = some (.bipush 32, 1265, 0) := by decide +kernel
theorem i238_1265 : ts_ins 238 1265 = some (.lshl, 1266, 0) := by decide +kernel
theorem i238_1266 : ts_ins 238 1266 = some (.aload_n 0, 1267, 0) := by decide +kernel
theorem i238_1267 : ts_ins 238 1267 = some (.iload_n 3, 1268, 0) := by decide +kernel
theorem i238_1268 : ts_ins 238 1268 = some (.iconst 4, 1269, 0) := by decide +kernel
theorem i238_1269 : ts_ins 238 1269 = some (.iadd, 1270, 0) := by decide +kernel
theorem i238_1270 : ts_ins 238 1270 = some (.iaload, 1271, 0) := by decide +kernel
theorem i238_1271 : ts_ins 238 1271 = some (.i2l, 1272, 0) := by decide +kernel
theorem i238_1272 : ts_ins 238 1272 = some (.ldc2_w 172, 1275, 0) := by decide +kernel
theorem g238_1272 : ts_lc (ts_mc 238) 172 = some (.long (4294967295)) := by decide +kernel
theorem i238_1275 : ts_ins 238 1275 = some (.land, 1276, 0) := by decide +kernel
theorem i238_1276 : ts_ins 238 1276 = some (.lor, 1277, 0) := by decide +kernel
theorem i238_1277 : ts_ins 238 1277 = some (.invokevirtual 174, 1280, 0) := by decide +kernel
theorem g238_1277 : ts_cal (ts_mc 238) 174 = some (0, 132, 3) := by decide +kernel
theorem i238_1280 : ts_ins 238 1280 = some (.aload_n 2, 1281, 0) := by decide +kernel
theorem i238_1281 : ts_ins 238 1281 = some (.aload_n 0, 1282, 0) := by decide +kernel
theorem i238_1282 : ts_ins 238 1282 = some (.iload_n 3, 1283, 0) := by decide +kernel
theorem i238_1283 : ts_ins 238 1283 = some (.iconst 1, 1284, 0) := by decide +kernel
theorem i238_1284 : ts_ins 238 1284 = some (.iadd, 1285, 0) := by decide +kernel
theorem i238_1285 : ts_ins 238 1285 = some (.iaload, 1286, 0) := by decide +kernel
theorem i238_1286 : ts_ins 238 1286 = some (.aload_n 0, 1287, 0) := by decide +kernel
theorem i238_1287 : ts_ins 238 1287 = some (.iload_n 3, 1288, 0) := by decide +kernel
theorem i238_1288 : ts_ins 238 1288 = some (.iconst 2, 1289, 0) := by decide +kernel
theorem i238_1289 : ts_ins 238 1289 = some (.iadd, 1290, 0) := by decide +kernel
theorem i238_1290 : ts_ins 238 1290 = some (.iaload, 1291, 0) := by decide +kernel
theorem i238_1291 : ts_ins 238 1291 = some (.aload_n 0, 1292, 0) := by decide +kernel
theorem i238_1292 : ts_ins 238 1292 = some (.iload_n 3, 1293, 0) := by decide +kernel
theorem i238_1293 : ts_ins 238 1293 = some (.iconst 3, 1294, 0) := by decide +kernel
theorem i238_1294 : ts_ins 238 1294 = some (.iadd, 1295, 0) := by decide +kernel
theorem i238_1295 : ts_ins 238 1295 = some (.iaload, 1296, 0) := by decide +kernel
theorem i238_1296 : ts_ins 238 1296 = some (.i2l, 1297, 0) := by decide +kernel
theorem i238_1297 : ts_ins 238 1297 = some (.bipush 32, 1299, 0) := by decide +kernel
theorem i238_1299 : ts_ins 238 1299 = some (.lshl, 1300, 0) := by decide +kernel
theorem i238_1300 : ts_ins 238 1300 = some (.aload_n 0, 1301, 0) := by decide +kernel
theorem i238_1301 : ts_ins 238 1301 = some (.iload_n 3, 1302, 0) := by decide +kernel
theorem i238_1302 : ts_ins 238 1302 = some (.iconst 4, 1303, 0) := by decide +kernel
theorem i238_1303 : ts_ins 238 1303 = some (.iadd, 1304, 0) := by decide +kernel
theorem i238_1304 : ts_ins 238 1304 = some (.iaload, 1305, 0) := by decide +kernel
theorem i238_1305 : ts_ins 238 1305 = some (.i2l, 1306, 0) := by decide +kernel
theorem i238_1306 : ts_ins 238 1306 = some (.ldc2_w 172, 1309, 0) := by decide +kernel
theorem g238_1306 : ts_lc (ts_mc 238) 172 = some (.long (4294967295)) := by decide +kernel
theorem i238_1309 : ts_ins 238 1309 = some (.land, 1310, 0) := by decide +kernel
theorem i238_1310 : ts_ins 238 1310 = some (.lor, 1311, 0) := by decide +kernel
theorem i238_1311 : ts_ins 238 1311 = some (.invokevirtual 178, 1314, 0) := by decide +kernel
theorem g238_1311 : ts_cal (ts_mc 238) 178 = some (0, 233, 3) := by decide +kernel
theorem i238_1314 : ts_ins 238 1314 = some (.if_icmp .eq 158, 1317, 1472) := by decide +kernel
theorem i238_1317 : ts_ins 238 1317 = some (.iconst 0, 1318, 0) := by decide +kernel
theorem i238_1318 : ts_ins 238 1318 = some (.ireturn, 1319, 0) := by decide +kernel
theorem i238_1319 : ts_ins 238 1319 = some (.aload_n 1, 1320, 0) := by decide +kernel
theorem i238_1320 : ts_ins 238 1320 = some (.aload_n 0, 1321, 0) := by decide +kernel
theorem i238_1321 : ts_ins 238 1321 = some (.iload_n 3, 1322, 0) := by decide +kernel
theorem i238_1322 : ts_ins 238 1322 = some (.iconst 1, 1323, 0) := by decide +kernel
theorem i238_1323 : ts_ins 238 1323 = some (.iadd, 1324, 0) := by decide +kernel
theorem i238_1324 : ts_ins 238 1324 = some (.iaload, 1325, 0) := by decide +kernel
theorem i238_1325 : ts_ins 238 1325 = some (.aload_n 0, 1326, 0) := by decide +kernel
theorem i238_1326 : ts_ins 238 1326 = some (.iload_n 3, 1327, 0) := by decide +kernel
theorem i238_1327 : ts_ins 238 1327 = some (.iconst 2, 1328, 0) := by decide +kernel
theorem i238_1328 : ts_ins 238 1328 = some (.iadd, 1329, 0) := by decide +kernel
theorem i238_1329 : ts_ins 238 1329 = some (.iaload, 1330, 0) := by decide +kernel
theorem i238_1330 : ts_ins 238 1330 = some (.invokevirtual 179, 1333, 0) := by decide +kernel
theorem g238_1330 : ts_cal (ts_mc 238) 179 = some (0, 133, 2) := by decide +kernel
theorem i238_1333 : ts_ins 238 1333 = some (.aload_n 2, 1334, 0) := by decide +kernel
theorem i238_1334 : ts_ins 238 1334 = some (.aload_n 0, 1335, 0) := by decide +kernel
theorem i238_1335 : ts_ins 238 1335 = some (.iload_n 3, 1336, 0) := by decide +kernel
theorem i238_1336 : ts_ins 238 1336 = some (.iconst 1, 1337, 0) := by decide +kernel
theorem i238_1337 : ts_ins 238 1337 = some (.iadd, 1338, 0) := by decide +kernel
theorem i238_1338 : ts_ins 238 1338 = some (.iaload, 1339, 0) := by decide +kernel
theorem i238_1339 : ts_ins 238 1339 = some (.aload_n 0, 1340, 0) := by decide +kernel
theorem i238_1340 : ts_ins 238 1340 = some (.iload_n 3, 1341, 0) := by decide +kernel
theorem i238_1341 : ts_ins 238 1341 = some (.iconst 2, 1342, 0) := by decide +kernel
theorem i238_1342 : ts_ins 238 1342 = some (.iadd, 1343, 0) := by decide +kernel
theorem i238_1343 : ts_ins 238 1343 = some (.iaload, 1344, 0) := by decide +kernel
theorem i238_1344 : ts_ins 238 1344 = some (.invokevirtual 183, 1347, 0) := by decide +kernel
theorem g238_1344 : ts_cal (ts_mc 238) 183 = some (0, 234, 2) := by decide +kernel
theorem i238_1347 : ts_ins 238 1347 = some (.lcmp, 1348, 0) := by decide +kernel
theorem i238_1348 : ts_ins 238 1348 = some (.ifCond .eq 124, 1351, 1472) := by decide +kernel
theorem i238_1351 : ts_ins 238 1351 = some (.iconst 0, 1352, 0) := by decide +kernel
theorem i238_1352 : ts_ins 238 1352 = some (.ireturn, 1353, 0) := by decide +kernel
theorem i238_1353 : ts_ins 238 1353 = some (.aload_n 1, 1354, 0) := by decide +kernel
theorem i238_1354 : ts_ins 238 1354 = some (.aload_n 0, 1355, 0) := by decide +kernel
theorem i238_1355 : ts_ins 238 1355 = some (.iload_n 3, 1356, 0) := by decide +kernel
theorem i238_1356 : ts_ins 238 1356 = some (.iconst 1, 1357, 0) := by decide +kernel
theorem i238_1357 : ts_ins 238 1357 = some (.iadd, 1358, 0) := by decide +kernel
theorem i238_1358 : ts_ins 238 1358 = some (.iaload, 1359, 0) := by decide +kernel
theorem i238_1359 : ts_ins 238 1359 = some (.aload_n 0, 1360, 0) := by decide +kernel
theorem i238_1360 : ts_ins 238 1360 = some (.iload_n 3, 1361, 0) := by decide +kernel
theorem i238_1361 : ts_ins 238 1361 = some (.iconst 2, 1362, 0) := by decide +kernel
theorem i238_1362 : ts_ins 238 1362 = some (.iadd, 1363, 0) := by decide +kernel
theorem i238_1363 : ts_ins 238 1363 = some (.iaload, 1364, 0) := by decide +kernel
theorem i238_1364 : ts_ins 238 1364 = some (.aload_n 0, 1365, 0) := by decide +kernel
theorem i238_1365 : ts_ins 238 1365 = some (.iload_n 3, 1366, 0) := by decide +kernel
theorem i238_1366 : ts_ins 238 1366 = some (.iconst 3, 1367, 0) := by decide +kernel
theorem i238_1367 : ts_ins 238 1367 = some (.iadd, 1368, 0) := by decide +kernel
theorem i238_1368 : ts_ins 238 1368 = some (.iaload, 1369, 0) := by decide +kernel
theorem i238_1369 : ts_ins 238 1369 = some (.aload_n 0, 1370, 0) := by decide +kernel
theorem i238_1370 : ts_ins 238 1370 = some (.iload_n 3, 1371, 0) := by decide +kernel
theorem i238_1371 : ts_ins 238 1371 = some (.iconst 4, 1372, 0) := by decide +kernel
theorem i238_1372 : ts_ins 238 1372 = some (.iadd, 1373, 0) := by decide +kernel
theorem i238_1373 : ts_ins 238 1373 = some (.iaload, 1374, 0) := by decide +kernel
theorem i238_1374 : ts_ins 238 1374 = some (.aload_n 0, 1375, 0) := by decide +kernel
theorem i238_1375 : ts_ins 238 1375 = some (.iload_n 3, 1376, 0) := by decide +kernel
theorem i238_1376 : ts_ins 238 1376 = some (.iconst 5, 1377, 0) := by decide +kernel
theorem i238_1377 : ts_ins 238 1377 = some (.iadd, 1378, 0) := by decide +kernel
theorem i238_1378 : ts_ins 238 1378 = some (.iaload, 1379, 0) := by decide +kernel
theorem i238_1379 : ts_ins 238 1379 = some (.invokevirtual 184, 1382, 0) := by decide +kernel
theorem g238_1379 : ts_cal (ts_mc 238) 184 = some (0, 134, 5) := by decide +kernel
theorem i238_1382 : ts_ins 238 1382 = some (.aload_n 2, 1383, 0) := by decide +kernel
theorem i238_1383 : ts_ins 238 1383 = some (.aload_n 0, 1384, 0) := by decide +kernel
theorem i238_1384 : ts_ins 238 1384 = some (.iload_n 3, 1385, 0) := by decide +kernel
theorem i238_1385 : ts_ins 238 1385 = some (.iconst 1, 1386, 0) := by decide +kernel
theorem i238_1386 : ts_ins 238 1386 = some (.iadd, 1387, 0) := by decide +kernel
theorem i238_1387 : ts_ins 238 1387 = some (.iaload, 1388, 0) := by decide +kernel
theorem i238_1388 : ts_ins 238 1388 = some (.aload_n 0, 1389, 0) := by decide +kernel
theorem i238_1389 : ts_ins 238 1389 = some (.iload_n 3, 1390, 0) := by decide +kernel
theorem i238_1390 : ts_ins 238 1390 = some (.iconst 2, 1391, 0) := by decide +kernel
theorem i238_1391 : ts_ins 238 1391 = some (.iadd, 1392, 0) := by decide +kernel
theorem i238_1392 : ts_ins 238 1392 = some (.iaload, 1393, 0) := by decide +kernel
theorem i238_1393 : ts_ins 238 1393 = some (.aload_n 0, 1394, 0) := by decide +kernel
theorem i238_1394 : ts_ins 238 1394 = some (.iload_n 3, 1395, 0) := by decide +kernel
theorem i238_1395 : ts_ins 238 1395 = some (.iconst 3, 1396, 0) := by decide +kernel
theorem i238_1396 : ts_ins 238 1396 = some (.iadd, 1397, 0) := by decide +kernel
theorem i238_1397 : ts_ins 238 1397 = some (.iaload, 1398, 0) := by decide +kernel
theorem i238_1398 : ts_ins 238 1398 = some (.aload_n 0, 1399, 0) := by decide +kernel
theorem i238_1399 : ts_ins 238 1399 = some (.iload_n 3, 1400, 0) := by decide +kernel
theorem i238_1400 : ts_ins 238 1400 = some (.iconst 4, 1401, 0) := by decide +kernel
theorem i238_1401 : ts_ins 238 1401 = some (.iadd, 1402, 0) := by decide +kernel
theorem i238_1402 : ts_ins 238 1402 = some (.iaload, 1403, 0) := by decide +kernel
theorem i238_1403 : ts_ins 238 1403 = some (.aload_n 0, 1404, 0) := by decide +kernel
theorem i238_1404 : ts_ins 238 1404 = some (.iload_n 3, 1405, 0) := by decide +kernel
theorem i238_1405 : ts_ins 238 1405 = some (.iconst 5, 1406, 0) := by decide +kernel
theorem i238_1406 : ts_ins 238 1406 = some (.iadd, 1407, 0) := by decide +kernel
theorem i238_1407 : ts_ins 238 1407 = some (.iaload, 1408, 0) := by decide +kernel
theorem i238_1408 : ts_ins 238 1408 = some (.invokevirtual 188, 1411, 0) := by decide +kernel
theorem g238_1408 : ts_cal (ts_mc 238) 188 = some (0, 235, 5) := by decide +kernel
theorem i238_1411 : ts_ins 238 1411 = some (.if_icmp .eq 61, 1414, 1472) := by decide +kernel
theorem i238_1414 : ts_ins 238 1414 = some (.iconst 0, 1415, 0) := by decide +kernel
theorem i238_1415 : ts_ins 238 1415 = some (.ireturn, 1416, 0) := by decide +kernel
theorem i238_1416 : ts_ins 238 1416 = some (.aload_n 1, 1417, 0) := by decide +kernel
theorem i238_1417 : ts_ins 238 1417 = some (.aload_n 0, 1418, 0) := by decide +kernel
theorem i238_1418 : ts_ins 238 1418 = some (.iload_n 3, 1419, 0) := by decide +kernel
theorem i238_1419 : ts_ins 238 1419 = some (.iconst 1, 1420, 0) := by decide +kernel
theorem i238_1420 : ts_ins 238 1420 = some (.iadd, 1421, 0) := by decide +kernel
theorem i238_1421 : ts_ins 238 1421 = some (.iaload, 1422, 0) := by decide +kernel
theorem i238_1422 : ts_ins 238 1422 = some (.aload_n 0, 1423, 0) := by decide +kernel
theorem i238_1423 : ts_ins 238 1423 = some (.iload_n 3, 1424, 0) := by decide +kernel
theorem i238_1424 : ts_ins 238 1424 = some (.iconst 2, 1425, 0) := by decide +kernel
theorem i238_1425 : ts_ins 238 1425 = some (.iadd, 1426, 0) := by decide +kernel
theorem i238_1426 : ts_ins 238 1426 = some (.iaload, 1427, 0) := by decide +kernel
theorem i238_1427 : ts_ins 238 1427 = some (.invokevirtual 189, 1430, 0) := by decide +kernel
theorem g238_1427 : ts_cal (ts_mc 238) 189 = some (0, 135, 2) := by decide +kernel
theorem i238_1430 : ts_ins 238 1430 = some (.aload_n 2, 1431, 0) := by decide +kernel
theorem i238_1431 : ts_ins 238 1431 = some (.aload_n 0, 1432, 0) := by decide +kernel
theorem i238_1432 : ts_ins 238 1432 = some (.iload_n 3, 1433, 0) := by decide +kernel
theorem i238_1433 : ts_ins 238 1433 = some (.iconst 1, 1434, 0) := by decide +kernel
theorem i238_1434 : ts_ins 238 1434 = some (.iadd, 1435, 0) := by decide +kernel
theorem i238_1435 : ts_ins 238 1435 = some (.iaload, 1436, 0) := by decide +kernel
theorem i238_1436 : ts_ins 238 1436 = some (.aload_n 0, 1437, 0) := by decide +kernel
theorem i238_1437 : ts_ins 238 1437 = some (.iload_n 3, 1438, 0) := by decide +kernel
theorem i238_1438 : ts_ins 238 1438 = some (.iconst 2, 1439, 0) := by decide +kernel
theorem i238_1439 : ts_ins 238 1439 = some (.iadd, 1440, 0) := by decide +kernel
theorem i238_1440 : ts_ins 238 1440 = some (.iaload, 1441, 0) := by decide +kernel
theorem i238_1441 : ts_ins 238 1441 = some (.invokevirtual 192, 1444, 0) := by decide +kernel
theorem g238_1441 : ts_cal (ts_mc 238) 192 = some (0, 236, 2) := by decide +kernel
theorem i238_1444 : ts_ins 238 1444 = some (.if_icmp .eq 28, 1447, 1472) := by decide +kernel
theorem i238_1447 : ts_ins 238 1447 = some (.iconst 0, 1448, 0) := by decide +kernel
theorem i238_1448 : ts_ins 238 1448 = some (.ireturn, 1449, 0) := by decide +kernel
theorem i238_1449 : ts_ins 238 1449 = some (.aload_n 1, 1450, 0) := by decide +kernel
theorem i238_1450 : ts_ins 238 1450 = some (.aload_n 0, 1451, 0) := by decide +kernel
theorem i238_1451 : ts_ins 238 1451 = some (.iload_n 3, 1452, 0) := by decide +kernel
theorem i238_1452 : ts_ins 238 1452 = some (.iconst 1, 1453, 0) := by decide +kernel
theorem i238_1453 : ts_ins 238 1453 = some (.iadd, 1454, 0) := by decide +kernel
theorem i238_1454 : ts_ins 238 1454 = some (.iaload, 1455, 0) := by decide +kernel
theorem i238_1455 : ts_ins 238 1455 = some (.invokevirtual 193, 1458, 0) := by decide +kernel
theorem g238_1455 : ts_cal (ts_mc 238) 193 = some (0, 136, 1) := by decide +kernel
theorem i238_1458 : ts_ins 238 1458 = some (.aload_n 2, 1459, 0) := by decide +kernel
theorem i238_1459 : ts_ins 238 1459 = some (.aload_n 0, 1460, 0) := by decide +kernel
theorem i238_1460 : ts_ins 238 1460 = some (.iload_n 3, 1461, 0) := by decide +kernel
theorem i238_1461 : ts_ins 238 1461 = some (.iconst 1, 1462, 0) := by decide +kernel
theorem i238_1462 : ts_ins 238 1462 = some (.iadd, 1463, 0) := by decide +kernel
theorem i238_1463 : ts_ins 238 1463 = some (.iaload, 1464, 0) := by decide +kernel
theorem i238_1464 : ts_ins 238 1464 = some (.invokevirtual 196, 1467, 0) := by decide +kernel
theorem g238_1464 : ts_cal (ts_mc 238) 196 = some (0, 237, 1) := by decide +kernel
theorem i238_1467 : ts_ins 238 1467 = some (.if_icmp .eq 5, 1470, 1472) := by decide +kernel
theorem i238_1470 : ts_ins 238 1470 = some (.iconst 0, 1471, 0) := by decide +kernel
theorem i238_1471 : ts_ins 238 1471 = some (.ireturn, 1472, 0) := by decide +kernel
theorem i238_1472 : ts_ins 238 1472 = some (.iinc 3 6, 1475, 0) := by decide +kernel
theorem i238_1475 : ts_ins 238 1475 = some (.goto (-1457), 1478, 18) := by decide +kernel
theorem i238_1478 : ts_ins 238 1478 = some (.iconst 1, 1479, 0) := by decide +kernel
theorem i238_1479 : ts_ins 238 1479 = some (.ireturn, 1480, 0) := by decide +kernel
theorem r238 : ts_rt 238 = ((some .boolean), 96, 3515) := by decide +kernel
theorem l238 : ts_ml 238 = 4 := by decide +kernel
/-! THE DRIVER: what holds ahead of each call; each call answers alike and keeps it -/
def XR (I : Nat → Nat → Int32) (L : Nat → Nat → Int64) (sw : Bool) (B : Int) (f : ts_Fl) (s : ts_Sh) (c : ts_Ch) (t : ts_Ta) (b : ts_Bo) (w : ts_Lw) (e : ts_De) (im : ts_Im) : Prop := RX I f ∧ RXs I L s ∧ RXc I c ∧ RXt I t ∧ RXb I b ∧ RXw I sw w ∧ RXd I B e ∧ RXi I B im
def MR (I : Nat → Nat → Int32) (L : Nat → Nat → Int64) (B : Int) (f : ts_Fl) (s : ts_Sh) (c : ts_Ch) (t : ts_Ta) (b : ts_Bo) (w : ts_Lw) (e : ts_De) (im : ts_Im) : Prop := RM I f ∧ RMs I L s ∧ RMc I c ∧ RMt I t ∧ RMb I b ∧ RMw I w ∧ RMd I B e ∧ RMi I B im
def PR (f : ts_Fl) (s : ts_Sh) (c : ts_Ch) (b : ts_Bo) (w : ts_Lw) : Prop := RO f ∧ ROs s ∧ ROc f c ∧ FLK s b ∧ ROw w
abbrev tsC (n : Nat) (xf : Nat → Int32) (d : Nat) : ts_C := ts_Cal (n, xf) (d + 100)
theorem lg_cmp_self (a : Int64) : lg_cmp a a = 0 := by
  unfold lg_cmp
  simp
section DR
variable {n : Nat} {xf : Nat → Int32} {d : Nat} {I J : Nat → Nat → Int32} {L M : Nat → Nat → Int64} {sw : Bool} {K : Option Value → ts_H → Prop} {B i : Int} {f : ts_Fl} {s : ts_Sh} {c : ts_Ch} {t : ts_Ta} {b : ts_Bo} {w : ts_Lw} {e : ts_De} {im : ts_Im}
theorem XR.up (h : XR I L sw B f s c t b w e im) : XR I L sw (B + 1) f s c t b w e im := ⟨h.1, h.2.1, h.2.2.1, h.2.2.2.1, h.2.2.2.2.1, h.2.2.2.2.2.1, h.2.2.2.2.2.2.1.up, h.2.2.2.2.2.2.2.up⟩
theorem MR.up (h : MR I L B f s c t b w e im) : MR I L (B + 1) f s c t b w e im := ⟨h.1, h.2.1, h.2.2.1, h.2.2.2.1, h.2.2.2.2.1, h.2.2.2.2.2.1, h.2.2.2.2.2.2.1.up, h.2.2.2.2.2.2.2.up⟩
theorem XR.co (h : XR I L sw B f s c t b w e im) (q : ∀ a, a ≤ 71 → J a = I a) (qL : ∀ a, a ≤ 71 → M a = L a) : XR J M sw B f s c t b w e im := by
  obtain ⟨x1, x2, x3, x4, x5, x6, x7, x8⟩ := h
  exact ⟨x1.co (fun a a0 a1 => q a (by omega)), x2.co (fun a a0 a1 => ⟨q a (by omega), qL a (by omega)⟩), x3.co (fun a k a0 a1 => congrFun (q a (by omega)) k), x4.co (congrFun (q 24 (by omega)) 1) (q 25 (by omega)), x5.co (congrFun (q 56 (by omega)) 2) (congrFun (q 56 (by omega)) 3) (q 57 (by omega)) (q 58 (by omega)), x6.co (congrFun (q 2 (by omega)) 12) (fun a p => q a (by omega)), x7.co (fun a a0 a1 => q a (by omega)), x8.co (congrFun (q 1 (by omega)) 9) (fun a a0 a1 => q a (by omega))⟩
theorem MR.co (h : MR I L B f s c t b w e im) (q : ∀ a, 72 ≤ a → J a = I a) (qL : ∀ a, 72 ≤ a → M a = L a) : MR J M B f s c t b w e im := by
  obtain ⟨m1, m2, m3, m4, m5, m6, m7, m8⟩ := h
  have q72 : ∀ k, J 72 k = I 72 k := fun k => congrFun (q 72 (by omega)) k
  exact ⟨m1.co (fun a a0 a1 => q a (by omega)), m2.co (fun a a0 a1 => ⟨q a (by omega), qL a (by omega)⟩), m3.co (fun a a0 a1 => q a (by omega)) (q72 4) (q72 5), m4.co (q72 10) (q 78 (by omega)), m5.co (q72 32) (q72 35) (q 91 (by omega)) (q 92 (by omega)), m6.co (q72 12) (q 79 (by omega)), m7.co (fun a a0 a1 => q a (by omega)), m8.co (q72 28) (fun a a0 a1 => q a (by omega))⟩
theorem D_man (hX : XR I L sw B f s c t b w e im) (hM : MR I L B f s c t b w e im) (hP : PR f s c b w) (hB : 0 ≤ B ∧ B ≤ 512) (hn : n ≤ 3072) (hi : 0 ≤ i ∧ i + 6 ≤ n) (hK : ∀ (J : Nat → Nat → Int32) (M : Nat → Nat → Int64) (sw : Bool) (f : ts_Fl) (s : ts_Sh) (c : ts_Ch) (t : ts_Ta) (b : ts_Bo) (w : ts_Lw) (e : ts_De) (im : ts_Im), XR J M sw (B + 1) f s c t b w e im → MR J M (B + 1) f s c t b w e im → PR f s c b w → ts_Ev (n, xf) (tsC n xf d) 238 [] K 18 [.ref 1000, .ref 1, .ref 72, .int (zI (i + 6))] [] (J, M, ts_P0 sw, ts_S0)) : ts_Ev (n, xf) (tsC n xf d) 238 [] K 220 [.ref 1000, .ref 1, .ref 72, .int (zI (i))] [] (I, L, ts_P0 sw, ts_S0) := by
  obtain ⟨x1, x2, x3, x4, x5, x6, x7, x8⟩ := hX
  have hM0 := hM
  obtain ⟨m1, m2, m3, m4, m5, m6, m7, m8⟩ := hM
  obtain ⟨p1, p2, p3, p4, p5⟩ := hP
  refine ev_aloadn_1 i238_220 ?_
  refine ev_aloadn_0 i238_221 ?_
  refine ev_iloadn_3 i238_222 ?_
  refine ew_iconst i238_223 ?_
  refine ew_iadd i238_224 ?_
  refine ew_iaload i238_225 rfl (by omega) (by omega) (by omega) (by first | exact rd_any _ | exact hX.men | exact hX.told | exact hX.road | exact hX.tone _ (by omega) (by omega) | exact hX.corn _ (by omega) (by omega) | exact hX.stand _ (by omega) (by omega) | exact hX.reach _ (by omega) (by omega) | exact hX.arm _ (by omega) (by omega) | exact hX.late _ (by omega) (by omega) | exact hX.len _ (by omega) (by omega) | exact hX.say (by omega) (by omega) _ (by omega) (by omega)) (fun b225 => ?_)
  refine ev_virt1 i238_226 g238_226 rfl (by decide +kernel) (Nat.le_of_ble_eq_true rfl) (x_man x1 (zI_r _) (fun J h1 g1 => ?_))
  obtain ⟨n1, n2, n3, n4, n5, n6, n7, n8⟩ := hM0.co (fun a a0 => fr_row h1 (fun k => by omega)) (fun _ _ => rfl)
  refine ev_aloadn_2 i238_229 ?_
  refine ev_aloadn_0 i238_230 ?_
  refine ev_iloadn_3 i238_231 ?_
  refine ew_iconst i238_232 ?_
  refine ew_iadd i238_233 ?_
  refine ew_iaload i238_234 rfl (by omega) (by omega) (by omega) (by first | exact rd_any _ | exact hX.men | exact hX.told | exact hX.road | exact hX.tone _ (by omega) (by omega) | exact hX.corn _ (by omega) (by omega) | exact hX.stand _ (by omega) (by omega) | exact hX.reach _ (by omega) (by omega) | exact hX.arm _ (by omega) (by omega) | exact hX.late _ (by omega) (by omega) | exact hX.len _ (by omega) (by omega) | exact hX.say (by omega) (by omega) _ (by omega) (by omega)) (fun b234 => ?_)
  refine ev_virt1 i238_235 g238_235 rfl (by decide +kernel) (Nat.le_of_ble_eq_true rfl) (m_man n1 p1 (zI_r _) (fun N h2 g2 => ?_))
  refine ev_icmpeq i238_238 (fun _ => ?_) (fun q => absurd rfl q)
  have hX2 : XR J L sw B (g_manF f (xf (i + 1).toNat).toInt) s c t b w e im := ⟨g1, x2.co (fun a a0 a1 => ⟨fr_row h1 (fun k => by omega), rfl⟩), x3.co (fun a k a0 a1 => h1 a k (by omega)), x4.co (h1 24 1 (by omega)) (fr_row h1 (fun k => by omega)), x5.co (h1 56 2 (by omega)) (h1 56 3 (by omega)) (fr_row h1 (fun k => by omega)) (fr_row h1 (fun k => by omega)), x6.co (h1 2 12 (by omega)) (fun a p => fr_row h1 (fun k => by omega)), x7.co (fun a a0 a1 => fr_row h1 (fun k => by omega)), x8.co (h1 1 9 (by omega)) (fun a a0 a1 => fr_row h1 (fun k => by omega))⟩
  have hM2 : MR N L B (g_manF f (xf (i + 1).toNat).toInt) s c t b w e im := ⟨g2, n2.co (fun a a0 a1 => ⟨fr_row h2 (fun k => by omega), rfl⟩), n3.co (fun a a0 a1 => fr_row h2 (fun k => by omega)) (h2 72 4 (by omega)) (h2 72 5 (by omega)), n4.co (h2 72 10 (by omega)) (fr_row h2 (fun k => by omega)), n5.co (h2 72 32 (by omega)) (h2 72 35 (by omega)) (fr_row h2 (fun k => by omega)) (fr_row h2 (fun k => by omega)), n6.co (h2 72 12 (by omega)) (fr_row h2 (fun k => by omega)), n7.co (fun a a0 a1 => fr_row h2 (fun k => by omega)), n8.co (h2 72 28 (by omega)) (fun a a0 a1 => fr_row h2 (fun k => by omega))⟩
  have hP2 : PR (g_manF f (xf (i + 1).toNat).toInt) s c b w := ⟨p1.man x1.men.2.1 _, p2, p3.man _, p4, p5⟩
  have hX3 : XR N L sw B (g_manF f (xf (i + 1).toNat).toInt) s c t b w e im := hX2.co (fun a a0 => fr_row h2 (fun k => by omega)) (fun _ _ => rfl)
  refine ew_iinc_3 i238_1472 rfl ?_
  refine ev_goto i238_1475 ?_
  exact hK _ _ _ _ _ _ _ _ _ _ _ hX3.up hM2.up hP2
theorem D_saying (hX : XR I L sw B f s c t b w e im) (hM : MR I L B f s c t b w e im) (hP : PR f s c b w) (hB : 0 ≤ B ∧ B ≤ 512) (hn : n ≤ 3072) (hi : 0 ≤ i ∧ i + 6 ≤ n) (hK : ∀ (J : Nat → Nat → Int32) (M : Nat → Nat → Int64) (sw : Bool) (f : ts_Fl) (s : ts_Sh) (c : ts_Ch) (t : ts_Ta) (b : ts_Bo) (w : ts_Lw) (e : ts_De) (im : ts_Im), XR J M sw (B + 1) f s c t b w e im → MR J M (B + 1) f s c t b w e im → PR f s c b w → ts_Ev (n, xf) (tsC n xf d) 238 [] K 18 [.ref 1000, .ref 1, .ref 72, .int (zI (i + 6))] [] (J, M, ts_P0 sw, ts_S0)) : ts_Ev (n, xf) (tsC n xf d) 238 [] K 243 [.ref 1000, .ref 1, .ref 72, .int (zI (i))] [] (I, L, ts_P0 sw, ts_S0) := by
  obtain ⟨x1, x2, x3, x4, x5, x6, x7, x8⟩ := hX
  have hM0 := hM
  obtain ⟨m1, m2, m3, m4, m5, m6, m7, m8⟩ := hM
  obtain ⟨p1, p2, p3, p4, p5⟩ := hP
  refine ev_aloadn_1 i238_243 ?_
  refine ev_aloadn_0 i238_244 ?_
  refine ev_iloadn_3 i238_245 ?_
  refine ew_iconst i238_246 ?_
  refine ew_iadd i238_247 ?_
  refine ew_iaload i238_248 rfl (by omega) (by omega) (by omega) (by first | exact rd_any _ | exact hX.men | exact hX.told | exact hX.road | exact hX.tone _ (by omega) (by omega) | exact hX.corn _ (by omega) (by omega) | exact hX.stand _ (by omega) (by omega) | exact hX.reach _ (by omega) (by omega) | exact hX.arm _ (by omega) (by omega) | exact hX.late _ (by omega) (by omega) | exact hX.len _ (by omega) (by omega) | exact hX.say (by omega) (by omega) _ (by omega) (by omega)) (fun b248 => ?_)
  refine ev_aloadn_0 i238_249 ?_
  refine ev_iloadn_3 i238_250 ?_
  refine ew_iconst i238_251 ?_
  refine ew_iadd i238_252 ?_
  refine ew_iaload i238_253 rfl (by omega) (by omega) (by omega) (by first | exact rd_any _ | exact hX.men | exact hX.told | exact hX.road | exact hX.tone _ (by omega) (by omega) | exact hX.corn _ (by omega) (by omega) | exact hX.stand _ (by omega) (by omega) | exact hX.reach _ (by omega) (by omega) | exact hX.arm _ (by omega) (by omega) | exact hX.late _ (by omega) (by omega) | exact hX.len _ (by omega) (by omega) | exact hX.say (by omega) (by omega) _ (by omega) (by omega)) (fun b253 => ?_)
  refine ev_aloadn_0 i238_254 ?_
  refine ev_iloadn_3 i238_255 ?_
  refine ew_iconst i238_256 ?_
  refine ew_iadd i238_257 ?_
  refine ew_iaload i238_258 rfl (by omega) (by omega) (by omega) (by first | exact rd_any _ | exact hX.men | exact hX.told | exact hX.road | exact hX.tone _ (by omega) (by omega) | exact hX.corn _ (by omega) (by omega) | exact hX.stand _ (by omega) (by omega) | exact hX.reach _ (by omega) (by omega) | exact hX.arm _ (by omega) (by omega) | exact hX.late _ (by omega) (by omega) | exact hX.len _ (by omega) (by omega) | exact hX.say (by omega) (by omega) _ (by omega) (by omega)) (fun b258 => ?_)
  refine ev_virt3 i238_259 g238_259 rfl (by decide +kernel) (Nat.le_of_ble_eq_true rfl) (x_saying x1 x2 (zI_r _) (zI_r _) (zI_r _) (fun J h1 g1 => ?_))
  obtain ⟨n1, n2, n3, n4, n5, n6, n7, n8⟩ := hM0.co (fun a a0 => fr_row h1 (fun k => by omega)) (fun _ _ => rfl)
  refine ev_aloadn_2 i238_262 ?_
  refine ev_aloadn_0 i238_263 ?_
  refine ev_iloadn_3 i238_264 ?_
  refine ew_iconst i238_265 ?_
  refine ew_iadd i238_266 ?_
  refine ew_iaload i238_267 rfl (by omega) (by omega) (by omega) (by first | exact rd_any _ | exact hX.men | exact hX.told | exact hX.road | exact hX.tone _ (by omega) (by omega) | exact hX.corn _ (by omega) (by omega) | exact hX.stand _ (by omega) (by omega) | exact hX.reach _ (by omega) (by omega) | exact hX.arm _ (by omega) (by omega) | exact hX.late _ (by omega) (by omega) | exact hX.len _ (by omega) (by omega) | exact hX.say (by omega) (by omega) _ (by omega) (by omega)) (fun b267 => ?_)
  refine ev_aloadn_0 i238_268 ?_
  refine ev_iloadn_3 i238_269 ?_
  refine ew_iconst i238_270 ?_
  refine ew_iadd i238_271 ?_
  refine ew_iaload i238_272 rfl (by omega) (by omega) (by omega) (by first | exact rd_any _ | exact hX.men | exact hX.told | exact hX.road | exact hX.tone _ (by omega) (by omega) | exact hX.corn _ (by omega) (by omega) | exact hX.stand _ (by omega) (by omega) | exact hX.reach _ (by omega) (by omega) | exact hX.arm _ (by omega) (by omega) | exact hX.late _ (by omega) (by omega) | exact hX.len _ (by omega) (by omega) | exact hX.say (by omega) (by omega) _ (by omega) (by omega)) (fun b272 => ?_)
  refine ev_aloadn_0 i238_273 ?_
  refine ev_iloadn_3 i238_274 ?_
  refine ew_iconst i238_275 ?_
  refine ew_iadd i238_276 ?_
  refine ew_iaload i238_277 rfl (by omega) (by omega) (by omega) (by first | exact rd_any _ | exact hX.men | exact hX.told | exact hX.road | exact hX.tone _ (by omega) (by omega) | exact hX.corn _ (by omega) (by omega) | exact hX.stand _ (by omega) (by omega) | exact hX.reach _ (by omega) (by omega) | exact hX.arm _ (by omega) (by omega) | exact hX.late _ (by omega) (by omega) | exact hX.len _ (by omega) (by omega) | exact hX.say (by omega) (by omega) _ (by omega) (by omega)) (fun b277 => ?_)
  refine ev_virt3 i238_278 g238_278 rfl (by decide +kernel) (Nat.le_of_ble_eq_true rfl) (m_saying n1 n2 (zI_r _) (zI_r _) (zI_r _) (fun N h2 g2 => ?_))
  refine ev_icmpeq i238_281 (fun _ => ?_) (fun q => absurd rfl q)
  have hX2 : XR J L sw B (g_sayF s f (xf (i + 1).toNat).toInt (xf (i + 2).toNat).toInt (xf (i + 3).toNat).toInt) s c t b w e im := ⟨g1, x2.co (fun a a0 a1 => ⟨fr_row h1 (fun k => by omega), rfl⟩), x3.co (fun a k a0 a1 => h1 a k (by omega)), x4.co (h1 24 1 (by omega)) (fr_row h1 (fun k => by omega)), x5.co (h1 56 2 (by omega)) (h1 56 3 (by omega)) (fr_row h1 (fun k => by omega)) (fr_row h1 (fun k => by omega)), x6.co (h1 2 12 (by omega)) (fun a p => fr_row h1 (fun k => by omega)), x7.co (fun a a0 a1 => fr_row h1 (fun k => by omega)), x8.co (h1 1 9 (by omega)) (fun a a0 a1 => fr_row h1 (fun k => by omega))⟩
  have hM2 : MR N L B (g_sayF s f (xf (i + 1).toNat).toInt (xf (i + 2).toNat).toInt (xf (i + 3).toNat).toInt) s c t b w e im := ⟨g2, n2.co (fun a a0 a1 => ⟨fr_row h2 (fun k => by omega), rfl⟩), n3.co (fun a a0 a1 => fr_row h2 (fun k => by omega)) (h2 72 4 (by omega)) (h2 72 5 (by omega)), n4.co (h2 72 10 (by omega)) (fr_row h2 (fun k => by omega)), n5.co (h2 72 32 (by omega)) (h2 72 35 (by omega)) (fr_row h2 (fun k => by omega)) (fr_row h2 (fun k => by omega)), n6.co (h2 72 12 (by omega)) (fr_row h2 (fun k => by omega)), n7.co (fun a a0 a1 => fr_row h2 (fun k => by omega)), n8.co (h2 72 28 (by omega)) (fun a a0 a1 => fr_row h2 (fun k => by omega))⟩
  have hP2 : PR (g_sayF s f (xf (i + 1).toNat).toInt (xf (i + 2).toNat).toInt (xf (i + 3).toNat).toInt) s c b w := ⟨p1.saying x1.told.2.1, p2, p3.saying, p4, p5⟩
  have hX3 : XR N L sw B (g_sayF s f (xf (i + 1).toNat).toInt (xf (i + 2).toNat).toInt (xf (i + 3).toNat).toInt) s c t b w e im := hX2.co (fun a a0 => fr_row h2 (fun k => by omega)) (fun _ _ => rfl)
  refine ew_iinc_3 i238_1472 rfl ?_
  refine ev_goto i238_1475 ?_
  exact hK _ _ _ _ _ _ _ _ _ _ _ hX3.up hM2.up hP2
theorem D_mend (hX : XR I L sw B f s c t b w e im) (hM : MR I L B f s c t b w e im) (hP : PR f s c b w) (hB : 0 ≤ B ∧ B ≤ 512) (hn : n ≤ 3072) (hi : 0 ≤ i ∧ i + 6 ≤ n) (hK : ∀ (J : Nat → Nat → Int32) (M : Nat → Nat → Int64) (sw : Bool) (f : ts_Fl) (s : ts_Sh) (c : ts_Ch) (t : ts_Ta) (b : ts_Bo) (w : ts_Lw) (e : ts_De) (im : ts_Im), XR J M sw (B + 1) f s c t b w e im → MR J M (B + 1) f s c t b w e im → PR f s c b w → ts_Ev (n, xf) (tsC n xf d) 238 [] K 18 [.ref 1000, .ref 1, .ref 72, .int (zI (i + 6))] [] (J, M, ts_P0 sw, ts_S0)) : ts_Ev (n, xf) (tsC n xf d) 238 [] K 286 [.ref 1000, .ref 1, .ref 72, .int (zI (i))] [] (I, L, ts_P0 sw, ts_S0) := by
  obtain ⟨x1, x2, x3, x4, x5, x6, x7, x8⟩ := hX
  have hM0 := hM
  obtain ⟨m1, m2, m3, m4, m5, m6, m7, m8⟩ := hM
  obtain ⟨p1, p2, p3, p4, p5⟩ := hP
  refine ev_aloadn_1 i238_286 ?_
  refine ev_aloadn_0 i238_287 ?_
  refine ev_iloadn_3 i238_288 ?_
  refine ew_iconst i238_289 ?_
  refine ew_iadd i238_290 ?_
  refine ew_iaload i238_291 rfl (by omega) (by omega) (by omega) (by first | exact rd_any _ | exact hX.men | exact hX.told | exact hX.road | exact hX.tone _ (by omega) (by omega) | exact hX.corn _ (by omega) (by omega) | exact hX.stand _ (by omega) (by omega) | exact hX.reach _ (by omega) (by omega) | exact hX.arm _ (by omega) (by omega) | exact hX.late _ (by omega) (by omega) | exact hX.len _ (by omega) (by omega) | exact hX.say (by omega) (by omega) _ (by omega) (by omega)) (fun b291 => ?_)
  refine ev_aloadn_0 i238_292 ?_
  refine ev_iloadn_3 i238_293 ?_
  refine ew_iconst i238_294 ?_
  refine ew_iadd i238_295 ?_
  refine ew_iaload i238_296 rfl (by omega) (by omega) (by omega) (by first | exact rd_any _ | exact hX.men | exact hX.told | exact hX.road | exact hX.tone _ (by omega) (by omega) | exact hX.corn _ (by omega) (by omega) | exact hX.stand _ (by omega) (by omega) | exact hX.reach _ (by omega) (by omega) | exact hX.arm _ (by omega) (by omega) | exact hX.late _ (by omega) (by omega) | exact hX.len _ (by omega) (by omega) | exact hX.say (by omega) (by omega) _ (by omega) (by omega)) (fun b296 => ?_)
  refine ev_aloadn_0 i238_297 ?_
  refine ev_iloadn_3 i238_298 ?_
  refine ew_iconst i238_299 ?_
  refine ew_iadd i238_300 ?_
  refine ew_iaload i238_301 rfl (by omega) (by omega) (by omega) (by first | exact rd_any _ | exact hX.men | exact hX.told | exact hX.road | exact hX.tone _ (by omega) (by omega) | exact hX.corn _ (by omega) (by omega) | exact hX.stand _ (by omega) (by omega) | exact hX.reach _ (by omega) (by omega) | exact hX.arm _ (by omega) (by omega) | exact hX.late _ (by omega) (by omega) | exact hX.len _ (by omega) (by omega) | exact hX.say (by omega) (by omega) _ (by omega) (by omega)) (fun b301 => ?_)
  refine ev_virt3 i238_302 g238_302 rfl (by decide +kernel) (Nat.le_of_ble_eq_true rfl) (x_mend x1 x3 (zI_r _) (zI_r _) (zI_r _) (fun J h1 g1 g3 => ?_))
  obtain ⟨n1, n2, n3, n4, n5, n6, n7, n8⟩ := hM0.co (fun a a0 => fr_row h1 (fun k => by omega)) (fun _ _ => rfl)
  refine ev_aloadn_2 i238_305 ?_
  refine ev_aloadn_0 i238_306 ?_
  refine ev_iloadn_3 i238_307 ?_
  refine ew_iconst i238_308 ?_
  refine ew_iadd i238_309 ?_
  refine ew_iaload i238_310 rfl (by omega) (by omega) (by omega) (by first | exact rd_any _ | exact hX.men | exact hX.told | exact hX.road | exact hX.tone _ (by omega) (by omega) | exact hX.corn _ (by omega) (by omega) | exact hX.stand _ (by omega) (by omega) | exact hX.reach _ (by omega) (by omega) | exact hX.arm _ (by omega) (by omega) | exact hX.late _ (by omega) (by omega) | exact hX.len _ (by omega) (by omega) | exact hX.say (by omega) (by omega) _ (by omega) (by omega)) (fun b310 => ?_)
  refine ev_aloadn_0 i238_311 ?_
  refine ev_iloadn_3 i238_312 ?_
  refine ew_iconst i238_313 ?_
  refine ew_iadd i238_314 ?_
  refine ew_iaload i238_315 rfl (by omega) (by omega) (by omega) (by first | exact rd_any _ | exact hX.men | exact hX.told | exact hX.road | exact hX.tone _ (by omega) (by omega) | exact hX.corn _ (by omega) (by omega) | exact hX.stand _ (by omega) (by omega) | exact hX.reach _ (by omega) (by omega) | exact hX.arm _ (by omega) (by omega) | exact hX.late _ (by omega) (by omega) | exact hX.len _ (by omega) (by omega) | exact hX.say (by omega) (by omega) _ (by omega) (by omega)) (fun b315 => ?_)
  refine ev_aloadn_0 i238_316 ?_
  refine ev_iloadn_3 i238_317 ?_
  refine ew_iconst i238_318 ?_
  refine ew_iadd i238_319 ?_
  refine ew_iaload i238_320 rfl (by omega) (by omega) (by omega) (by first | exact rd_any _ | exact hX.men | exact hX.told | exact hX.road | exact hX.tone _ (by omega) (by omega) | exact hX.corn _ (by omega) (by omega) | exact hX.stand _ (by omega) (by omega) | exact hX.reach _ (by omega) (by omega) | exact hX.arm _ (by omega) (by omega) | exact hX.late _ (by omega) (by omega) | exact hX.len _ (by omega) (by omega) | exact hX.say (by omega) (by omega) _ (by omega) (by omega)) (fun b320 => ?_)
  refine ev_virt3 i238_321 g238_321 rfl (by decide +kernel) (Nat.le_of_ble_eq_true rfl) (m_mend n1 n3 (zI_r _) (zI_r _) (zI_r _) (fun N h2 g2 g4 => ?_))
  refine ev_icmpeq i238_324 (fun _ => ?_) (fun q => absurd rfl q)
  have hX2 : XR J L sw B (g_mendF f (xf (i + 1).toNat).toInt (xf (i + 2).toNat).toInt (xf (i + 3).toNat).toInt) s (g_mendC f c (xf (i + 1).toNat).toInt (xf (i + 2).toNat).toInt (xf (i + 3).toNat).toInt) t b w e im := ⟨g1, x2.co (fun a a0 a1 => ⟨fr_row h1 (fun k => by omega), rfl⟩), g3, x4.co (h1 24 1 (by omega)) (fr_row h1 (fun k => by omega)), x5.co (h1 56 2 (by omega)) (h1 56 3 (by omega)) (fr_row h1 (fun k => by omega)) (fr_row h1 (fun k => by omega)), x6.co (h1 2 12 (by omega)) (fun a p => fr_row h1 (fun k => by omega)), x7.co (fun a a0 a1 => fr_row h1 (fun k => by omega)), x8.co (h1 1 9 (by omega)) (fun a a0 a1 => fr_row h1 (fun k => by omega))⟩
  have hM2 : MR N L B (g_mendF f (xf (i + 1).toNat).toInt (xf (i + 2).toNat).toInt (xf (i + 3).toNat).toInt) s (g_mendC f c (xf (i + 1).toNat).toInt (xf (i + 2).toNat).toInt (xf (i + 3).toNat).toInt) t b w e im := ⟨g2, n2.co (fun a a0 a1 => ⟨fr_row h2 (fun k => by omega), rfl⟩), g4, n4.co (h2 72 10 (by omega)) (fr_row h2 (fun k => by omega)), n5.co (h2 72 32 (by omega)) (h2 72 35 (by omega)) (fr_row h2 (fun k => by omega)) (fr_row h2 (fun k => by omega)), n6.co (h2 72 12 (by omega)) (fr_row h2 (fun k => by omega)), n7.co (fun a a0 a1 => fr_row h2 (fun k => by omega)), n8.co (h2 72 28 (by omega)) (fun a a0 a1 => fr_row h2 (fun k => by omega))⟩
  have hP2 : PR (g_mendF f (xf (i + 1).toNat).toInt (xf (i + 2).toNat).toInt (xf (i + 3).toNat).toInt) s (g_mendC f c (xf (i + 1).toNat).toInt (xf (i + 2).toNat).toInt (xf (i + 3).toNat).toInt) b w := ⟨p1.mend, p2, p3.mend x1 x3.1.2, p4, p5⟩
  have hX3 : XR N L sw B (g_mendF f (xf (i + 1).toNat).toInt (xf (i + 2).toNat).toInt (xf (i + 3).toNat).toInt) s (g_mendC f c (xf (i + 1).toNat).toInt (xf (i + 2).toNat).toInt (xf (i + 3).toNat).toInt) t b w e im := hX2.co (fun a a0 => fr_row h2 (fun k => by omega)) (fun _ _ => rfl)
  refine ew_iinc_3 i238_1472 rfl ?_
  refine ev_goto i238_1475 ?_
  exact hK _ _ _ _ _ _ _ _ _ _ _ hX3.up hM2.up hP2
theorem D_of (hX : XR I L sw B f s c t b w e im) (hM : MR I L B f s c t b w e im) (hP : PR f s c b w) (hB : 0 ≤ B ∧ B ≤ 512) (hn : n ≤ 3072) (hi : 0 ≤ i ∧ i + 6 ≤ n) (hK : ∀ (J : Nat → Nat → Int32) (M : Nat → Nat → Int64) (sw : Bool) (f : ts_Fl) (s : ts_Sh) (c : ts_Ch) (t : ts_Ta) (b : ts_Bo) (w : ts_Lw) (e : ts_De) (im : ts_Im), XR J M sw (B + 1) f s c t b w e im → MR J M (B + 1) f s c t b w e im → PR f s c b w → ts_Ev (n, xf) (tsC n xf d) 238 [] K 18 [.ref 1000, .ref 1, .ref 72, .int (zI (i + 6))] [] (J, M, ts_P0 sw, ts_S0)) : ts_Ev (n, xf) (tsC n xf d) 238 [] K 329 [.ref 1000, .ref 1, .ref 72, .int (zI (i))] [] (I, L, ts_P0 sw, ts_S0) := by
  obtain ⟨x1, x2, x3, x4, x5, x6, x7, x8⟩ := hX
  have hM0 := hM
  obtain ⟨m1, m2, m3, m4, m5, m6, m7, m8⟩ := hM
  obtain ⟨p1, p2, p3, p4, p5⟩ := hP
  refine ev_aloadn_1 i238_329 ?_
  refine ev_aloadn_0 i238_330 ?_
  refine ev_iloadn_3 i238_331 ?_
  refine ew_iconst i238_332 ?_
  refine ew_iadd i238_333 ?_
  refine ew_iaload i238_334 rfl (by omega) (by omega) (by omega) (by first | exact rd_any _ | exact hX.men | exact hX.told | exact hX.road | exact hX.tone _ (by omega) (by omega) | exact hX.corn _ (by omega) (by omega) | exact hX.stand _ (by omega) (by omega) | exact hX.reach _ (by omega) (by omega) | exact hX.arm _ (by omega) (by omega) | exact hX.late _ (by omega) (by omega) | exact hX.len _ (by omega) (by omega) | exact hX.say (by omega) (by omega) _ (by omega) (by omega)) (fun b334 => ?_)
  refine ev_aloadn_0 i238_335 ?_
  refine ev_iloadn_3 i238_336 ?_
  refine ew_iconst i238_337 ?_
  refine ew_iadd i238_338 ?_
  refine ew_iaload i238_339 rfl (by omega) (by omega) (by omega) (by first | exact rd_any _ | exact hX.men | exact hX.told | exact hX.road | exact hX.tone _ (by omega) (by omega) | exact hX.corn _ (by omega) (by omega) | exact hX.stand _ (by omega) (by omega) | exact hX.reach _ (by omega) (by omega) | exact hX.arm _ (by omega) (by omega) | exact hX.late _ (by omega) (by omega) | exact hX.len _ (by omega) (by omega) | exact hX.say (by omega) (by omega) _ (by omega) (by omega)) (fun b339 => ?_)
  refine ev_virt2 i238_340 g238_340 rfl (by decide +kernel) (Nat.le_of_ble_eq_true rfl) (x_of x1 (zI_r _) (zI_r _) ?_)
  refine ev_aloadn_2 i238_343 ?_
  refine ev_aloadn_0 i238_344 ?_
  refine ev_iloadn_3 i238_345 ?_
  refine ew_iconst i238_346 ?_
  refine ew_iadd i238_347 ?_
  refine ew_iaload i238_348 rfl (by omega) (by omega) (by omega) (by first | exact rd_any _ | exact hX.men | exact hX.told | exact hX.road | exact hX.tone _ (by omega) (by omega) | exact hX.corn _ (by omega) (by omega) | exact hX.stand _ (by omega) (by omega) | exact hX.reach _ (by omega) (by omega) | exact hX.arm _ (by omega) (by omega) | exact hX.late _ (by omega) (by omega) | exact hX.len _ (by omega) (by omega) | exact hX.say (by omega) (by omega) _ (by omega) (by omega)) (fun b348 => ?_)
  refine ev_aloadn_0 i238_349 ?_
  refine ev_iloadn_3 i238_350 ?_
  refine ew_iconst i238_351 ?_
  refine ew_iadd i238_352 ?_
  refine ew_iaload i238_353 rfl (by omega) (by omega) (by omega) (by first | exact rd_any _ | exact hX.men | exact hX.told | exact hX.road | exact hX.tone _ (by omega) (by omega) | exact hX.corn _ (by omega) (by omega) | exact hX.stand _ (by omega) (by omega) | exact hX.reach _ (by omega) (by omega) | exact hX.arm _ (by omega) (by omega) | exact hX.late _ (by omega) (by omega) | exact hX.len _ (by omega) (by omega) | exact hX.say (by omega) (by omega) _ (by omega) (by omega)) (fun b353 => ?_)
  refine ev_virt2 i238_354 g238_354 rfl (by decide +kernel) (Nat.le_of_ble_eq_true rfl) (m_of m1 (zI_r _) (zI_r _) ?_)
  refine ev_icmpeq i238_357 (fun _ => ?_) (fun q => absurd rfl q)
  refine ew_iinc_3 i238_1472 rfl ?_
  refine ev_goto i238_1475 ?_
  exact hK _ _ _ _ _ _ _ _ _ _ _ (XR.up ⟨x1, x2, x3, x4, x5, x6, x7, x8⟩) hM0.up ⟨p1, p2, p3, p4, p5⟩
theorem D_feed (hX : XR I L sw B f s c t b w e im) (hM : MR I L B f s c t b w e im) (hP : PR f s c b w) (hB : 0 ≤ B ∧ B ≤ 512) (hn : n ≤ 3072) (hi : 0 ≤ i ∧ i + 6 ≤ n) (hK : ∀ (J : Nat → Nat → Int32) (M : Nat → Nat → Int64) (sw : Bool) (f : ts_Fl) (s : ts_Sh) (c : ts_Ch) (t : ts_Ta) (b : ts_Bo) (w : ts_Lw) (e : ts_De) (im : ts_Im), XR J M sw (B + 1) f s c t b w e im → MR J M (B + 1) f s c t b w e im → PR f s c b w → ts_Ev (n, xf) (tsC n xf d) 238 [] K 18 [.ref 1000, .ref 1, .ref 72, .int (zI (i + 6))] [] (J, M, ts_P0 sw, ts_S0)) : ts_Ev (n, xf) (tsC n xf d) 238 [] K 362 [.ref 1000, .ref 1, .ref 72, .int (zI (i))] [] (I, L, ts_P0 sw, ts_S0) := by
  obtain ⟨x1, x2, x3, x4, x5, x6, x7, x8⟩ := hX
  have hM0 := hM
  obtain ⟨m1, m2, m3, m4, m5, m6, m7, m8⟩ := hM
  obtain ⟨p1, p2, p3, p4, p5⟩ := hP
  refine ev_aloadn_1 i238_362 ?_
  refine ev_aloadn_0 i238_363 ?_
  refine ev_iloadn_3 i238_364 ?_
  refine ew_iconst i238_365 ?_
  refine ew_iadd i238_366 ?_
  refine ew_iaload i238_367 rfl (by omega) (by omega) (by omega) (by first | exact rd_any _ | exact hX.men | exact hX.told | exact hX.road | exact hX.tone _ (by omega) (by omega) | exact hX.corn _ (by omega) (by omega) | exact hX.stand _ (by omega) (by omega) | exact hX.reach _ (by omega) (by omega) | exact hX.arm _ (by omega) (by omega) | exact hX.late _ (by omega) (by omega) | exact hX.len _ (by omega) (by omega) | exact hX.say (by omega) (by omega) _ (by omega) (by omega)) (fun b367 => ?_)
  refine ev_virt1 i238_368 g238_368 rfl (by decide +kernel) (Nat.le_of_ble_eq_true rfl) (x_feed x4 (zI_r _) (fun J h1 g1 => ?_))
  obtain ⟨n1, n2, n3, n4, n5, n6, n7, n8⟩ := hM0.co (fun a a0 => fr_row h1 (fun k => by omega)) (fun _ _ => rfl)
  refine ev_aloadn_2 i238_371 ?_
  refine ev_aloadn_0 i238_372 ?_
  refine ev_iloadn_3 i238_373 ?_
  refine ew_iconst i238_374 ?_
  refine ew_iadd i238_375 ?_
  refine ew_iaload i238_376 rfl (by omega) (by omega) (by omega) (by first | exact rd_any _ | exact hX.men | exact hX.told | exact hX.road | exact hX.tone _ (by omega) (by omega) | exact hX.corn _ (by omega) (by omega) | exact hX.stand _ (by omega) (by omega) | exact hX.reach _ (by omega) (by omega) | exact hX.arm _ (by omega) (by omega) | exact hX.late _ (by omega) (by omega) | exact hX.len _ (by omega) (by omega) | exact hX.say (by omega) (by omega) _ (by omega) (by omega)) (fun b376 => ?_)
  refine ev_virt1 i238_377 g238_377 rfl (by decide +kernel) (Nat.le_of_ble_eq_true rfl) (m_feed n4 (zI_r _) (fun N h2 g2 => ?_))
  refine ev_icmpeq i238_380 (fun _ => ?_) (fun q => absurd rfl q)
  have hX2 : XR J L sw B f s c (g_feedT t (xf (i + 1).toNat).toInt) b w e im := ⟨x1.co (fun a a0 a1 => fr_row h1 (fun k => by omega)), x2.co (fun a a0 a1 => ⟨fr_row h1 (fun k => by omega), rfl⟩), x3.co (fun a k a0 a1 => h1 a k (by omega)), g1, x5.co (h1 56 2 (by omega)) (h1 56 3 (by omega)) (fr_row h1 (fun k => by omega)) (fr_row h1 (fun k => by omega)), x6.co (h1 2 12 (by omega)) (fun a p => fr_row h1 (fun k => by omega)), x7.co (fun a a0 a1 => fr_row h1 (fun k => by omega)), x8.co (h1 1 9 (by omega)) (fun a a0 a1 => fr_row h1 (fun k => by omega))⟩
  have hM2 : MR N L B f s c (g_feedT t (xf (i + 1).toNat).toInt) b w e im := ⟨n1.co72 (fr_row h2 (fun k => by omega)) (fr_row h2 (fun k => by omega)) (h2 72 6 (by omega)) (h2 72 7 (by omega)), n2.co (fun a a0 a1 => ⟨fr_row h2 (fun k => by omega), rfl⟩), n3.co (fun a a0 a1 => fr_row h2 (fun k => by omega)) (h2 72 4 (by omega)) (h2 72 5 (by omega)), g2, n5.co (h2 72 32 (by omega)) (h2 72 35 (by omega)) (fr_row h2 (fun k => by omega)) (fr_row h2 (fun k => by omega)), n6.co (h2 72 12 (by omega)) (fr_row h2 (fun k => by omega)), n7.co (fun a a0 a1 => fr_row h2 (fun k => by omega)), n8.co (h2 72 28 (by omega)) (fun a a0 a1 => fr_row h2 (fun k => by omega))⟩
  have hP2 : PR f s c b w := ⟨p1, p2, p3, p4, p5⟩
  have hX3 : XR N L sw B f s c (g_feedT t (xf (i + 1).toNat).toInt) b w e im := hX2.co (fun a a0 => fr_row h2 (fun k => by omega)) (fun _ _ => rfl)
  refine ew_iinc_3 i238_1472 rfl ?_
  refine ev_goto i238_1475 ?_
  exact hK _ _ _ _ _ _ _ _ _ _ _ hX3.up hM2.up hP2
theorem D_reach (hX : XR I L sw B f s c t b w e im) (hM : MR I L B f s c t b w e im) (hP : PR f s c b w) (hB : 0 ≤ B ∧ B ≤ 512) (hn : n ≤ 3072) (hi : 0 ≤ i ∧ i + 6 ≤ n) (hK : ∀ (J : Nat → Nat → Int32) (M : Nat → Nat → Int64) (sw : Bool) (f : ts_Fl) (s : ts_Sh) (c : ts_Ch) (t : ts_Ta) (b : ts_Bo) (w : ts_Lw) (e : ts_De) (im : ts_Im), XR J M sw (B + 1) f s c t b w e im → MR J M (B + 1) f s c t b w e im → PR f s c b w → ts_Ev (n, xf) (tsC n xf d) 238 [] K 18 [.ref 1000, .ref 1, .ref 72, .int (zI (i + 6))] [] (J, M, ts_P0 sw, ts_S0)) : ts_Ev (n, xf) (tsC n xf d) 238 [] K 398 [.ref 1000, .ref 1, .ref 72, .int (zI (i))] [] (I, L, ts_P0 sw, ts_S0) := by
  obtain ⟨x1, x2, x3, x4, x5, x6, x7, x8⟩ := hX
  have hM0 := hM
  obtain ⟨m1, m2, m3, m4, m5, m6, m7, m8⟩ := hM
  obtain ⟨p1, p2, p3, p4, p5⟩ := hP
  refine ev_aloadn_1 i238_398 ?_
  refine ev_aloadn_0 i238_399 ?_
  refine ev_iloadn_3 i238_400 ?_
  refine ew_iconst i238_401 ?_
  refine ew_iadd i238_402 ?_
  refine ew_iaload i238_403 rfl (by omega) (by omega) (by omega) (by first | exact rd_any _ | exact hX.men | exact hX.told | exact hX.road | exact hX.tone _ (by omega) (by omega) | exact hX.corn _ (by omega) (by omega) | exact hX.stand _ (by omega) (by omega) | exact hX.reach _ (by omega) (by omega) | exact hX.arm _ (by omega) (by omega) | exact hX.late _ (by omega) (by omega) | exact hX.len _ (by omega) (by omega) | exact hX.say (by omega) (by omega) _ (by omega) (by omega)) (fun b403 => ?_)
  refine ev_virt1 i238_404 g238_404 rfl (by decide +kernel) (Nat.le_of_ble_eq_true rfl) (x_reach x1 (zI_r _) ?_)
  refine ev_aloadn_2 i238_407 ?_
  refine ev_aloadn_0 i238_408 ?_
  refine ev_iloadn_3 i238_409 ?_
  refine ew_iconst i238_410 ?_
  refine ew_iadd i238_411 ?_
  refine ew_iaload i238_412 rfl (by omega) (by omega) (by omega) (by first | exact rd_any _ | exact hX.men | exact hX.told | exact hX.road | exact hX.tone _ (by omega) (by omega) | exact hX.corn _ (by omega) (by omega) | exact hX.stand _ (by omega) (by omega) | exact hX.reach _ (by omega) (by omega) | exact hX.arm _ (by omega) (by omega) | exact hX.late _ (by omega) (by omega) | exact hX.len _ (by omega) (by omega) | exact hX.say (by omega) (by omega) _ (by omega) (by omega)) (fun b412 => ?_)
  refine ev_virt1 i238_413 g238_413 rfl (by decide +kernel) (Nat.le_of_ble_eq_true rfl) (m_reach m1 (zI_r _) ?_)
  refine ev_icmpeq i238_416 (fun _ => ?_) (fun q => absurd rfl q)
  refine ew_iinc_3 i238_1472 rfl ?_
  refine ev_goto i238_1475 ?_
  exact hK _ _ _ _ _ _ _ _ _ _ _ (XR.up ⟨x1, x2, x3, x4, x5, x6, x7, x8⟩) hM0.up ⟨p1, p2, p3, p4, p5⟩
theorem D_plan (hX : XR I L sw B f s c t b w e im) (hM : MR I L B f s c t b w e im) (hP : PR f s c b w) (hB : 0 ≤ B ∧ B ≤ 512) (hn : n ≤ 3072) (hi : 0 ≤ i ∧ i + 6 ≤ n) (hK : ∀ (J : Nat → Nat → Int32) (M : Nat → Nat → Int64) (sw : Bool) (f : ts_Fl) (s : ts_Sh) (c : ts_Ch) (t : ts_Ta) (b : ts_Bo) (w : ts_Lw) (e : ts_De) (im : ts_Im), XR J M sw (B + 1) f s c t b w e im → MR J M (B + 1) f s c t b w e im → PR f s c b w → ts_Ev (n, xf) (tsC n xf d) 238 [] K 18 [.ref 1000, .ref 1, .ref 72, .int (zI (i + 6))] [] (J, M, ts_P0 sw, ts_S0)) : ts_Ev (n, xf) (tsC n xf d) 238 [] K 421 [.ref 1000, .ref 1, .ref 72, .int (zI (i))] [] (I, L, ts_P0 sw, ts_S0) := by
  obtain ⟨x1, x2, x3, x4, x5, x6, x7, x8⟩ := hX
  have hM0 := hM
  obtain ⟨m1, m2, m3, m4, m5, m6, m7, m8⟩ := hM
  obtain ⟨p1, p2, p3, p4, p5⟩ := hP
  refine ev_aloadn_1 i238_421 ?_
  refine ev_aloadn_0 i238_422 ?_
  refine ev_iloadn_3 i238_423 ?_
  refine ew_iconst i238_424 ?_
  refine ew_iadd i238_425 ?_
  refine ew_iaload i238_426 rfl (by omega) (by omega) (by omega) (by first | exact rd_any _ | exact hX.men | exact hX.told | exact hX.road | exact hX.tone _ (by omega) (by omega) | exact hX.corn _ (by omega) (by omega) | exact hX.stand _ (by omega) (by omega) | exact hX.reach _ (by omega) (by omega) | exact hX.arm _ (by omega) (by omega) | exact hX.late _ (by omega) (by omega) | exact hX.len _ (by omega) (by omega) | exact hX.say (by omega) (by omega) _ (by omega) (by omega)) (fun b426 => ?_)
  refine ev_aloadn_0 i238_427 ?_
  refine ev_iloadn_3 i238_428 ?_
  refine ew_iconst i238_429 ?_
  refine ew_iadd i238_430 ?_
  refine ew_iaload i238_431 rfl (by omega) (by omega) (by omega) (by first | exact rd_any _ | exact hX.men | exact hX.told | exact hX.road | exact hX.tone _ (by omega) (by omega) | exact hX.corn _ (by omega) (by omega) | exact hX.stand _ (by omega) (by omega) | exact hX.reach _ (by omega) (by omega) | exact hX.arm _ (by omega) (by omega) | exact hX.late _ (by omega) (by omega) | exact hX.len _ (by omega) (by omega) | exact hX.say (by omega) (by omega) _ (by omega) (by omega)) (fun b431 => ?_)
  refine ev_virt2 i238_432 g238_432 rfl (by decide +kernel) (Nat.le_of_ble_eq_true rfl) (x_plan x1 p1 x6 p5 x2 p2 (zI_r _) (zI_r _) (fun J h1 => ?_))
  obtain ⟨n1, n2, n3, n4, n5, n6, n7, n8⟩ := hM0.co (fun a a0 => fr_row h1 (fun k => by omega)) (fun _ _ => rfl)
  refine ev_aloadn_2 i238_435 ?_
  refine ev_aloadn_0 i238_436 ?_
  refine ev_iloadn_3 i238_437 ?_
  refine ew_iconst i238_438 ?_
  refine ew_iadd i238_439 ?_
  refine ew_iaload i238_440 rfl (by omega) (by omega) (by omega) (by first | exact rd_any _ | exact hX.men | exact hX.told | exact hX.road | exact hX.tone _ (by omega) (by omega) | exact hX.corn _ (by omega) (by omega) | exact hX.stand _ (by omega) (by omega) | exact hX.reach _ (by omega) (by omega) | exact hX.arm _ (by omega) (by omega) | exact hX.late _ (by omega) (by omega) | exact hX.len _ (by omega) (by omega) | exact hX.say (by omega) (by omega) _ (by omega) (by omega)) (fun b440 => ?_)
  refine ev_aloadn_0 i238_441 ?_
  refine ev_iloadn_3 i238_442 ?_
  refine ew_iconst i238_443 ?_
  refine ew_iadd i238_444 ?_
  refine ew_iaload i238_445 rfl (by omega) (by omega) (by omega) (by first | exact rd_any _ | exact hX.men | exact hX.told | exact hX.road | exact hX.tone _ (by omega) (by omega) | exact hX.corn _ (by omega) (by omega) | exact hX.stand _ (by omega) (by omega) | exact hX.reach _ (by omega) (by omega) | exact hX.arm _ (by omega) (by omega) | exact hX.late _ (by omega) (by omega) | exact hX.len _ (by omega) (by omega) | exact hX.say (by omega) (by omega) _ (by omega) (by omega)) (fun b445 => ?_)
  refine ev_virt2 i238_446 g238_446 rfl (by decide +kernel) (Nat.le_of_ble_eq_true rfl) (m_plan n1 p1 n6 p5 n2 p2 (zI_r _) (zI_r _) (fun N h2 => ?_))
  refine ev_icmpeq i238_449 (fun _ => ?_) (fun q => absurd rfl q)
  have hX2 : XR J L sw B f s c t b w e im := ⟨x1.co (fun a a0 a1 => fr_row h1 (fun k => by omega)), x2.co (fun a a0 a1 => ⟨fr_row h1 (fun k => by omega), rfl⟩), x3.co (fun a k a0 a1 => h1 a k (by omega)), x4.co (h1 24 1 (by omega)) (fr_row h1 (fun k => by omega)), x5.co (h1 56 2 (by omega)) (h1 56 3 (by omega)) (fr_row h1 (fun k => by omega)) (fr_row h1 (fun k => by omega)), x6.co (h1 2 12 (by omega)) (fun a p => fr_row h1 (fun k => by omega)), x7.co (fun a a0 a1 => fr_row h1 (fun k => by omega)), x8.co (h1 1 9 (by omega)) (fun a a0 a1 => fr_row h1 (fun k => by omega))⟩
  have hM2 : MR N L B f s c t b w e im := ⟨n1.co72 (fr_row h2 (fun k => by omega)) (fr_row h2 (fun k => by omega)) (h2 72 6 (by omega)) (h2 72 7 (by omega)), n2.co (fun a a0 a1 => ⟨fr_row h2 (fun k => by omega), rfl⟩), n3.co (fun a a0 a1 => fr_row h2 (fun k => by omega)) (h2 72 4 (by omega)) (h2 72 5 (by omega)), n4.co (h2 72 10 (by omega)) (fr_row h2 (fun k => by omega)), n5.co (h2 72 32 (by omega)) (h2 72 35 (by omega)) (fr_row h2 (fun k => by omega)) (fr_row h2 (fun k => by omega)), n6.co (h2 72 12 (by omega)) (fr_row h2 (fun k => by omega)), n7.co (fun a a0 a1 => fr_row h2 (fun k => by omega)), n8.co (h2 72 28 (by omega)) (fun a a0 a1 => fr_row h2 (fun k => by omega))⟩
  have hP2 : PR f s c b w := ⟨p1, p2, p3, p4, p5⟩
  have hX3 : XR N L sw B f s c t b w e im := hX2.co (fun a a0 => fr_row h2 (fun k => by omega)) (fun _ _ => rfl)
  refine ew_iinc_3 i238_1472 rfl ?_
  refine ev_goto i238_1475 ?_
  exact hK _ _ _ _ _ _ _ _ _ _ _ hX3.up hM2.up hP2
theorem D_tone (hX : XR I L sw B f s c t b w e im) (hM : MR I L B f s c t b w e im) (hP : PR f s c b w) (hB : 0 ≤ B ∧ B ≤ 512) (hn : n ≤ 3072) (hi : 0 ≤ i ∧ i + 6 ≤ n) (hK : ∀ (J : Nat → Nat → Int32) (M : Nat → Nat → Int64) (sw : Bool) (f : ts_Fl) (s : ts_Sh) (c : ts_Ch) (t : ts_Ta) (b : ts_Bo) (w : ts_Lw) (e : ts_De) (im : ts_Im), XR J M sw (B + 1) f s c t b w e im → MR J M (B + 1) f s c t b w e im → PR f s c b w → ts_Ev (n, xf) (tsC n xf d) 238 [] K 18 [.ref 1000, .ref 1, .ref 72, .int (zI (i + 6))] [] (J, M, ts_P0 sw, ts_S0)) : ts_Ev (n, xf) (tsC n xf d) 238 [] K 454 [.ref 1000, .ref 1, .ref 72, .int (zI (i))] [] (I, L, ts_P0 sw, ts_S0) := by
  obtain ⟨x1, x2, x3, x4, x5, x6, x7, x8⟩ := hX
  have hM0 := hM
  obtain ⟨m1, m2, m3, m4, m5, m6, m7, m8⟩ := hM
  obtain ⟨p1, p2, p3, p4, p5⟩ := hP
  refine ev_aloadn_1 i238_454 ?_
  refine ev_aloadn_0 i238_455 ?_
  refine ev_iloadn_3 i238_456 ?_
  refine ew_iconst i238_457 ?_
  refine ew_iadd i238_458 ?_
  refine ew_iaload i238_459 rfl (by omega) (by omega) (by omega) (by first | exact rd_any _ | exact hX.men | exact hX.told | exact hX.road | exact hX.tone _ (by omega) (by omega) | exact hX.corn _ (by omega) (by omega) | exact hX.stand _ (by omega) (by omega) | exact hX.reach _ (by omega) (by omega) | exact hX.arm _ (by omega) (by omega) | exact hX.late _ (by omega) (by omega) | exact hX.len _ (by omega) (by omega) | exact hX.say (by omega) (by omega) _ (by omega) (by omega)) (fun b459 => ?_)
  refine ev_aloadn_0 i238_460 ?_
  refine ev_iloadn_3 i238_461 ?_
  refine ew_iconst i238_462 ?_
  refine ew_iadd i238_463 ?_
  refine ew_iaload i238_464 rfl (by omega) (by omega) (by omega) (by first | exact rd_any _ | exact hX.men | exact hX.told | exact hX.road | exact hX.tone _ (by omega) (by omega) | exact hX.corn _ (by omega) (by omega) | exact hX.stand _ (by omega) (by omega) | exact hX.reach _ (by omega) (by omega) | exact hX.arm _ (by omega) (by omega) | exact hX.late _ (by omega) (by omega) | exact hX.len _ (by omega) (by omega) | exact hX.say (by omega) (by omega) _ (by omega) (by omega)) (fun b464 => ?_)
  refine ev_virt2 i238_465 g238_465 rfl (by decide +kernel) (Nat.le_of_ble_eq_true rfl) (x_tone x1 x6 p5 x2 p2 (zI_r _) (zI_r _) (fun J h1 => ?_))
  obtain ⟨n1, n2, n3, n4, n5, n6, n7, n8⟩ := hM0.co (fun a a0 => fr_row h1 (fun k => by omega)) (fun _ _ => rfl)
  refine ev_aloadn_2 i238_468 ?_
  refine ev_aloadn_0 i238_469 ?_
  refine ev_iloadn_3 i238_470 ?_
  refine ew_iconst i238_471 ?_
  refine ew_iadd i238_472 ?_
  refine ew_iaload i238_473 rfl (by omega) (by omega) (by omega) (by first | exact rd_any _ | exact hX.men | exact hX.told | exact hX.road | exact hX.tone _ (by omega) (by omega) | exact hX.corn _ (by omega) (by omega) | exact hX.stand _ (by omega) (by omega) | exact hX.reach _ (by omega) (by omega) | exact hX.arm _ (by omega) (by omega) | exact hX.late _ (by omega) (by omega) | exact hX.len _ (by omega) (by omega) | exact hX.say (by omega) (by omega) _ (by omega) (by omega)) (fun b473 => ?_)
  refine ev_aloadn_0 i238_474 ?_
  refine ev_iloadn_3 i238_475 ?_
  refine ew_iconst i238_476 ?_
  refine ew_iadd i238_477 ?_
  refine ew_iaload i238_478 rfl (by omega) (by omega) (by omega) (by first | exact rd_any _ | exact hX.men | exact hX.told | exact hX.road | exact hX.tone _ (by omega) (by omega) | exact hX.corn _ (by omega) (by omega) | exact hX.stand _ (by omega) (by omega) | exact hX.reach _ (by omega) (by omega) | exact hX.arm _ (by omega) (by omega) | exact hX.late _ (by omega) (by omega) | exact hX.len _ (by omega) (by omega) | exact hX.say (by omega) (by omega) _ (by omega) (by omega)) (fun b478 => ?_)
  refine ev_virt2 i238_479 g238_479 rfl (by decide +kernel) (Nat.le_of_ble_eq_true rfl) (m_tone n1 n6 p5 n2 p2 (zI_r _) (zI_r _) (fun N h2 => ?_))
  refine ev_icmpeq i238_482 (fun _ => ?_) (fun q => absurd rfl q)
  have hX2 : XR J L sw B f s c t b w e im := ⟨x1.co (fun a a0 a1 => fr_row h1 (fun k => by omega)), x2.co (fun a a0 a1 => ⟨fr_row h1 (fun k => by omega), rfl⟩), x3.co (fun a k a0 a1 => h1 a k (by omega)), x4.co (h1 24 1 (by omega)) (fr_row h1 (fun k => by omega)), x5.co (h1 56 2 (by omega)) (h1 56 3 (by omega)) (fr_row h1 (fun k => by omega)) (fr_row h1 (fun k => by omega)), x6.co (h1 2 12 (by omega)) (fun a p => fr_row h1 (fun k => by omega)), x7.co (fun a a0 a1 => fr_row h1 (fun k => by omega)), x8.co (h1 1 9 (by omega)) (fun a a0 a1 => fr_row h1 (fun k => by omega))⟩
  have hM2 : MR N L B f s c t b w e im := ⟨n1.co72 (fr_row h2 (fun k => by omega)) (fr_row h2 (fun k => by omega)) (h2 72 6 (by omega)) (h2 72 7 (by omega)), n2.co (fun a a0 a1 => ⟨fr_row h2 (fun k => by omega), rfl⟩), n3.co (fun a a0 a1 => fr_row h2 (fun k => by omega)) (h2 72 4 (by omega)) (h2 72 5 (by omega)), n4.co (h2 72 10 (by omega)) (fr_row h2 (fun k => by omega)), n5.co (h2 72 32 (by omega)) (h2 72 35 (by omega)) (fr_row h2 (fun k => by omega)) (fr_row h2 (fun k => by omega)), n6.co (h2 72 12 (by omega)) (fr_row h2 (fun k => by omega)), n7.co (fun a a0 a1 => fr_row h2 (fun k => by omega)), n8.co (h2 72 28 (by omega)) (fun a a0 a1 => fr_row h2 (fun k => by omega))⟩
  have hP2 : PR f s c b w := ⟨p1, p2, p3, p4, p5⟩
  have hX3 : XR N L sw B f s c t b w e im := hX2.co (fun a a0 => fr_row h2 (fun k => by omega)) (fun _ _ => rfl)
  refine ew_iinc_3 i238_1472 rfl ?_
  refine ev_goto i238_1475 ?_
  exact hK _ _ _ _ _ _ _ _ _ _ _ hX3.up hM2.up hP2
theorem D_behind (hX : XR I L sw B f s c t b w e im) (hM : MR I L B f s c t b w e im) (hP : PR f s c b w) (hB : 0 ≤ B ∧ B ≤ 512) (hn : n ≤ 3072) (hi : 0 ≤ i ∧ i + 6 ≤ n) (hK : ∀ (J : Nat → Nat → Int32) (M : Nat → Nat → Int64) (sw : Bool) (f : ts_Fl) (s : ts_Sh) (c : ts_Ch) (t : ts_Ta) (b : ts_Bo) (w : ts_Lw) (e : ts_De) (im : ts_Im), XR J M sw (B + 1) f s c t b w e im → MR J M (B + 1) f s c t b w e im → PR f s c b w → ts_Ev (n, xf) (tsC n xf d) 238 [] K 18 [.ref 1000, .ref 1, .ref 72, .int (zI (i + 6))] [] (J, M, ts_P0 sw, ts_S0)) : ts_Ev (n, xf) (tsC n xf d) 238 [] K 487 [.ref 1000, .ref 1, .ref 72, .int (zI (i))] [] (I, L, ts_P0 sw, ts_S0) := by
  obtain ⟨x1, x2, x3, x4, x5, x6, x7, x8⟩ := hX
  have hM0 := hM
  obtain ⟨m1, m2, m3, m4, m5, m6, m7, m8⟩ := hM
  obtain ⟨p1, p2, p3, p4, p5⟩ := hP
  refine ev_aloadn_1 i238_487 ?_
  refine ev_aloadn_0 i238_488 ?_
  refine ev_iloadn_3 i238_489 ?_
  refine ew_iconst i238_490 ?_
  refine ew_iadd i238_491 ?_
  refine ew_iaload i238_492 rfl (by omega) (by omega) (by omega) (by first | exact rd_any _ | exact hX.men | exact hX.told | exact hX.road | exact hX.tone _ (by omega) (by omega) | exact hX.corn _ (by omega) (by omega) | exact hX.stand _ (by omega) (by omega) | exact hX.reach _ (by omega) (by omega) | exact hX.arm _ (by omega) (by omega) | exact hX.late _ (by omega) (by omega) | exact hX.len _ (by omega) (by omega) | exact hX.say (by omega) (by omega) _ (by omega) (by omega)) (fun b492 => ?_)
  refine ev_aloadn_0 i238_493 ?_
  refine ev_iloadn_3 i238_494 ?_
  refine ew_iconst i238_495 ?_
  refine ew_iadd i238_496 ?_
  refine ew_iaload i238_497 rfl (by omega) (by omega) (by omega) (by first | exact rd_any _ | exact hX.men | exact hX.told | exact hX.road | exact hX.tone _ (by omega) (by omega) | exact hX.corn _ (by omega) (by omega) | exact hX.stand _ (by omega) (by omega) | exact hX.reach _ (by omega) (by omega) | exact hX.arm _ (by omega) (by omega) | exact hX.late _ (by omega) (by omega) | exact hX.len _ (by omega) (by omega) | exact hX.say (by omega) (by omega) _ (by omega) (by omega)) (fun b497 => ?_)
  refine ev_aloadn_0 i238_498 ?_
  refine ev_iloadn_3 i238_499 ?_
  refine ew_iconst i238_500 ?_
  refine ew_iadd i238_501 ?_
  refine ew_iaload i238_502 rfl (by omega) (by omega) (by omega) (by first | exact rd_any _ | exact hX.men | exact hX.told | exact hX.road | exact hX.tone _ (by omega) (by omega) | exact hX.corn _ (by omega) (by omega) | exact hX.stand _ (by omega) (by omega) | exact hX.reach _ (by omega) (by omega) | exact hX.arm _ (by omega) (by omega) | exact hX.late _ (by omega) (by omega) | exact hX.len _ (by omega) (by omega) | exact hX.say (by omega) (by omega) _ (by omega) (by omega)) (fun b502 => ?_)
  refine ev_virt3 i238_503 g238_503 rfl (by decide +kernel) (Nat.le_of_ble_eq_true rfl) (x_behind x1 p1 x6 p5 x2 p2 (zI_r _) (zI_r _) (zI_r _) (fun J h1 => ?_))
  obtain ⟨n1, n2, n3, n4, n5, n6, n7, n8⟩ := hM0.co (fun a a0 => fr_row h1 (fun k => by omega)) (fun _ _ => rfl)
  refine ev_aloadn_2 i238_506 ?_
  refine ev_aloadn_0 i238_507 ?_
  refine ev_iloadn_3 i238_508 ?_
  refine ew_iconst i238_509 ?_
  refine ew_iadd i238_510 ?_
  refine ew_iaload i238_511 rfl (by omega) (by omega) (by omega) (by first | exact rd_any _ | exact hX.men | exact hX.told | exact hX.road | exact hX.tone _ (by omega) (by omega) | exact hX.corn _ (by omega) (by omega) | exact hX.stand _ (by omega) (by omega) | exact hX.reach _ (by omega) (by omega) | exact hX.arm _ (by omega) (by omega) | exact hX.late _ (by omega) (by omega) | exact hX.len _ (by omega) (by omega) | exact hX.say (by omega) (by omega) _ (by omega) (by omega)) (fun b511 => ?_)
  refine ev_aloadn_0 i238_512 ?_
  refine ev_iloadn_3 i238_513 ?_
  refine ew_iconst i238_514 ?_
  refine ew_iadd i238_515 ?_
  refine ew_iaload i238_516 rfl (by omega) (by omega) (by omega) (by first | exact rd_any _ | exact hX.men | exact hX.told | exact hX.road | exact hX.tone _ (by omega) (by omega) | exact hX.corn _ (by omega) (by omega) | exact hX.stand _ (by omega) (by omega) | exact hX.reach _ (by omega) (by omega) | exact hX.arm _ (by omega) (by omega) | exact hX.late _ (by omega) (by omega) | exact hX.len _ (by omega) (by omega) | exact hX.say (by omega) (by omega) _ (by omega) (by omega)) (fun b516 => ?_)
  refine ev_aloadn_0 i238_517 ?_
  refine ev_iloadn_3 i238_518 ?_
  refine ew_iconst i238_519 ?_
  refine ew_iadd i238_520 ?_
  refine ew_iaload i238_521 rfl (by omega) (by omega) (by omega) (by first | exact rd_any _ | exact hX.men | exact hX.told | exact hX.road | exact hX.tone _ (by omega) (by omega) | exact hX.corn _ (by omega) (by omega) | exact hX.stand _ (by omega) (by omega) | exact hX.reach _ (by omega) (by omega) | exact hX.arm _ (by omega) (by omega) | exact hX.late _ (by omega) (by omega) | exact hX.len _ (by omega) (by omega) | exact hX.say (by omega) (by omega) _ (by omega) (by omega)) (fun b521 => ?_)
  refine ev_virt3 i238_522 g238_522 rfl (by decide +kernel) (Nat.le_of_ble_eq_true rfl) (m_behind n1 p1 n6 p5 n2 p2 (zI_r _) (zI_r _) (zI_r _) (fun N h2 => ?_))
  refine ev_icmpeq i238_525 (fun _ => ?_) (fun q => absurd rfl q)
  have hX2 : XR J L sw B f s c t b w e im := ⟨x1.co (fun a a0 a1 => fr_row h1 (fun k => by omega)), x2.co (fun a a0 a1 => ⟨fr_row h1 (fun k => by omega), rfl⟩), x3.co (fun a k a0 a1 => h1 a k (by omega)), x4.co (h1 24 1 (by omega)) (fr_row h1 (fun k => by omega)), x5.co (h1 56 2 (by omega)) (h1 56 3 (by omega)) (fr_row h1 (fun k => by omega)) (fr_row h1 (fun k => by omega)), x6.co (h1 2 12 (by omega)) (fun a p => fr_row h1 (fun k => by omega)), x7.co (fun a a0 a1 => fr_row h1 (fun k => by omega)), x8.co (h1 1 9 (by omega)) (fun a a0 a1 => fr_row h1 (fun k => by omega))⟩
  have hM2 : MR N L B f s c t b w e im := ⟨n1.co72 (fr_row h2 (fun k => by omega)) (fr_row h2 (fun k => by omega)) (h2 72 6 (by omega)) (h2 72 7 (by omega)), n2.co (fun a a0 a1 => ⟨fr_row h2 (fun k => by omega), rfl⟩), n3.co (fun a a0 a1 => fr_row h2 (fun k => by omega)) (h2 72 4 (by omega)) (h2 72 5 (by omega)), n4.co (h2 72 10 (by omega)) (fr_row h2 (fun k => by omega)), n5.co (h2 72 32 (by omega)) (h2 72 35 (by omega)) (fr_row h2 (fun k => by omega)) (fr_row h2 (fun k => by omega)), n6.co (h2 72 12 (by omega)) (fr_row h2 (fun k => by omega)), n7.co (fun a a0 a1 => fr_row h2 (fun k => by omega)), n8.co (h2 72 28 (by omega)) (fun a a0 a1 => fr_row h2 (fun k => by omega))⟩
  have hP2 : PR f s c b w := ⟨p1, p2, p3, p4, p5⟩
  have hX3 : XR N L sw B f s c t b w e im := hX2.co (fun a a0 => fr_row h2 (fun k => by omega)) (fun _ _ => rfl)
  refine ew_iinc_3 i238_1472 rfl ?_
  refine ev_goto i238_1475 ?_
  exact hK _ _ _ _ _ _ _ _ _ _ _ hX3.up hM2.up hP2
theorem D_say (hX : XR I L sw B f s c t b w e im) (hM : MR I L B f s c t b w e im) (hP : PR f s c b w) (hB : 0 ≤ B ∧ B ≤ 512) (hn : n ≤ 3072) (hi : 0 ≤ i ∧ i + 6 ≤ n) (hK : ∀ (J : Nat → Nat → Int32) (M : Nat → Nat → Int64) (sw : Bool) (f : ts_Fl) (s : ts_Sh) (c : ts_Ch) (t : ts_Ta) (b : ts_Bo) (w : ts_Lw) (e : ts_De) (im : ts_Im), XR J M sw (B + 1) f s c t b w e im → MR J M (B + 1) f s c t b w e im → PR f s c b w → ts_Ev (n, xf) (tsC n xf d) 238 [] K 18 [.ref 1000, .ref 1, .ref 72, .int (zI (i + 6))] [] (J, M, ts_P0 sw, ts_S0)) : ts_Ev (n, xf) (tsC n xf d) 238 [] K 530 [.ref 1000, .ref 1, .ref 72, .int (zI (i))] [] (I, L, ts_P0 sw, ts_S0) := by
  obtain ⟨x1, x2, x3, x4, x5, x6, x7, x8⟩ := hX
  have hM0 := hM
  obtain ⟨m1, m2, m3, m4, m5, m6, m7, m8⟩ := hM
  obtain ⟨p1, p2, p3, p4, p5⟩ := hP
  refine ev_aloadn_1 i238_530 ?_
  refine ev_aloadn_0 i238_531 ?_
  refine ev_iloadn_3 i238_532 ?_
  refine ew_iconst i238_533 ?_
  refine ew_iadd i238_534 ?_
  refine ew_iaload i238_535 rfl (by omega) (by omega) (by omega) (by first | exact rd_any _ | exact hX.men | exact hX.told | exact hX.road | exact hX.tone _ (by omega) (by omega) | exact hX.corn _ (by omega) (by omega) | exact hX.stand _ (by omega) (by omega) | exact hX.reach _ (by omega) (by omega) | exact hX.arm _ (by omega) (by omega) | exact hX.late _ (by omega) (by omega) | exact hX.len _ (by omega) (by omega) | exact hX.say (by omega) (by omega) _ (by omega) (by omega)) (fun b535 => ?_)
  refine ev_aloadn_0 i238_536 ?_
  refine ev_iloadn_3 i238_537 ?_
  refine ew_iconst i238_538 ?_
  refine ew_iadd i238_539 ?_
  refine ew_iaload i238_540 rfl (by omega) (by omega) (by omega) (by first | exact rd_any _ | exact hX.men | exact hX.told | exact hX.road | exact hX.tone _ (by omega) (by omega) | exact hX.corn _ (by omega) (by omega) | exact hX.stand _ (by omega) (by omega) | exact hX.reach _ (by omega) (by omega) | exact hX.arm _ (by omega) (by omega) | exact hX.late _ (by omega) (by omega) | exact hX.len _ (by omega) (by omega) | exact hX.say (by omega) (by omega) _ (by omega) (by omega)) (fun b540 => ?_)
  refine ev_virt2 i238_541 g238_541 rfl (by decide +kernel) (Nat.le_of_ble_eq_true rfl) (x_say x1 x6 p5 (zI_r _) (zI_r _) (fun J h1 => ?_))
  obtain ⟨n1, n2, n3, n4, n5, n6, n7, n8⟩ := hM0.co (fun a a0 => fr_row h1 (fun k => by omega)) (fun _ _ => rfl)
  refine ev_aloadn_2 i238_544 ?_
  refine ev_aloadn_0 i238_545 ?_
  refine ev_iloadn_3 i238_546 ?_
  refine ew_iconst i238_547 ?_
  refine ew_iadd i238_548 ?_
  refine ew_iaload i238_549 rfl (by omega) (by omega) (by omega) (by first | exact rd_any _ | exact hX.men | exact hX.told | exact hX.road | exact hX.tone _ (by omega) (by omega) | exact hX.corn _ (by omega) (by omega) | exact hX.stand _ (by omega) (by omega) | exact hX.reach _ (by omega) (by omega) | exact hX.arm _ (by omega) (by omega) | exact hX.late _ (by omega) (by omega) | exact hX.len _ (by omega) (by omega) | exact hX.say (by omega) (by omega) _ (by omega) (by omega)) (fun b549 => ?_)
  refine ev_aloadn_0 i238_550 ?_
  refine ev_iloadn_3 i238_551 ?_
  refine ew_iconst i238_552 ?_
  refine ew_iadd i238_553 ?_
  refine ew_iaload i238_554 rfl (by omega) (by omega) (by omega) (by first | exact rd_any _ | exact hX.men | exact hX.told | exact hX.road | exact hX.tone _ (by omega) (by omega) | exact hX.corn _ (by omega) (by omega) | exact hX.stand _ (by omega) (by omega) | exact hX.reach _ (by omega) (by omega) | exact hX.arm _ (by omega) (by omega) | exact hX.late _ (by omega) (by omega) | exact hX.len _ (by omega) (by omega) | exact hX.say (by omega) (by omega) _ (by omega) (by omega)) (fun b554 => ?_)
  refine ev_virt2 i238_555 g238_555 rfl (by decide +kernel) (Nat.le_of_ble_eq_true rfl) (m_say n1 n6 p5 (zI_r _) (zI_r _) (fun N h2 => ?_))
  refine ev_icmpeq i238_558 (fun _ => ?_) (fun q => absurd rfl q)
  have hX2 : XR J L sw B f s c t b w e im := ⟨x1.co (fun a a0 a1 => fr_row h1 (fun k => by omega)), x2.co (fun a a0 a1 => ⟨fr_row h1 (fun k => by omega), rfl⟩), x3.co (fun a k a0 a1 => h1 a k (by omega)), x4.co (h1 24 1 (by omega)) (fr_row h1 (fun k => by omega)), x5.co (h1 56 2 (by omega)) (h1 56 3 (by omega)) (fr_row h1 (fun k => by omega)) (fr_row h1 (fun k => by omega)), x6.co (h1 2 12 (by omega)) (fun a p => fr_row h1 (fun k => by omega)), x7.co (fun a a0 a1 => fr_row h1 (fun k => by omega)), x8.co (h1 1 9 (by omega)) (fun a a0 a1 => fr_row h1 (fun k => by omega))⟩
  have hM2 : MR N L B f s c t b w e im := ⟨n1.co72 (fr_row h2 (fun k => by omega)) (fr_row h2 (fun k => by omega)) (h2 72 6 (by omega)) (h2 72 7 (by omega)), n2.co (fun a a0 a1 => ⟨fr_row h2 (fun k => by omega), rfl⟩), n3.co (fun a a0 a1 => fr_row h2 (fun k => by omega)) (h2 72 4 (by omega)) (h2 72 5 (by omega)), n4.co (h2 72 10 (by omega)) (fr_row h2 (fun k => by omega)), n5.co (h2 72 32 (by omega)) (h2 72 35 (by omega)) (fr_row h2 (fun k => by omega)) (fr_row h2 (fun k => by omega)), n6.co (h2 72 12 (by omega)) (fr_row h2 (fun k => by omega)), n7.co (fun a a0 a1 => fr_row h2 (fun k => by omega)), n8.co (h2 72 28 (by omega)) (fun a a0 a1 => fr_row h2 (fun k => by omega))⟩
  have hP2 : PR f s c b w := ⟨p1, p2, p3, p4, p5⟩
  have hX3 : XR N L sw B f s c t b w e im := hX2.co (fun a a0 => fr_row h2 (fun k => by omega)) (fun _ _ => rfl)
  refine ew_iinc_3 i238_1472 rfl ?_
  refine ev_goto i238_1475 ?_
  exact hK _ _ _ _ _ _ _ _ _ _ _ hX3.up hM2.up hP2
theorem D_can (hX : XR I L sw B f s c t b w e im) (hM : MR I L B f s c t b w e im) (hP : PR f s c b w) (hB : 0 ≤ B ∧ B ≤ 512) (hn : n ≤ 3072) (hi : 0 ≤ i ∧ i + 6 ≤ n) (hK : ∀ (J : Nat → Nat → Int32) (M : Nat → Nat → Int64) (sw : Bool) (f : ts_Fl) (s : ts_Sh) (c : ts_Ch) (t : ts_Ta) (b : ts_Bo) (w : ts_Lw) (e : ts_De) (im : ts_Im), XR J M sw (B + 1) f s c t b w e im → MR J M (B + 1) f s c t b w e im → PR f s c b w → ts_Ev (n, xf) (tsC n xf d) 238 [] K 18 [.ref 1000, .ref 1, .ref 72, .int (zI (i + 6))] [] (J, M, ts_P0 sw, ts_S0)) : ts_Ev (n, xf) (tsC n xf d) 238 [] K 563 [.ref 1000, .ref 1, .ref 72, .int (zI (i))] [] (I, L, ts_P0 sw, ts_S0) := by
  obtain ⟨x1, x2, x3, x4, x5, x6, x7, x8⟩ := hX
  have hM0 := hM
  obtain ⟨m1, m2, m3, m4, m5, m6, m7, m8⟩ := hM
  obtain ⟨p1, p2, p3, p4, p5⟩ := hP
  refine ev_aloadn_1 i238_563 ?_
  refine ev_virt0 i238_564 g238_564 rfl (by decide +kernel) (Nat.le_of_ble_eq_true rfl) (x_can x1 x6 p5 (fun J h1 => ?_))
  obtain ⟨n1, n2, n3, n4, n5, n6, n7, n8⟩ := hM0.co (fun a a0 => fr_row h1 (fun k => by omega)) (fun _ _ => rfl)
  refine ev_aloadn_2 i238_567 ?_
  refine ev_virt0 i238_568 g238_568 rfl (by decide +kernel) (Nat.le_of_ble_eq_true rfl) (m_can n1 n6 p5 (fun N h2 => ?_))
  refine ev_icmpeq i238_571 (fun _ => ?_) (fun q => absurd rfl q)
  have hX2 : XR J L sw B f s c t b w e im := ⟨x1.co (fun a a0 a1 => fr_row h1 (fun k => by omega)), x2.co (fun a a0 a1 => ⟨fr_row h1 (fun k => by omega), rfl⟩), x3.co (fun a k a0 a1 => h1 a k (by omega)), x4.co (h1 24 1 (by omega)) (fr_row h1 (fun k => by omega)), x5.co (h1 56 2 (by omega)) (h1 56 3 (by omega)) (fr_row h1 (fun k => by omega)) (fr_row h1 (fun k => by omega)), x6.co (h1 2 12 (by omega)) (fun a p => fr_row h1 (fun k => by omega)), x7.co (fun a a0 a1 => fr_row h1 (fun k => by omega)), x8.co (h1 1 9 (by omega)) (fun a a0 a1 => fr_row h1 (fun k => by omega))⟩
  have hM2 : MR N L B f s c t b w e im := ⟨n1.co72 (fr_row h2 (fun k => by omega)) (fr_row h2 (fun k => by omega)) (h2 72 6 (by omega)) (h2 72 7 (by omega)), n2.co (fun a a0 a1 => ⟨fr_row h2 (fun k => by omega), rfl⟩), n3.co (fun a a0 a1 => fr_row h2 (fun k => by omega)) (h2 72 4 (by omega)) (h2 72 5 (by omega)), n4.co (h2 72 10 (by omega)) (fr_row h2 (fun k => by omega)), n5.co (h2 72 32 (by omega)) (h2 72 35 (by omega)) (fr_row h2 (fun k => by omega)) (fr_row h2 (fun k => by omega)), n6.co (h2 72 12 (by omega)) (fr_row h2 (fun k => by omega)), n7.co (fun a a0 a1 => fr_row h2 (fun k => by omega)), n8.co (h2 72 28 (by omega)) (fun a a0 a1 => fr_row h2 (fun k => by omega))⟩
  have hP2 : PR f s c b w := ⟨p1, p2, p3, p4, p5⟩
  have hX3 : XR N L sw B f s c t b w e im := hX2.co (fun a a0 => fr_row h2 (fun k => by omega)) (fun _ _ => rfl)
  refine ew_iinc_3 i238_1472 rfl ?_
  refine ev_goto i238_1475 ?_
  exact hK _ _ _ _ _ _ _ _ _ _ _ hX3.up hM2.up hP2
theorem D_rows (hX : XR I L sw B f s c t b w e im) (hM : MR I L B f s c t b w e im) (hP : PR f s c b w) (hB : 0 ≤ B ∧ B ≤ 512) (hn : n ≤ 3072) (hi : 0 ≤ i ∧ i + 6 ≤ n) (hK : ∀ (J : Nat → Nat → Int32) (M : Nat → Nat → Int64) (sw : Bool) (f : ts_Fl) (s : ts_Sh) (c : ts_Ch) (t : ts_Ta) (b : ts_Bo) (w : ts_Lw) (e : ts_De) (im : ts_Im), XR J M sw (B + 1) f s c t b w e im → MR J M (B + 1) f s c t b w e im → PR f s c b w → ts_Ev (n, xf) (tsC n xf d) 238 [] K 18 [.ref 1000, .ref 1, .ref 72, .int (zI (i + 6))] [] (J, M, ts_P0 sw, ts_S0)) : ts_Ev (n, xf) (tsC n xf d) 238 [] K 576 [.ref 1000, .ref 1, .ref 72, .int (zI (i))] [] (I, L, ts_P0 sw, ts_S0) := by
  obtain ⟨x1, x2, x3, x4, x5, x6, x7, x8⟩ := hX
  have hM0 := hM
  obtain ⟨m1, m2, m3, m4, m5, m6, m7, m8⟩ := hM
  obtain ⟨p1, p2, p3, p4, p5⟩ := hP
  refine ev_aloadn_1 i238_576 ?_
  refine ev_aloadn_0 i238_577 ?_
  refine ev_iloadn_3 i238_578 ?_
  refine ew_iconst i238_579 ?_
  refine ew_iadd i238_580 ?_
  refine ew_iaload i238_581 rfl (by omega) (by omega) (by omega) (by first | exact rd_any _ | exact hX.men | exact hX.told | exact hX.road | exact hX.tone _ (by omega) (by omega) | exact hX.corn _ (by omega) (by omega) | exact hX.stand _ (by omega) (by omega) | exact hX.reach _ (by omega) (by omega) | exact hX.arm _ (by omega) (by omega) | exact hX.late _ (by omega) (by omega) | exact hX.len _ (by omega) (by omega) | exact hX.say (by omega) (by omega) _ (by omega) (by omega)) (fun b581 => ?_)
  refine ev_virt1 i238_582 g238_582 rfl (by decide +kernel) (Nat.le_of_ble_eq_true rfl) (x_rows x1 (zI_r _) ?_)
  refine ev_aloadn_2 i238_585 ?_
  refine ev_aloadn_0 i238_586 ?_
  refine ev_iloadn_3 i238_587 ?_
  refine ew_iconst i238_588 ?_
  refine ew_iadd i238_589 ?_
  refine ew_iaload i238_590 rfl (by omega) (by omega) (by omega) (by first | exact rd_any _ | exact hX.men | exact hX.told | exact hX.road | exact hX.tone _ (by omega) (by omega) | exact hX.corn _ (by omega) (by omega) | exact hX.stand _ (by omega) (by omega) | exact hX.reach _ (by omega) (by omega) | exact hX.arm _ (by omega) (by omega) | exact hX.late _ (by omega) (by omega) | exact hX.len _ (by omega) (by omega) | exact hX.say (by omega) (by omega) _ (by omega) (by omega)) (fun b590 => ?_)
  refine ev_virt1 i238_591 g238_591 rfl (by decide +kernel) (Nat.le_of_ble_eq_true rfl) (m_rows m1 (zI_r _) ?_)
  refine ev_lcmp i238_594 ?_
  refine ev_ifeq i238_595 (fun _ => ?_) (fun q => absurd (lg_cmp_self _) q)
  refine ew_iinc_3 i238_1472 rfl ?_
  refine ev_goto i238_1475 ?_
  exact hK _ _ _ _ _ _ _ _ _ _ _ (XR.up ⟨x1, x2, x3, x4, x5, x6, x7, x8⟩) hM0.up ⟨p1, p2, p3, p4, p5⟩
theorem D_thresh (hX : XR I L sw B f s c t b w e im) (hM : MR I L B f s c t b w e im) (hP : PR f s c b w) (hB : 0 ≤ B ∧ B ≤ 512) (hn : n ≤ 3072) (hi : 0 ≤ i ∧ i + 6 ≤ n) (hK : ∀ (J : Nat → Nat → Int32) (M : Nat → Nat → Int64) (sw : Bool) (f : ts_Fl) (s : ts_Sh) (c : ts_Ch) (t : ts_Ta) (b : ts_Bo) (w : ts_Lw) (e : ts_De) (im : ts_Im), XR J M sw (B + 1) f s c t b w e im → MR J M (B + 1) f s c t b w e im → PR f s c b w → ts_Ev (n, xf) (tsC n xf d) 238 [] K 18 [.ref 1000, .ref 1, .ref 72, .int (zI (i + 6))] [] (J, M, ts_P0 sw, ts_S0)) : ts_Ev (n, xf) (tsC n xf d) 238 [] K 600 [.ref 1000, .ref 1, .ref 72, .int (zI (i))] [] (I, L, ts_P0 sw, ts_S0) := by
  obtain ⟨x1, x2, x3, x4, x5, x6, x7, x8⟩ := hX
  have hM0 := hM
  obtain ⟨m1, m2, m3, m4, m5, m6, m7, m8⟩ := hM
  obtain ⟨p1, p2, p3, p4, p5⟩ := hP
  refine ev_aloadn_1 i238_600 ?_
  refine ev_virt0 i238_601 g238_601 rfl (by decide +kernel) (Nat.le_of_ble_eq_true rfl) (x_thresh x1 (fun J h1 => ?_))
  obtain ⟨n1, n2, n3, n4, n5, n6, n7, n8⟩ := hM0.co (fun a a0 => fr_row h1 (fun k => by omega)) (fun _ _ => rfl)
  refine ev_aloadn_2 i238_604 ?_
  refine ev_virt0 i238_605 g238_605 rfl (by decide +kernel) (Nat.le_of_ble_eq_true rfl) (m_thresh n1 (fun N h2 => ?_))
  refine ev_icmpeq i238_608 (fun _ => ?_) (fun q => absurd rfl q)
  have hX2 : XR J L sw B f s c t b w e im := ⟨x1.co (fun a a0 a1 => fr_row h1 (fun k => by omega)), x2.co (fun a a0 a1 => ⟨fr_row h1 (fun k => by omega), rfl⟩), x3.co (fun a k a0 a1 => h1 a k (by omega)), x4.co (h1 24 1 (by omega)) (fr_row h1 (fun k => by omega)), x5.co (h1 56 2 (by omega)) (h1 56 3 (by omega)) (fr_row h1 (fun k => by omega)) (fr_row h1 (fun k => by omega)), x6.co (h1 2 12 (by omega)) (fun a p => fr_row h1 (fun k => by omega)), x7.co (fun a a0 a1 => fr_row h1 (fun k => by omega)), x8.co (h1 1 9 (by omega)) (fun a a0 a1 => fr_row h1 (fun k => by omega))⟩
  have hM2 : MR N L B f s c t b w e im := ⟨n1.co72 (fr_row h2 (fun k => by omega)) (fr_row h2 (fun k => by omega)) (h2 72 6 (by omega)) (h2 72 7 (by omega)), n2.co (fun a a0 a1 => ⟨fr_row h2 (fun k => by omega), rfl⟩), n3.co (fun a a0 a1 => fr_row h2 (fun k => by omega)) (h2 72 4 (by omega)) (h2 72 5 (by omega)), n4.co (h2 72 10 (by omega)) (fr_row h2 (fun k => by omega)), n5.co (h2 72 32 (by omega)) (h2 72 35 (by omega)) (fr_row h2 (fun k => by omega)) (fr_row h2 (fun k => by omega)), n6.co (h2 72 12 (by omega)) (fr_row h2 (fun k => by omega)), n7.co (fun a a0 a1 => fr_row h2 (fun k => by omega)), n8.co (h2 72 28 (by omega)) (fun a a0 a1 => fr_row h2 (fun k => by omega))⟩
  have hP2 : PR f s c b w := ⟨p1, p2, p3, p4, p5⟩
  have hX3 : XR N L sw B f s c t b w e im := hX2.co (fun a a0 => fr_row h2 (fun k => by omega)) (fun _ _ => rfl)
  refine ew_iinc_3 i238_1472 rfl ?_
  refine ev_goto i238_1475 ?_
  exact hK _ _ _ _ _ _ _ _ _ _ _ hX3.up hM2.up hP2
theorem D_tune (hX : XR I L sw B f s c t b w e im) (hM : MR I L B f s c t b w e im) (hP : PR f s c b w) (hB : 0 ≤ B ∧ B ≤ 512) (hn : n ≤ 3072) (hi : 0 ≤ i ∧ i + 6 ≤ n) (hK : ∀ (J : Nat → Nat → Int32) (M : Nat → Nat → Int64) (sw : Bool) (f : ts_Fl) (s : ts_Sh) (c : ts_Ch) (t : ts_Ta) (b : ts_Bo) (w : ts_Lw) (e : ts_De) (im : ts_Im), XR J M sw (B + 1) f s c t b w e im → MR J M (B + 1) f s c t b w e im → PR f s c b w → ts_Ev (n, xf) (tsC n xf d) 238 [] K 18 [.ref 1000, .ref 1, .ref 72, .int (zI (i + 6))] [] (J, M, ts_P0 sw, ts_S0)) : ts_Ev (n, xf) (tsC n xf d) 238 [] K 613 [.ref 1000, .ref 1, .ref 72, .int (zI (i))] [] (I, L, ts_P0 sw, ts_S0) := by
  obtain ⟨x1, x2, x3, x4, x5, x6, x7, x8⟩ := hX
  have hM0 := hM
  obtain ⟨m1, m2, m3, m4, m5, m6, m7, m8⟩ := hM
  obtain ⟨p1, p2, p3, p4, p5⟩ := hP
  refine ev_aloadn_1 i238_613 ?_
  refine ev_aloadn_0 i238_614 ?_
  refine ev_iloadn_3 i238_615 ?_
  refine ew_iconst i238_616 ?_
  refine ew_iadd i238_617 ?_
  refine ew_iaload i238_618 rfl (by omega) (by omega) (by omega) (by first | exact rd_any _ | exact hX.men | exact hX.told | exact hX.road | exact hX.tone _ (by omega) (by omega) | exact hX.corn _ (by omega) (by omega) | exact hX.stand _ (by omega) (by omega) | exact hX.reach _ (by omega) (by omega) | exact hX.arm _ (by omega) (by omega) | exact hX.late _ (by omega) (by omega) | exact hX.len _ (by omega) (by omega) | exact hX.say (by omega) (by omega) _ (by omega) (by omega)) (fun b618 => ?_)
  refine ev_virt1 i238_619 g238_619 rfl (by decide +kernel) (Nat.le_of_ble_eq_true rfl) (x_tune x1 x6 p5 (zI_r _) (fun J h1 => ?_))
  obtain ⟨n1, n2, n3, n4, n5, n6, n7, n8⟩ := hM0.co (fun a a0 => fr_row h1 (fun k => by omega)) (fun _ _ => rfl)
  refine ev_aloadn_2 i238_622 ?_
  refine ev_aloadn_0 i238_623 ?_
  refine ev_iloadn_3 i238_624 ?_
  refine ew_iconst i238_625 ?_
  refine ew_iadd i238_626 ?_
  refine ew_iaload i238_627 rfl (by omega) (by omega) (by omega) (by first | exact rd_any _ | exact hX.men | exact hX.told | exact hX.road | exact hX.tone _ (by omega) (by omega) | exact hX.corn _ (by omega) (by omega) | exact hX.stand _ (by omega) (by omega) | exact hX.reach _ (by omega) (by omega) | exact hX.arm _ (by omega) (by omega) | exact hX.late _ (by omega) (by omega) | exact hX.len _ (by omega) (by omega) | exact hX.say (by omega) (by omega) _ (by omega) (by omega)) (fun b627 => ?_)
  refine ev_virt1 i238_628 g238_628 rfl (by decide +kernel) (Nat.le_of_ble_eq_true rfl) (m_tune n1 n6 p5 (zI_r _) (fun N h2 g2 => ?_))
  refine ev_icmpeq i238_631 (fun _ => ?_) (fun q => absurd rfl q)
  have hX2 : XR J L sw B f s c t b w e im := ⟨x1.co (fun a a0 a1 => fr_row h1 (fun k => by omega)), x2.co (fun a a0 a1 => ⟨fr_row h1 (fun k => by omega), rfl⟩), x3.co (fun a k a0 a1 => h1 a k (by omega)), x4.co (h1 24 1 (by omega)) (fr_row h1 (fun k => by omega)), x5.co (h1 56 2 (by omega)) (h1 56 3 (by omega)) (fr_row h1 (fun k => by omega)) (fr_row h1 (fun k => by omega)), x6.co (h1 2 12 (by omega)) (fun a p => fr_row h1 (fun k => by omega)), x7.co (fun a a0 a1 => fr_row h1 (fun k => by omega)), x8.co (h1 1 9 (by omega)) (fun a a0 a1 => fr_row h1 (fun k => by omega))⟩
  have hM2 : MR N L B f s c t b w e im := ⟨g2, n2.co (fun a a0 a1 => ⟨fr_row h2 (fun k => by omega), rfl⟩), n3.co (fun a a0 a1 => fr_row h2 (fun k => by omega)) (h2 72 4 (by omega)) (h2 72 5 (by omega)), n4.co (h2 72 10 (by omega)) (fr_row h2 (fun k => by omega)), n5.co (h2 72 32 (by omega)) (h2 72 35 (by omega)) (fr_row h2 (fun k => by omega)) (fr_row h2 (fun k => by omega)), n6.co (h2 72 12 (by omega)) (fr_row h2 (fun k => by omega)), n7.co (fun a a0 a1 => fr_row h2 (fun k => by omega)), n8.co (h2 72 28 (by omega)) (fun a a0 a1 => fr_row h2 (fun k => by omega))⟩
  have hP2 : PR f s c b w := ⟨p1, p2, p3, p4, p5⟩
  have hX3 : XR N L sw B f s c t b w e im := hX2.co (fun a a0 => fr_row h2 (fun k => by omega)) (fun _ _ => rfl)
  refine ew_iinc_3 i238_1472 rfl ?_
  refine ev_goto i238_1475 ?_
  exact hK _ _ _ _ _ _ _ _ _ _ _ hX3.up hM2.up hP2
theorem D_nearest (hX : XR I L sw B f s c t b w e im) (hM : MR I L B f s c t b w e im) (hP : PR f s c b w) (hB : 0 ≤ B ∧ B ≤ 512) (hn : n ≤ 3072) (hi : 0 ≤ i ∧ i + 6 ≤ n) (hK : ∀ (J : Nat → Nat → Int32) (M : Nat → Nat → Int64) (sw : Bool) (f : ts_Fl) (s : ts_Sh) (c : ts_Ch) (t : ts_Ta) (b : ts_Bo) (w : ts_Lw) (e : ts_De) (im : ts_Im), XR J M sw (B + 1) f s c t b w e im → MR J M (B + 1) f s c t b w e im → PR f s c b w → ts_Ev (n, xf) (tsC n xf d) 238 [] K 18 [.ref 1000, .ref 1, .ref 72, .int (zI (i + 6))] [] (J, M, ts_P0 sw, ts_S0)) : ts_Ev (n, xf) (tsC n xf d) 238 [] K 636 [.ref 1000, .ref 1, .ref 72, .int (zI (i))] [] (I, L, ts_P0 sw, ts_S0) := by
  obtain ⟨x1, x2, x3, x4, x5, x6, x7, x8⟩ := hX
  have hM0 := hM
  obtain ⟨m1, m2, m3, m4, m5, m6, m7, m8⟩ := hM
  obtain ⟨p1, p2, p3, p4, p5⟩ := hP
  refine ev_aloadn_1 i238_636 ?_
  refine ev_aloadn_0 i238_637 ?_
  refine ev_iloadn_3 i238_638 ?_
  refine ew_iconst i238_639 ?_
  refine ew_iadd i238_640 ?_
  refine ew_iaload i238_641 rfl (by omega) (by omega) (by omega) (by first | exact rd_any _ | exact hX.men | exact hX.told | exact hX.road | exact hX.tone _ (by omega) (by omega) | exact hX.corn _ (by omega) (by omega) | exact hX.stand _ (by omega) (by omega) | exact hX.reach _ (by omega) (by omega) | exact hX.arm _ (by omega) (by omega) | exact hX.late _ (by omega) (by omega) | exact hX.len _ (by omega) (by omega) | exact hX.say (by omega) (by omega) _ (by omega) (by omega)) (fun b641 => ?_)
  refine ev_aloadn_0 i238_642 ?_
  refine ev_iloadn_3 i238_643 ?_
  refine ew_iconst i238_644 ?_
  refine ew_iadd i238_645 ?_
  refine ew_iaload i238_646 rfl (by omega) (by omega) (by omega) (by first | exact rd_any _ | exact hX.men | exact hX.told | exact hX.road | exact hX.tone _ (by omega) (by omega) | exact hX.corn _ (by omega) (by omega) | exact hX.stand _ (by omega) (by omega) | exact hX.reach _ (by omega) (by omega) | exact hX.arm _ (by omega) (by omega) | exact hX.late _ (by omega) (by omega) | exact hX.len _ (by omega) (by omega) | exact hX.say (by omega) (by omega) _ (by omega) (by omega)) (fun b646 => ?_)
  refine ev_virt2 i238_647 g238_647 rfl (by decide +kernel) (Nat.le_of_ble_eq_true rfl) (x_nearest x1 x2 (zI_r _) (zI_r _) (fun J h1 => ?_))
  obtain ⟨n1, n2, n3, n4, n5, n6, n7, n8⟩ := hM0.co (fun a a0 => fr_row h1 (fun k => by omega)) (fun _ _ => rfl)
  refine ev_aloadn_2 i238_650 ?_
  refine ev_aloadn_0 i238_651 ?_
  refine ev_iloadn_3 i238_652 ?_
  refine ew_iconst i238_653 ?_
  refine ew_iadd i238_654 ?_
  refine ew_iaload i238_655 rfl (by omega) (by omega) (by omega) (by first | exact rd_any _ | exact hX.men | exact hX.told | exact hX.road | exact hX.tone _ (by omega) (by omega) | exact hX.corn _ (by omega) (by omega) | exact hX.stand _ (by omega) (by omega) | exact hX.reach _ (by omega) (by omega) | exact hX.arm _ (by omega) (by omega) | exact hX.late _ (by omega) (by omega) | exact hX.len _ (by omega) (by omega) | exact hX.say (by omega) (by omega) _ (by omega) (by omega)) (fun b655 => ?_)
  refine ev_aloadn_0 i238_656 ?_
  refine ev_iloadn_3 i238_657 ?_
  refine ew_iconst i238_658 ?_
  refine ew_iadd i238_659 ?_
  refine ew_iaload i238_660 rfl (by omega) (by omega) (by omega) (by first | exact rd_any _ | exact hX.men | exact hX.told | exact hX.road | exact hX.tone _ (by omega) (by omega) | exact hX.corn _ (by omega) (by omega) | exact hX.stand _ (by omega) (by omega) | exact hX.reach _ (by omega) (by omega) | exact hX.arm _ (by omega) (by omega) | exact hX.late _ (by omega) (by omega) | exact hX.len _ (by omega) (by omega) | exact hX.say (by omega) (by omega) _ (by omega) (by omega)) (fun b660 => ?_)
  refine ev_virt2 i238_661 g238_661 rfl (by decide +kernel) (Nat.le_of_ble_eq_true rfl) (m_nearest n1 n2 (zI_r _) (zI_r _) (fun N h2 => ?_))
  refine ev_icmpeq i238_664 (fun _ => ?_) (fun q => absurd rfl q)
  have hX2 : XR J L sw B f s c t b w e im := ⟨x1.co (fun a a0 a1 => fr_row h1 (fun k => by omega)), x2.co (fun a a0 a1 => ⟨fr_row h1 (fun k => by omega), rfl⟩), x3.co (fun a k a0 a1 => h1 a k (by omega)), x4.co (h1 24 1 (by omega)) (fr_row h1 (fun k => by omega)), x5.co (h1 56 2 (by omega)) (h1 56 3 (by omega)) (fr_row h1 (fun k => by omega)) (fr_row h1 (fun k => by omega)), x6.co (h1 2 12 (by omega)) (fun a p => fr_row h1 (fun k => by omega)), x7.co (fun a a0 a1 => fr_row h1 (fun k => by omega)), x8.co (h1 1 9 (by omega)) (fun a a0 a1 => fr_row h1 (fun k => by omega))⟩
  have hM2 : MR N L B f s c t b w e im := ⟨n1.co72 (fr_row h2 (fun k => by omega)) (fr_row h2 (fun k => by omega)) (h2 72 6 (by omega)) (h2 72 7 (by omega)), n2.co (fun a a0 a1 => ⟨fr_row h2 (fun k => by omega), rfl⟩), n3.co (fun a a0 a1 => fr_row h2 (fun k => by omega)) (h2 72 4 (by omega)) (h2 72 5 (by omega)), n4.co (h2 72 10 (by omega)) (fr_row h2 (fun k => by omega)), n5.co (h2 72 32 (by omega)) (h2 72 35 (by omega)) (fr_row h2 (fun k => by omega)) (fr_row h2 (fun k => by omega)), n6.co (h2 72 12 (by omega)) (fr_row h2 (fun k => by omega)), n7.co (fun a a0 a1 => fr_row h2 (fun k => by omega)), n8.co (h2 72 28 (by omega)) (fun a a0 a1 => fr_row h2 (fun k => by omega))⟩
  have hP2 : PR f s c b w := ⟨p1, p2, p3, p4, p5⟩
  have hX3 : XR N L sw B f s c t b w e im := hX2.co (fun a a0 => fr_row h2 (fun k => by omega)) (fun _ _ => rfl)
  refine ew_iinc_3 i238_1472 rfl ?_
  refine ev_goto i238_1475 ?_
  exact hK _ _ _ _ _ _ _ _ _ _ _ hX3.up hM2.up hP2
theorem D_likely (hX : XR I L sw B f s c t b w e im) (hM : MR I L B f s c t b w e im) (hP : PR f s c b w) (hB : 0 ≤ B ∧ B ≤ 512) (hn : n ≤ 3072) (hi : 0 ≤ i ∧ i + 6 ≤ n) (hK : ∀ (J : Nat → Nat → Int32) (M : Nat → Nat → Int64) (sw : Bool) (f : ts_Fl) (s : ts_Sh) (c : ts_Ch) (t : ts_Ta) (b : ts_Bo) (w : ts_Lw) (e : ts_De) (im : ts_Im), XR J M sw (B + 1) f s c t b w e im → MR J M (B + 1) f s c t b w e im → PR f s c b w → ts_Ev (n, xf) (tsC n xf d) 238 [] K 18 [.ref 1000, .ref 1, .ref 72, .int (zI (i + 6))] [] (J, M, ts_P0 sw, ts_S0)) : ts_Ev (n, xf) (tsC n xf d) 238 [] K 669 [.ref 1000, .ref 1, .ref 72, .int (zI (i))] [] (I, L, ts_P0 sw, ts_S0) := by
  obtain ⟨x1, x2, x3, x4, x5, x6, x7, x8⟩ := hX
  have hM0 := hM
  obtain ⟨m1, m2, m3, m4, m5, m6, m7, m8⟩ := hM
  obtain ⟨p1, p2, p3, p4, p5⟩ := hP
  refine ev_aloadn_1 i238_669 ?_
  refine ev_aloadn_0 i238_670 ?_
  refine ev_iloadn_3 i238_671 ?_
  refine ew_iconst i238_672 ?_
  refine ew_iadd i238_673 ?_
  refine ew_iaload i238_674 rfl (by omega) (by omega) (by omega) (by first | exact rd_any _ | exact hX.men | exact hX.told | exact hX.road | exact hX.tone _ (by omega) (by omega) | exact hX.corn _ (by omega) (by omega) | exact hX.stand _ (by omega) (by omega) | exact hX.reach _ (by omega) (by omega) | exact hX.arm _ (by omega) (by omega) | exact hX.late _ (by omega) (by omega) | exact hX.len _ (by omega) (by omega) | exact hX.say (by omega) (by omega) _ (by omega) (by omega)) (fun b674 => ?_)
  refine ev_aloadn_0 i238_675 ?_
  refine ev_iloadn_3 i238_676 ?_
  refine ew_iconst i238_677 ?_
  refine ew_iadd i238_678 ?_
  refine ew_iaload i238_679 rfl (by omega) (by omega) (by omega) (by first | exact rd_any _ | exact hX.men | exact hX.told | exact hX.road | exact hX.tone _ (by omega) (by omega) | exact hX.corn _ (by omega) (by omega) | exact hX.stand _ (by omega) (by omega) | exact hX.reach _ (by omega) (by omega) | exact hX.arm _ (by omega) (by omega) | exact hX.late _ (by omega) (by omega) | exact hX.len _ (by omega) (by omega) | exact hX.say (by omega) (by omega) _ (by omega) (by omega)) (fun b679 => ?_)
  refine ev_aloadn_0 i238_680 ?_
  refine ev_iloadn_3 i238_681 ?_
  refine ew_iconst i238_682 ?_
  refine ew_iadd i238_683 ?_
  refine ew_iaload i238_684 rfl (by omega) (by omega) (by omega) (by first | exact rd_any _ | exact hX.men | exact hX.told | exact hX.road | exact hX.tone _ (by omega) (by omega) | exact hX.corn _ (by omega) (by omega) | exact hX.stand _ (by omega) (by omega) | exact hX.reach _ (by omega) (by omega) | exact hX.arm _ (by omega) (by omega) | exact hX.late _ (by omega) (by omega) | exact hX.len _ (by omega) (by omega) | exact hX.say (by omega) (by omega) _ (by omega) (by omega)) (fun b684 => ?_)
  refine ev_virt3 i238_685 g238_685 rfl (by decide +kernel) (Nat.le_of_ble_eq_true rfl) (x_likely x1 x2 (zI_r _) (zI_r _) (zI_r _) (fun J h1 => ?_))
  obtain ⟨n1, n2, n3, n4, n5, n6, n7, n8⟩ := hM0.co (fun a a0 => fr_row h1 (fun k => by omega)) (fun _ _ => rfl)
  refine ev_aloadn_2 i238_688 ?_
  refine ev_aloadn_0 i238_689 ?_
  refine ev_iloadn_3 i238_690 ?_
  refine ew_iconst i238_691 ?_
  refine ew_iadd i238_692 ?_
  refine ew_iaload i238_693 rfl (by omega) (by omega) (by omega) (by first | exact rd_any _ | exact hX.men | exact hX.told | exact hX.road | exact hX.tone _ (by omega) (by omega) | exact hX.corn _ (by omega) (by omega) | exact hX.stand _ (by omega) (by omega) | exact hX.reach _ (by omega) (by omega) | exact hX.arm _ (by omega) (by omega) | exact hX.late _ (by omega) (by omega) | exact hX.len _ (by omega) (by omega) | exact hX.say (by omega) (by omega) _ (by omega) (by omega)) (fun b693 => ?_)
  refine ev_aloadn_0 i238_694 ?_
  refine ev_iloadn_3 i238_695 ?_
  refine ew_iconst i238_696 ?_
  refine ew_iadd i238_697 ?_
  refine ew_iaload i238_698 rfl (by omega) (by omega) (by omega) (by first | exact rd_any _ | exact hX.men | exact hX.told | exact hX.road | exact hX.tone _ (by omega) (by omega) | exact hX.corn _ (by omega) (by omega) | exact hX.stand _ (by omega) (by omega) | exact hX.reach _ (by omega) (by omega) | exact hX.arm _ (by omega) (by omega) | exact hX.late _ (by omega) (by omega) | exact hX.len _ (by omega) (by omega) | exact hX.say (by omega) (by omega) _ (by omega) (by omega)) (fun b698 => ?_)
  refine ev_aloadn_0 i238_699 ?_
  refine ev_iloadn_3 i238_700 ?_
  refine ew_iconst i238_701 ?_
  refine ew_iadd i238_702 ?_
  refine ew_iaload i238_703 rfl (by omega) (by omega) (by omega) (by first | exact rd_any _ | exact hX.men | exact hX.told | exact hX.road | exact hX.tone _ (by omega) (by omega) | exact hX.corn _ (by omega) (by omega) | exact hX.stand _ (by omega) (by omega) | exact hX.reach _ (by omega) (by omega) | exact hX.arm _ (by omega) (by omega) | exact hX.late _ (by omega) (by omega) | exact hX.len _ (by omega) (by omega) | exact hX.say (by omega) (by omega) _ (by omega) (by omega)) (fun b703 => ?_)
  refine ev_virt3 i238_704 g238_704 rfl (by decide +kernel) (Nat.le_of_ble_eq_true rfl) (m_likely n1 n2 (zI_r _) (zI_r _) (zI_r _) (fun N h2 => ?_))
  refine ev_lcmp i238_707 ?_
  refine ev_ifeq i238_708 (fun _ => ?_) (fun q => absurd (lg_cmp_self _) q)
  have hX2 : XR J L sw B f s c t b w e im := ⟨x1.co (fun a a0 a1 => fr_row h1 (fun k => by omega)), x2.co (fun a a0 a1 => ⟨fr_row h1 (fun k => by omega), rfl⟩), x3.co (fun a k a0 a1 => h1 a k (by omega)), x4.co (h1 24 1 (by omega)) (fr_row h1 (fun k => by omega)), x5.co (h1 56 2 (by omega)) (h1 56 3 (by omega)) (fr_row h1 (fun k => by omega)) (fr_row h1 (fun k => by omega)), x6.co (h1 2 12 (by omega)) (fun a p => fr_row h1 (fun k => by omega)), x7.co (fun a a0 a1 => fr_row h1 (fun k => by omega)), x8.co (h1 1 9 (by omega)) (fun a a0 a1 => fr_row h1 (fun k => by omega))⟩
  have hM2 : MR N L B f s c t b w e im := ⟨n1.co72 (fr_row h2 (fun k => by omega)) (fr_row h2 (fun k => by omega)) (h2 72 6 (by omega)) (h2 72 7 (by omega)), n2.co (fun a a0 a1 => ⟨fr_row h2 (fun k => by omega), rfl⟩), n3.co (fun a a0 a1 => fr_row h2 (fun k => by omega)) (h2 72 4 (by omega)) (h2 72 5 (by omega)), n4.co (h2 72 10 (by omega)) (fr_row h2 (fun k => by omega)), n5.co (h2 72 32 (by omega)) (h2 72 35 (by omega)) (fr_row h2 (fun k => by omega)) (fr_row h2 (fun k => by omega)), n6.co (h2 72 12 (by omega)) (fr_row h2 (fun k => by omega)), n7.co (fun a a0 a1 => fr_row h2 (fun k => by omega)), n8.co (h2 72 28 (by omega)) (fun a a0 a1 => fr_row h2 (fun k => by omega))⟩
  have hP2 : PR f s c b w := ⟨p1, p2, p3, p4, p5⟩
  have hX3 : XR N L sw B f s c t b w e im := hX2.co (fun a a0 => fr_row h2 (fun k => by omega)) (fun _ _ => rfl)
  refine ew_iinc_3 i238_1472 rfl ?_
  refine ev_goto i238_1475 ?_
  exact hK _ _ _ _ _ _ _ _ _ _ _ hX3.up hM2.up hP2
theorem D_slips (hX : XR I L sw B f s c t b w e im) (hM : MR I L B f s c t b w e im) (hP : PR f s c b w) (hB : 0 ≤ B ∧ B ≤ 512) (hn : n ≤ 3072) (hi : 0 ≤ i ∧ i + 6 ≤ n) (hK : ∀ (J : Nat → Nat → Int32) (M : Nat → Nat → Int64) (sw : Bool) (f : ts_Fl) (s : ts_Sh) (c : ts_Ch) (t : ts_Ta) (b : ts_Bo) (w : ts_Lw) (e : ts_De) (im : ts_Im), XR J M sw (B + 1) f s c t b w e im → MR J M (B + 1) f s c t b w e im → PR f s c b w → ts_Ev (n, xf) (tsC n xf d) 238 [] K 18 [.ref 1000, .ref 1, .ref 72, .int (zI (i + 6))] [] (J, M, ts_P0 sw, ts_S0)) : ts_Ev (n, xf) (tsC n xf d) 238 [] K 713 [.ref 1000, .ref 1, .ref 72, .int (zI (i))] [] (I, L, ts_P0 sw, ts_S0) := by
  obtain ⟨x1, x2, x3, x4, x5, x6, x7, x8⟩ := hX
  have hM0 := hM
  obtain ⟨m1, m2, m3, m4, m5, m6, m7, m8⟩ := hM
  obtain ⟨p1, p2, p3, p4, p5⟩ := hP
  refine ev_aloadn_1 i238_713 ?_
  refine ev_aloadn_0 i238_714 ?_
  refine ev_iloadn_3 i238_715 ?_
  refine ew_iconst i238_716 ?_
  refine ew_iadd i238_717 ?_
  refine ew_iaload i238_718 rfl (by omega) (by omega) (by omega) (by first | exact rd_any _ | exact hX.men | exact hX.told | exact hX.road | exact hX.tone _ (by omega) (by omega) | exact hX.corn _ (by omega) (by omega) | exact hX.stand _ (by omega) (by omega) | exact hX.reach _ (by omega) (by omega) | exact hX.arm _ (by omega) (by omega) | exact hX.late _ (by omega) (by omega) | exact hX.len _ (by omega) (by omega) | exact hX.say (by omega) (by omega) _ (by omega) (by omega)) (fun b718 => ?_)
  refine ev_aloadn_0 i238_719 ?_
  refine ev_iloadn_3 i238_720 ?_
  refine ew_iconst i238_721 ?_
  refine ew_iadd i238_722 ?_
  refine ew_iaload i238_723 rfl (by omega) (by omega) (by omega) (by first | exact rd_any _ | exact hX.men | exact hX.told | exact hX.road | exact hX.tone _ (by omega) (by omega) | exact hX.corn _ (by omega) (by omega) | exact hX.stand _ (by omega) (by omega) | exact hX.reach _ (by omega) (by omega) | exact hX.arm _ (by omega) (by omega) | exact hX.late _ (by omega) (by omega) | exact hX.len _ (by omega) (by omega) | exact hX.say (by omega) (by omega) _ (by omega) (by omega)) (fun b723 => ?_)
  refine ev_virt2 i238_724 g238_724 rfl (by decide +kernel) (Nat.le_of_ble_eq_true rfl) (x_slips x1 x2 (zI_r _) (zI_r _) (fun J h1 => ?_))
  obtain ⟨n1, n2, n3, n4, n5, n6, n7, n8⟩ := hM0.co (fun a a0 => fr_row h1 (fun k => by omega)) (fun _ _ => rfl)
  refine ev_aloadn_2 i238_727 ?_
  refine ev_aloadn_0 i238_728 ?_
  refine ev_iloadn_3 i238_729 ?_
  refine ew_iconst i238_730 ?_
  refine ew_iadd i238_731 ?_
  refine ew_iaload i238_732 rfl (by omega) (by omega) (by omega) (by first | exact rd_any _ | exact hX.men | exact hX.told | exact hX.road | exact hX.tone _ (by omega) (by omega) | exact hX.corn _ (by omega) (by omega) | exact hX.stand _ (by omega) (by omega) | exact hX.reach _ (by omega) (by omega) | exact hX.arm _ (by omega) (by omega) | exact hX.late _ (by omega) (by omega) | exact hX.len _ (by omega) (by omega) | exact hX.say (by omega) (by omega) _ (by omega) (by omega)) (fun b732 => ?_)
  refine ev_aloadn_0 i238_733 ?_
  refine ev_iloadn_3 i238_734 ?_
  refine ew_iconst i238_735 ?_
  refine ew_iadd i238_736 ?_
  refine ew_iaload i238_737 rfl (by omega) (by omega) (by omega) (by first | exact rd_any _ | exact hX.men | exact hX.told | exact hX.road | exact hX.tone _ (by omega) (by omega) | exact hX.corn _ (by omega) (by omega) | exact hX.stand _ (by omega) (by omega) | exact hX.reach _ (by omega) (by omega) | exact hX.arm _ (by omega) (by omega) | exact hX.late _ (by omega) (by omega) | exact hX.len _ (by omega) (by omega) | exact hX.say (by omega) (by omega) _ (by omega) (by omega)) (fun b737 => ?_)
  refine ev_virt2 i238_738 g238_738 rfl (by decide +kernel) (Nat.le_of_ble_eq_true rfl) (m_slips n1 n2 (zI_r _) (zI_r _) (fun N h2 => ?_))
  refine ev_icmpeq i238_741 (fun _ => ?_) (fun q => absurd rfl q)
  have hX2 : XR J L sw B f s c t b w e im := ⟨x1.co (fun a a0 a1 => fr_row h1 (fun k => by omega)), x2.co (fun a a0 a1 => ⟨fr_row h1 (fun k => by omega), rfl⟩), x3.co (fun a k a0 a1 => h1 a k (by omega)), x4.co (h1 24 1 (by omega)) (fr_row h1 (fun k => by omega)), x5.co (h1 56 2 (by omega)) (h1 56 3 (by omega)) (fr_row h1 (fun k => by omega)) (fr_row h1 (fun k => by omega)), x6.co (h1 2 12 (by omega)) (fun a p => fr_row h1 (fun k => by omega)), x7.co (fun a a0 a1 => fr_row h1 (fun k => by omega)), x8.co (h1 1 9 (by omega)) (fun a a0 a1 => fr_row h1 (fun k => by omega))⟩
  have hM2 : MR N L B f s c t b w e im := ⟨n1.co72 (fr_row h2 (fun k => by omega)) (fr_row h2 (fun k => by omega)) (h2 72 6 (by omega)) (h2 72 7 (by omega)), n2.co (fun a a0 a1 => ⟨fr_row h2 (fun k => by omega), rfl⟩), n3.co (fun a a0 a1 => fr_row h2 (fun k => by omega)) (h2 72 4 (by omega)) (h2 72 5 (by omega)), n4.co (h2 72 10 (by omega)) (fr_row h2 (fun k => by omega)), n5.co (h2 72 32 (by omega)) (h2 72 35 (by omega)) (fr_row h2 (fun k => by omega)) (fr_row h2 (fun k => by omega)), n6.co (h2 72 12 (by omega)) (fr_row h2 (fun k => by omega)), n7.co (fun a a0 a1 => fr_row h2 (fun k => by omega)), n8.co (h2 72 28 (by omega)) (fun a a0 a1 => fr_row h2 (fun k => by omega))⟩
  have hP2 : PR f s c b w := ⟨p1, p2, p3, p4, p5⟩
  have hX3 : XR N L sw B f s c t b w e im := hX2.co (fun a a0 => fr_row h2 (fun k => by omega)) (fun _ _ => rfl)
  refine ew_iinc_3 i238_1472 rfl ?_
  refine ev_goto i238_1475 ?_
  exact hK _ _ _ _ _ _ _ _ _ _ _ hX3.up hM2.up hP2
theorem D_apart (hX : XR I L sw B f s c t b w e im) (hM : MR I L B f s c t b w e im) (hP : PR f s c b w) (hB : 0 ≤ B ∧ B ≤ 512) (hn : n ≤ 3072) (hi : 0 ≤ i ∧ i + 6 ≤ n) (hK : ∀ (J : Nat → Nat → Int32) (M : Nat → Nat → Int64) (sw : Bool) (f : ts_Fl) (s : ts_Sh) (c : ts_Ch) (t : ts_Ta) (b : ts_Bo) (w : ts_Lw) (e : ts_De) (im : ts_Im), XR J M sw (B + 1) f s c t b w e im → MR J M (B + 1) f s c t b w e im → PR f s c b w → ts_Ev (n, xf) (tsC n xf d) 238 [] K 18 [.ref 1000, .ref 1, .ref 72, .int (zI (i + 6))] [] (J, M, ts_P0 sw, ts_S0)) : ts_Ev (n, xf) (tsC n xf d) 238 [] K 746 [.ref 1000, .ref 1, .ref 72, .int (zI (i))] [] (I, L, ts_P0 sw, ts_S0) := by
  obtain ⟨x1, x2, x3, x4, x5, x6, x7, x8⟩ := hX
  have hM0 := hM
  obtain ⟨m1, m2, m3, m4, m5, m6, m7, m8⟩ := hM
  obtain ⟨p1, p2, p3, p4, p5⟩ := hP
  refine ev_aloadn_1 i238_746 ?_
  refine ev_aloadn_0 i238_747 ?_
  refine ev_iloadn_3 i238_748 ?_
  refine ew_iconst i238_749 ?_
  refine ew_iadd i238_750 ?_
  refine ew_iaload i238_751 rfl (by omega) (by omega) (by omega) (by first | exact rd_any _ | exact hX.men | exact hX.told | exact hX.road | exact hX.tone _ (by omega) (by omega) | exact hX.corn _ (by omega) (by omega) | exact hX.stand _ (by omega) (by omega) | exact hX.reach _ (by omega) (by omega) | exact hX.arm _ (by omega) (by omega) | exact hX.late _ (by omega) (by omega) | exact hX.len _ (by omega) (by omega) | exact hX.say (by omega) (by omega) _ (by omega) (by omega)) (fun b751 => ?_)
  refine ev_virt1 i238_752 g238_752 rfl (by decide +kernel) (Nat.le_of_ble_eq_true rfl) (x_apart x1 (zI_r _) ?_)
  refine ev_aloadn_2 i238_755 ?_
  refine ev_aloadn_0 i238_756 ?_
  refine ev_iloadn_3 i238_757 ?_
  refine ew_iconst i238_758 ?_
  refine ew_iadd i238_759 ?_
  refine ew_iaload i238_760 rfl (by omega) (by omega) (by omega) (by first | exact rd_any _ | exact hX.men | exact hX.told | exact hX.road | exact hX.tone _ (by omega) (by omega) | exact hX.corn _ (by omega) (by omega) | exact hX.stand _ (by omega) (by omega) | exact hX.reach _ (by omega) (by omega) | exact hX.arm _ (by omega) (by omega) | exact hX.late _ (by omega) (by omega) | exact hX.len _ (by omega) (by omega) | exact hX.say (by omega) (by omega) _ (by omega) (by omega)) (fun b760 => ?_)
  refine ev_virt1 i238_761 g238_761 rfl (by decide +kernel) (Nat.le_of_ble_eq_true rfl) (m_apart m1 (zI_r _) ?_)
  refine ev_icmpeq i238_764 (fun _ => ?_) (fun q => absurd rfl q)
  refine ew_iinc_3 i238_1472 rfl ?_
  refine ev_goto i238_1475 ?_
  exact hK _ _ _ _ _ _ _ _ _ _ _ (XR.up ⟨x1, x2, x3, x4, x5, x6, x7, x8⟩) hM0.up ⟨p1, p2, p3, p4, p5⟩
theorem D_closest (hX : XR I L sw B f s c t b w e im) (hM : MR I L B f s c t b w e im) (hP : PR f s c b w) (hB : 0 ≤ B ∧ B ≤ 512) (hn : n ≤ 3072) (hi : 0 ≤ i ∧ i + 6 ≤ n) (hK : ∀ (J : Nat → Nat → Int32) (M : Nat → Nat → Int64) (sw : Bool) (f : ts_Fl) (s : ts_Sh) (c : ts_Ch) (t : ts_Ta) (b : ts_Bo) (w : ts_Lw) (e : ts_De) (im : ts_Im), XR J M sw (B + 1) f s c t b w e im → MR J M (B + 1) f s c t b w e im → PR f s c b w → ts_Ev (n, xf) (tsC n xf d) 238 [] K 18 [.ref 1000, .ref 1, .ref 72, .int (zI (i + 6))] [] (J, M, ts_P0 sw, ts_S0)) : ts_Ev (n, xf) (tsC n xf d) 238 [] K 769 [.ref 1000, .ref 1, .ref 72, .int (zI (i))] [] (I, L, ts_P0 sw, ts_S0) := by
  obtain ⟨x1, x2, x3, x4, x5, x6, x7, x8⟩ := hX
  have hM0 := hM
  obtain ⟨m1, m2, m3, m4, m5, m6, m7, m8⟩ := hM
  obtain ⟨p1, p2, p3, p4, p5⟩ := hP
  refine ev_aloadn_1 i238_769 ?_
  refine ev_virt0 i238_770 g238_770 rfl (by decide +kernel) (Nat.le_of_ble_eq_true rfl) (x_closest x1 ?_)
  refine ev_aloadn_2 i238_773 ?_
  refine ev_virt0 i238_774 g238_774 rfl (by decide +kernel) (Nat.le_of_ble_eq_true rfl) (m_closest m1 ?_)
  refine ev_icmpeq i238_777 (fun _ => ?_) (fun q => absurd rfl q)
  refine ew_iinc_3 i238_1472 rfl ?_
  refine ev_goto i238_1475 ?_
  exact hK _ _ _ _ _ _ _ _ _ _ _ (XR.up ⟨x1, x2, x3, x4, x5, x6, x7, x8⟩) hM0.up ⟨p1, p2, p3, p4, p5⟩
theorem D_begins (hX : XR I L sw B f s c t b w e im) (hM : MR I L B f s c t b w e im) (hP : PR f s c b w) (hB : 0 ≤ B ∧ B ≤ 512) (hn : n ≤ 3072) (hi : 0 ≤ i ∧ i + 6 ≤ n) (hK : ∀ (J : Nat → Nat → Int32) (M : Nat → Nat → Int64) (sw : Bool) (f : ts_Fl) (s : ts_Sh) (c : ts_Ch) (t : ts_Ta) (b : ts_Bo) (w : ts_Lw) (e : ts_De) (im : ts_Im), XR J M sw (B + 1) f s c t b w e im → MR J M (B + 1) f s c t b w e im → PR f s c b w → ts_Ev (n, xf) (tsC n xf d) 238 [] K 18 [.ref 1000, .ref 1, .ref 72, .int (zI (i + 6))] [] (J, M, ts_P0 sw, ts_S0)) : ts_Ev (n, xf) (tsC n xf d) 238 [] K 782 [.ref 1000, .ref 1, .ref 72, .int (zI (i))] [] (I, L, ts_P0 sw, ts_S0) := by
  obtain ⟨x1, x2, x3, x4, x5, x6, x7, x8⟩ := hX
  have hM0 := hM
  obtain ⟨m1, m2, m3, m4, m5, m6, m7, m8⟩ := hM
  obtain ⟨p1, p2, p3, p4, p5⟩ := hP
  refine ev_aloadn_1 i238_782 ?_
  refine ev_aloadn_0 i238_783 ?_
  refine ev_iloadn_3 i238_784 ?_
  refine ew_iconst i238_785 ?_
  refine ew_iadd i238_786 ?_
  refine ew_iaload i238_787 rfl (by omega) (by omega) (by omega) (by first | exact rd_any _ | exact hX.men | exact hX.told | exact hX.road | exact hX.tone _ (by omega) (by omega) | exact hX.corn _ (by omega) (by omega) | exact hX.stand _ (by omega) (by omega) | exact hX.reach _ (by omega) (by omega) | exact hX.arm _ (by omega) (by omega) | exact hX.late _ (by omega) (by omega) | exact hX.len _ (by omega) (by omega) | exact hX.say (by omega) (by omega) _ (by omega) (by omega)) (fun b787 => ?_)
  refine ev_virt1 i238_788 g238_788 rfl (by decide +kernel) (Nat.le_of_ble_eq_true rfl) (x_begins x1 (zI_r _) ?_)
  refine ev_aloadn_2 i238_791 ?_
  refine ev_aloadn_0 i238_792 ?_
  refine ev_iloadn_3 i238_793 ?_
  refine ew_iconst i238_794 ?_
  refine ew_iadd i238_795 ?_
  refine ew_iaload i238_796 rfl (by omega) (by omega) (by omega) (by first | exact rd_any _ | exact hX.men | exact hX.told | exact hX.road | exact hX.tone _ (by omega) (by omega) | exact hX.corn _ (by omega) (by omega) | exact hX.stand _ (by omega) (by omega) | exact hX.reach _ (by omega) (by omega) | exact hX.arm _ (by omega) (by omega) | exact hX.late _ (by omega) (by omega) | exact hX.len _ (by omega) (by omega) | exact hX.say (by omega) (by omega) _ (by omega) (by omega)) (fun b796 => ?_)
  refine ev_virt1 i238_797 g238_797 rfl (by decide +kernel) (Nat.le_of_ble_eq_true rfl) (m_begins m1 (zI_r _) ?_)
  refine ev_icmpeq i238_800 (fun _ => ?_) (fun q => absurd rfl q)
  refine ew_iinc_3 i238_1472 rfl ?_
  refine ev_goto i238_1475 ?_
  exact hK _ _ _ _ _ _ _ _ _ _ _ (XR.up ⟨x1, x2, x3, x4, x5, x6, x7, x8⟩) hM0.up ⟨p1, p2, p3, p4, p5⟩
theorem D_meet (hX : XR I L sw B f s c t b w e im) (hM : MR I L B f s c t b w e im) (hP : PR f s c b w) (hB : 0 ≤ B ∧ B ≤ 512) (hn : n ≤ 3072) (hi : 0 ≤ i ∧ i + 6 ≤ n) (hK : ∀ (J : Nat → Nat → Int32) (M : Nat → Nat → Int64) (sw : Bool) (f : ts_Fl) (s : ts_Sh) (c : ts_Ch) (t : ts_Ta) (b : ts_Bo) (w : ts_Lw) (e : ts_De) (im : ts_Im), XR J M sw (B + 1) f s c t b w e im → MR J M (B + 1) f s c t b w e im → PR f s c b w → ts_Ev (n, xf) (tsC n xf d) 238 [] K 18 [.ref 1000, .ref 1, .ref 72, .int (zI (i + 6))] [] (J, M, ts_P0 sw, ts_S0)) : ts_Ev (n, xf) (tsC n xf d) 238 [] K 805 [.ref 1000, .ref 1, .ref 72, .int (zI (i))] [] (I, L, ts_P0 sw, ts_S0) := by
  obtain ⟨x1, x2, x3, x4, x5, x6, x7, x8⟩ := hX
  have hM0 := hM
  obtain ⟨m1, m2, m3, m4, m5, m6, m7, m8⟩ := hM
  obtain ⟨p1, p2, p3, p4, p5⟩ := hP
  refine ev_aloadn_1 i238_805 ?_
  refine ev_aloadn_0 i238_806 ?_
  refine ev_iloadn_3 i238_807 ?_
  refine ew_iconst i238_808 ?_
  refine ew_iadd i238_809 ?_
  refine ew_iaload i238_810 rfl (by omega) (by omega) (by omega) (by first | exact rd_any _ | exact hX.men | exact hX.told | exact hX.road | exact hX.tone _ (by omega) (by omega) | exact hX.corn _ (by omega) (by omega) | exact hX.stand _ (by omega) (by omega) | exact hX.reach _ (by omega) (by omega) | exact hX.arm _ (by omega) (by omega) | exact hX.late _ (by omega) (by omega) | exact hX.len _ (by omega) (by omega) | exact hX.say (by omega) (by omega) _ (by omega) (by omega)) (fun b810 => ?_)
  refine ev_virt1 i238_811 g238_811 rfl (by decide +kernel) (Nat.le_of_ble_eq_true rfl) (x_meet x1 (zI_r _) ?_)
  refine ev_aloadn_2 i238_814 ?_
  refine ev_aloadn_0 i238_815 ?_
  refine ev_iloadn_3 i238_816 ?_
  refine ew_iconst i238_817 ?_
  refine ew_iadd i238_818 ?_
  refine ew_iaload i238_819 rfl (by omega) (by omega) (by omega) (by first | exact rd_any _ | exact hX.men | exact hX.told | exact hX.road | exact hX.tone _ (by omega) (by omega) | exact hX.corn _ (by omega) (by omega) | exact hX.stand _ (by omega) (by omega) | exact hX.reach _ (by omega) (by omega) | exact hX.arm _ (by omega) (by omega) | exact hX.late _ (by omega) (by omega) | exact hX.len _ (by omega) (by omega) | exact hX.say (by omega) (by omega) _ (by omega) (by omega)) (fun b819 => ?_)
  refine ev_virt1 i238_820 g238_820 rfl (by decide +kernel) (Nat.le_of_ble_eq_true rfl) (m_meet m1 (zI_r _) ?_)
  refine ev_icmpeq i238_823 (fun _ => ?_) (fun q => absurd rfl q)
  refine ew_iinc_3 i238_1472 rfl ?_
  refine ev_goto i238_1475 ?_
  exact hK _ _ _ _ _ _ _ _ _ _ _ (XR.up ⟨x1, x2, x3, x4, x5, x6, x7, x8⟩) hM0.up ⟨p1, p2, p3, p4, p5⟩
theorem D_first (hX : XR I L sw B f s c t b w e im) (hM : MR I L B f s c t b w e im) (hP : PR f s c b w) (hB : 0 ≤ B ∧ B ≤ 512) (hn : n ≤ 3072) (hi : 0 ≤ i ∧ i + 6 ≤ n) (hK : ∀ (J : Nat → Nat → Int32) (M : Nat → Nat → Int64) (sw : Bool) (f : ts_Fl) (s : ts_Sh) (c : ts_Ch) (t : ts_Ta) (b : ts_Bo) (w : ts_Lw) (e : ts_De) (im : ts_Im), XR J M sw (B + 1) f s c t b w e im → MR J M (B + 1) f s c t b w e im → PR f s c b w → ts_Ev (n, xf) (tsC n xf d) 238 [] K 18 [.ref 1000, .ref 1, .ref 72, .int (zI (i + 6))] [] (J, M, ts_P0 sw, ts_S0)) : ts_Ev (n, xf) (tsC n xf d) 238 [] K 828 [.ref 1000, .ref 1, .ref 72, .int (zI (i))] [] (I, L, ts_P0 sw, ts_S0) := by
  obtain ⟨x1, x2, x3, x4, x5, x6, x7, x8⟩ := hX
  have hM0 := hM
  obtain ⟨m1, m2, m3, m4, m5, m6, m7, m8⟩ := hM
  obtain ⟨p1, p2, p3, p4, p5⟩ := hP
  refine ev_aloadn_1 i238_828 ?_
  refine ev_aloadn_0 i238_829 ?_
  refine ev_iloadn_3 i238_830 ?_
  refine ew_iconst i238_831 ?_
  refine ew_iadd i238_832 ?_
  refine ew_iaload i238_833 rfl (by omega) (by omega) (by omega) (by first | exact rd_any _ | exact hX.men | exact hX.told | exact hX.road | exact hX.tone _ (by omega) (by omega) | exact hX.corn _ (by omega) (by omega) | exact hX.stand _ (by omega) (by omega) | exact hX.reach _ (by omega) (by omega) | exact hX.arm _ (by omega) (by omega) | exact hX.late _ (by omega) (by omega) | exact hX.len _ (by omega) (by omega) | exact hX.say (by omega) (by omega) _ (by omega) (by omega)) (fun b833 => ?_)
  refine ev_virt1 i238_834 g238_834 rfl (by decide +kernel) (Nat.le_of_ble_eq_true rfl) (x_first x1 (zI_r _) ?_)
  refine ev_aloadn_2 i238_837 ?_
  refine ev_aloadn_0 i238_838 ?_
  refine ev_iloadn_3 i238_839 ?_
  refine ew_iconst i238_840 ?_
  refine ew_iadd i238_841 ?_
  refine ew_iaload i238_842 rfl (by omega) (by omega) (by omega) (by first | exact rd_any _ | exact hX.men | exact hX.told | exact hX.road | exact hX.tone _ (by omega) (by omega) | exact hX.corn _ (by omega) (by omega) | exact hX.stand _ (by omega) (by omega) | exact hX.reach _ (by omega) (by omega) | exact hX.arm _ (by omega) (by omega) | exact hX.late _ (by omega) (by omega) | exact hX.len _ (by omega) (by omega) | exact hX.say (by omega) (by omega) _ (by omega) (by omega)) (fun b842 => ?_)
  refine ev_virt1 i238_843 g238_843 rfl (by decide +kernel) (Nat.le_of_ble_eq_true rfl) (m_first m1 (zI_r _) ?_)
  refine ev_icmpeq i238_846 (fun _ => ?_) (fun q => absurd rfl q)
  refine ew_iinc_3 i238_1472 rfl ?_
  refine ev_goto i238_1475 ?_
  exact hK _ _ _ _ _ _ _ _ _ _ _ (XR.up ⟨x1, x2, x3, x4, x5, x6, x7, x8⟩) hM0.up ⟨p1, p2, p3, p4, p5⟩
theorem D_silent (hX : XR I L sw B f s c t b w e im) (hM : MR I L B f s c t b w e im) (hP : PR f s c b w) (hB : 0 ≤ B ∧ B ≤ 512) (hn : n ≤ 3072) (hi : 0 ≤ i ∧ i + 6 ≤ n) (hK : ∀ (J : Nat → Nat → Int32) (M : Nat → Nat → Int64) (sw : Bool) (f : ts_Fl) (s : ts_Sh) (c : ts_Ch) (t : ts_Ta) (b : ts_Bo) (w : ts_Lw) (e : ts_De) (im : ts_Im), XR J M sw (B + 1) f s c t b w e im → MR J M (B + 1) f s c t b w e im → PR f s c b w → ts_Ev (n, xf) (tsC n xf d) 238 [] K 18 [.ref 1000, .ref 1, .ref 72, .int (zI (i + 6))] [] (J, M, ts_P0 sw, ts_S0)) : ts_Ev (n, xf) (tsC n xf d) 238 [] K 851 [.ref 1000, .ref 1, .ref 72, .int (zI (i))] [] (I, L, ts_P0 sw, ts_S0) := by
  obtain ⟨x1, x2, x3, x4, x5, x6, x7, x8⟩ := hX
  have hM0 := hM
  obtain ⟨m1, m2, m3, m4, m5, m6, m7, m8⟩ := hM
  obtain ⟨p1, p2, p3, p4, p5⟩ := hP
  refine ev_aloadn_1 i238_851 ?_
  refine ev_virt0 i238_852 g238_852 rfl (by decide +kernel) (Nat.le_of_ble_eq_true rfl) (x_silent x1 ?_)
  refine ev_aloadn_2 i238_855 ?_
  refine ev_virt0 i238_856 g238_856 rfl (by decide +kernel) (Nat.le_of_ble_eq_true rfl) (m_silent m1 ?_)
  refine ev_icmpeq i238_859 (fun _ => ?_) (fun q => absurd rfl q)
  refine ew_iinc_3 i238_1472 rfl ?_
  refine ev_goto i238_1475 ?_
  exact hK _ _ _ _ _ _ _ _ _ _ _ (XR.up ⟨x1, x2, x3, x4, x5, x6, x7, x8⟩) hM0.up ⟨p1, p2, p3, p4, p5⟩
theorem D_byTurns (hX : XR I L sw B f s c t b w e im) (hM : MR I L B f s c t b w e im) (hP : PR f s c b w) (hB : 0 ≤ B ∧ B ≤ 512) (hn : n ≤ 3072) (hi : 0 ≤ i ∧ i + 6 ≤ n) (hK : ∀ (J : Nat → Nat → Int32) (M : Nat → Nat → Int64) (sw : Bool) (f : ts_Fl) (s : ts_Sh) (c : ts_Ch) (t : ts_Ta) (b : ts_Bo) (w : ts_Lw) (e : ts_De) (im : ts_Im), XR J M sw (B + 1) f s c t b w e im → MR J M (B + 1) f s c t b w e im → PR f s c b w → ts_Ev (n, xf) (tsC n xf d) 238 [] K 18 [.ref 1000, .ref 1, .ref 72, .int (zI (i + 6))] [] (J, M, ts_P0 sw, ts_S0)) : ts_Ev (n, xf) (tsC n xf d) 238 [] K 864 [.ref 1000, .ref 1, .ref 72, .int (zI (i))] [] (I, L, ts_P0 sw, ts_S0) := by
  obtain ⟨x1, x2, x3, x4, x5, x6, x7, x8⟩ := hX
  have hM0 := hM
  obtain ⟨m1, m2, m3, m4, m5, m6, m7, m8⟩ := hM
  obtain ⟨p1, p2, p3, p4, p5⟩ := hP
  refine ev_aloadn_1 i238_864 ?_
  refine ev_aloadn_0 i238_865 ?_
  refine ev_iloadn_3 i238_866 ?_
  refine ew_iconst i238_867 ?_
  refine ew_iadd i238_868 ?_
  refine ew_iaload i238_869 rfl (by omega) (by omega) (by omega) (by first | exact rd_any _ | exact hX.men | exact hX.told | exact hX.road | exact hX.tone _ (by omega) (by omega) | exact hX.corn _ (by omega) (by omega) | exact hX.stand _ (by omega) (by omega) | exact hX.reach _ (by omega) (by omega) | exact hX.arm _ (by omega) (by omega) | exact hX.late _ (by omega) (by omega) | exact hX.len _ (by omega) (by omega) | exact hX.say (by omega) (by omega) _ (by omega) (by omega)) (fun b869 => ?_)
  refine ev_aloadn_0 i238_870 ?_
  refine ev_iloadn_3 i238_871 ?_
  refine ew_iconst i238_872 ?_
  refine ew_iadd i238_873 ?_
  refine ew_iaload i238_874 rfl (by omega) (by omega) (by omega) (by first | exact rd_any _ | exact hX.men | exact hX.told | exact hX.road | exact hX.tone _ (by omega) (by omega) | exact hX.corn _ (by omega) (by omega) | exact hX.stand _ (by omega) (by omega) | exact hX.reach _ (by omega) (by omega) | exact hX.arm _ (by omega) (by omega) | exact hX.late _ (by omega) (by omega) | exact hX.len _ (by omega) (by omega) | exact hX.say (by omega) (by omega) _ (by omega) (by omega)) (fun b874 => ?_)
  refine ev_aloadn_0 i238_875 ?_
  refine ev_iloadn_3 i238_876 ?_
  refine ew_iconst i238_877 ?_
  refine ew_iadd i238_878 ?_
  refine ew_iaload i238_879 rfl (by omega) (by omega) (by omega) (by first | exact rd_any _ | exact hX.men | exact hX.told | exact hX.road | exact hX.tone _ (by omega) (by omega) | exact hX.corn _ (by omega) (by omega) | exact hX.stand _ (by omega) (by omega) | exact hX.reach _ (by omega) (by omega) | exact hX.arm _ (by omega) (by omega) | exact hX.late _ (by omega) (by omega) | exact hX.len _ (by omega) (by omega) | exact hX.say (by omega) (by omega) _ (by omega) (by omega)) (fun b879 => ?_)
  refine ev_virt3 i238_880 g238_880 rfl (by decide +kernel) (Nat.le_of_ble_eq_true rfl) (x_byTurns x1 (zI_r _) (zI_r _) (zI_r _) (fun J h1 => ?_))
  obtain ⟨n1, n2, n3, n4, n5, n6, n7, n8⟩ := hM0.co (fun a a0 => fr_row h1 (fun k => by omega)) (fun _ _ => rfl)
  refine ev_aloadn_2 i238_883 ?_
  refine ev_aloadn_0 i238_884 ?_
  refine ev_iloadn_3 i238_885 ?_
  refine ew_iconst i238_886 ?_
  refine ew_iadd i238_887 ?_
  refine ew_iaload i238_888 rfl (by omega) (by omega) (by omega) (by first | exact rd_any _ | exact hX.men | exact hX.told | exact hX.road | exact hX.tone _ (by omega) (by omega) | exact hX.corn _ (by omega) (by omega) | exact hX.stand _ (by omega) (by omega) | exact hX.reach _ (by omega) (by omega) | exact hX.arm _ (by omega) (by omega) | exact hX.late _ (by omega) (by omega) | exact hX.len _ (by omega) (by omega) | exact hX.say (by omega) (by omega) _ (by omega) (by omega)) (fun b888 => ?_)
  refine ev_aloadn_0 i238_889 ?_
  refine ev_iloadn_3 i238_890 ?_
  refine ew_iconst i238_891 ?_
  refine ew_iadd i238_892 ?_
  refine ew_iaload i238_893 rfl (by omega) (by omega) (by omega) (by first | exact rd_any _ | exact hX.men | exact hX.told | exact hX.road | exact hX.tone _ (by omega) (by omega) | exact hX.corn _ (by omega) (by omega) | exact hX.stand _ (by omega) (by omega) | exact hX.reach _ (by omega) (by omega) | exact hX.arm _ (by omega) (by omega) | exact hX.late _ (by omega) (by omega) | exact hX.len _ (by omega) (by omega) | exact hX.say (by omega) (by omega) _ (by omega) (by omega)) (fun b893 => ?_)
  refine ev_aloadn_0 i238_894 ?_
  refine ev_iloadn_3 i238_895 ?_
  refine ew_iconst i238_896 ?_
  refine ew_iadd i238_897 ?_
  refine ew_iaload i238_898 rfl (by omega) (by omega) (by omega) (by first | exact rd_any _ | exact hX.men | exact hX.told | exact hX.road | exact hX.tone _ (by omega) (by omega) | exact hX.corn _ (by omega) (by omega) | exact hX.stand _ (by omega) (by omega) | exact hX.reach _ (by omega) (by omega) | exact hX.arm _ (by omega) (by omega) | exact hX.late _ (by omega) (by omega) | exact hX.len _ (by omega) (by omega) | exact hX.say (by omega) (by omega) _ (by omega) (by omega)) (fun b898 => ?_)
  refine ev_virt3 i238_899 g238_899 rfl (by decide +kernel) (Nat.le_of_ble_eq_true rfl) (m_byTurns n1 (zI_r _) (zI_r _) (zI_r _) (fun N h2 => ?_))
  refine ev_icmpeq i238_902 (fun _ => ?_) (fun q => absurd rfl q)
  have hX2 : XR J L sw B f s c t b w e im := ⟨x1.co (fun a a0 a1 => fr_row h1 (fun k => by omega)), x2.co (fun a a0 a1 => ⟨fr_row h1 (fun k => by omega), rfl⟩), x3.co (fun a k a0 a1 => h1 a k (by omega)), x4.co (h1 24 1 (by omega)) (fr_row h1 (fun k => by omega)), x5.co (h1 56 2 (by omega)) (h1 56 3 (by omega)) (fr_row h1 (fun k => by omega)) (fr_row h1 (fun k => by omega)), x6.co (h1 2 12 (by omega)) (fun a p => fr_row h1 (fun k => by omega)), x7.co (fun a a0 a1 => fr_row h1 (fun k => by omega)), x8.co (h1 1 9 (by omega)) (fun a a0 a1 => fr_row h1 (fun k => by omega))⟩
  have hM2 : MR N L B f s c t b w e im := ⟨n1.co72 (fr_row h2 (fun k => by omega)) (fr_row h2 (fun k => by omega)) (h2 72 6 (by omega)) (h2 72 7 (by omega)), n2.co (fun a a0 a1 => ⟨fr_row h2 (fun k => by omega), rfl⟩), n3.co (fun a a0 a1 => fr_row h2 (fun k => by omega)) (h2 72 4 (by omega)) (h2 72 5 (by omega)), n4.co (h2 72 10 (by omega)) (fr_row h2 (fun k => by omega)), n5.co (h2 72 32 (by omega)) (h2 72 35 (by omega)) (fr_row h2 (fun k => by omega)) (fr_row h2 (fun k => by omega)), n6.co (h2 72 12 (by omega)) (fr_row h2 (fun k => by omega)), n7.co (fun a a0 a1 => fr_row h2 (fun k => by omega)), n8.co (h2 72 28 (by omega)) (fun a a0 a1 => fr_row h2 (fun k => by omega))⟩
  have hP2 : PR f s c b w := ⟨p1, p2, p3, p4, p5⟩
  have hX3 : XR N L sw B f s c t b w e im := hX2.co (fun a a0 => fr_row h2 (fun k => by omega)) (fun _ _ => rfl)
  refine ew_iinc_3 i238_1472 rfl ?_
  refine ev_goto i238_1475 ?_
  exact hK _ _ _ _ _ _ _ _ _ _ _ hX3.up hM2.up hP2
theorem D_drawn (hX : XR I L sw B f s c t b w e im) (hM : MR I L B f s c t b w e im) (hP : PR f s c b w) (hB : 0 ≤ B ∧ B ≤ 512) (hn : n ≤ 3072) (hi : 0 ≤ i ∧ i + 6 ≤ n) (hK : ∀ (J : Nat → Nat → Int32) (M : Nat → Nat → Int64) (sw : Bool) (f : ts_Fl) (s : ts_Sh) (c : ts_Ch) (t : ts_Ta) (b : ts_Bo) (w : ts_Lw) (e : ts_De) (im : ts_Im), XR J M sw (B + 1) f s c t b w e im → MR J M (B + 1) f s c t b w e im → PR f s c b w → ts_Ev (n, xf) (tsC n xf d) 238 [] K 18 [.ref 1000, .ref 1, .ref 72, .int (zI (i + 6))] [] (J, M, ts_P0 sw, ts_S0)) : ts_Ev (n, xf) (tsC n xf d) 238 [] K 907 [.ref 1000, .ref 1, .ref 72, .int (zI (i))] [] (I, L, ts_P0 sw, ts_S0) := by
  obtain ⟨x1, x2, x3, x4, x5, x6, x7, x8⟩ := hX
  have hM0 := hM
  obtain ⟨m1, m2, m3, m4, m5, m6, m7, m8⟩ := hM
  obtain ⟨p1, p2, p3, p4, p5⟩ := hP
  refine ev_aloadn_1 i238_907 ?_
  refine ev_aloadn_0 i238_908 ?_
  refine ev_iloadn_3 i238_909 ?_
  refine ew_iconst i238_910 ?_
  refine ew_iadd i238_911 ?_
  refine ew_iaload i238_912 rfl (by omega) (by omega) (by omega) (by first | exact rd_any _ | exact hX.men | exact hX.told | exact hX.road | exact hX.tone _ (by omega) (by omega) | exact hX.corn _ (by omega) (by omega) | exact hX.stand _ (by omega) (by omega) | exact hX.reach _ (by omega) (by omega) | exact hX.arm _ (by omega) (by omega) | exact hX.late _ (by omega) (by omega) | exact hX.len _ (by omega) (by omega) | exact hX.say (by omega) (by omega) _ (by omega) (by omega)) (fun b912 => ?_)
  refine ev_aloadn_0 i238_913 ?_
  refine ev_iloadn_3 i238_914 ?_
  refine ew_iconst i238_915 ?_
  refine ew_iadd i238_916 ?_
  refine ew_iaload i238_917 rfl (by omega) (by omega) (by omega) (by first | exact rd_any _ | exact hX.men | exact hX.told | exact hX.road | exact hX.tone _ (by omega) (by omega) | exact hX.corn _ (by omega) (by omega) | exact hX.stand _ (by omega) (by omega) | exact hX.reach _ (by omega) (by omega) | exact hX.arm _ (by omega) (by omega) | exact hX.late _ (by omega) (by omega) | exact hX.len _ (by omega) (by omega) | exact hX.say (by omega) (by omega) _ (by omega) (by omega)) (fun b917 => ?_)
  refine ev_aloadn_0 i238_918 ?_
  refine ev_iloadn_3 i238_919 ?_
  refine ew_iconst i238_920 ?_
  refine ew_iadd i238_921 ?_
  refine ew_iaload i238_922 rfl (by omega) (by omega) (by omega) (by first | exact rd_any _ | exact hX.men | exact hX.told | exact hX.road | exact hX.tone _ (by omega) (by omega) | exact hX.corn _ (by omega) (by omega) | exact hX.stand _ (by omega) (by omega) | exact hX.reach _ (by omega) (by omega) | exact hX.arm _ (by omega) (by omega) | exact hX.late _ (by omega) (by omega) | exact hX.len _ (by omega) (by omega) | exact hX.say (by omega) (by omega) _ (by omega) (by omega)) (fun b922 => ?_)
  refine ev_aloadn_0 i238_923 ?_
  refine ev_iloadn_3 i238_924 ?_
  refine ew_iconst i238_925 ?_
  refine ew_iadd i238_926 ?_
  refine ew_iaload i238_927 rfl (by omega) (by omega) (by omega) (by first | exact rd_any _ | exact hX.men | exact hX.told | exact hX.road | exact hX.tone _ (by omega) (by omega) | exact hX.corn _ (by omega) (by omega) | exact hX.stand _ (by omega) (by omega) | exact hX.reach _ (by omega) (by omega) | exact hX.arm _ (by omega) (by omega) | exact hX.late _ (by omega) (by omega) | exact hX.len _ (by omega) (by omega) | exact hX.say (by omega) (by omega) _ (by omega) (by omega)) (fun b927 => ?_)
  refine ev_virt4 i238_928 g238_928 rfl (by decide +kernel) (Nat.le_of_ble_eq_true rfl) (x_drawn x1 (zI_r _) (zI_r _) (zI_r _) (fun J h1 => ?_))
  obtain ⟨n1, n2, n3, n4, n5, n6, n7, n8⟩ := hM0.co (fun a a0 => fr_row h1 (fun k => by omega)) (fun _ _ => rfl)
  refine ev_aloadn_2 i238_931 ?_
  refine ev_aloadn_0 i238_932 ?_
  refine ev_iloadn_3 i238_933 ?_
  refine ew_iconst i238_934 ?_
  refine ew_iadd i238_935 ?_
  refine ew_iaload i238_936 rfl (by omega) (by omega) (by omega) (by first | exact rd_any _ | exact hX.men | exact hX.told | exact hX.road | exact hX.tone _ (by omega) (by omega) | exact hX.corn _ (by omega) (by omega) | exact hX.stand _ (by omega) (by omega) | exact hX.reach _ (by omega) (by omega) | exact hX.arm _ (by omega) (by omega) | exact hX.late _ (by omega) (by omega) | exact hX.len _ (by omega) (by omega) | exact hX.say (by omega) (by omega) _ (by omega) (by omega)) (fun b936 => ?_)
  refine ev_aloadn_0 i238_937 ?_
  refine ev_iloadn_3 i238_938 ?_
  refine ew_iconst i238_939 ?_
  refine ew_iadd i238_940 ?_
  refine ew_iaload i238_941 rfl (by omega) (by omega) (by omega) (by first | exact rd_any _ | exact hX.men | exact hX.told | exact hX.road | exact hX.tone _ (by omega) (by omega) | exact hX.corn _ (by omega) (by omega) | exact hX.stand _ (by omega) (by omega) | exact hX.reach _ (by omega) (by omega) | exact hX.arm _ (by omega) (by omega) | exact hX.late _ (by omega) (by omega) | exact hX.len _ (by omega) (by omega) | exact hX.say (by omega) (by omega) _ (by omega) (by omega)) (fun b941 => ?_)
  refine ev_aloadn_0 i238_942 ?_
  refine ev_iloadn_3 i238_943 ?_
  refine ew_iconst i238_944 ?_
  refine ew_iadd i238_945 ?_
  refine ew_iaload i238_946 rfl (by omega) (by omega) (by omega) (by first | exact rd_any _ | exact hX.men | exact hX.told | exact hX.road | exact hX.tone _ (by omega) (by omega) | exact hX.corn _ (by omega) (by omega) | exact hX.stand _ (by omega) (by omega) | exact hX.reach _ (by omega) (by omega) | exact hX.arm _ (by omega) (by omega) | exact hX.late _ (by omega) (by omega) | exact hX.len _ (by omega) (by omega) | exact hX.say (by omega) (by omega) _ (by omega) (by omega)) (fun b946 => ?_)
  refine ev_aloadn_0 i238_947 ?_
  refine ev_iloadn_3 i238_948 ?_
  refine ew_iconst i238_949 ?_
  refine ew_iadd i238_950 ?_
  refine ew_iaload i238_951 rfl (by omega) (by omega) (by omega) (by first | exact rd_any _ | exact hX.men | exact hX.told | exact hX.road | exact hX.tone _ (by omega) (by omega) | exact hX.corn _ (by omega) (by omega) | exact hX.stand _ (by omega) (by omega) | exact hX.reach _ (by omega) (by omega) | exact hX.arm _ (by omega) (by omega) | exact hX.late _ (by omega) (by omega) | exact hX.len _ (by omega) (by omega) | exact hX.say (by omega) (by omega) _ (by omega) (by omega)) (fun b951 => ?_)
  refine ev_virt4 i238_952 g238_952 rfl (by decide +kernel) (Nat.le_of_ble_eq_true rfl) (m_drawn n1 (zI_r _) (zI_r _) (zI_r _) (fun N h2 => ?_))
  refine ev_icmpeq i238_955 (fun _ => ?_) (fun q => absurd rfl q)
  have hX2 : XR J L sw B f s c t b w e im := ⟨x1.co (fun a a0 a1 => fr_row h1 (fun k => by omega)), x2.co (fun a a0 a1 => ⟨fr_row h1 (fun k => by omega), rfl⟩), x3.co (fun a k a0 a1 => h1 a k (by omega)), x4.co (h1 24 1 (by omega)) (fr_row h1 (fun k => by omega)), x5.co (h1 56 2 (by omega)) (h1 56 3 (by omega)) (fr_row h1 (fun k => by omega)) (fr_row h1 (fun k => by omega)), x6.co (h1 2 12 (by omega)) (fun a p => fr_row h1 (fun k => by omega)), x7.co (fun a a0 a1 => fr_row h1 (fun k => by omega)), x8.co (h1 1 9 (by omega)) (fun a a0 a1 => fr_row h1 (fun k => by omega))⟩
  have hM2 : MR N L B f s c t b w e im := ⟨n1.co72 (fr_row h2 (fun k => by omega)) (fr_row h2 (fun k => by omega)) (h2 72 6 (by omega)) (h2 72 7 (by omega)), n2.co (fun a a0 a1 => ⟨fr_row h2 (fun k => by omega), rfl⟩), n3.co (fun a a0 a1 => fr_row h2 (fun k => by omega)) (h2 72 4 (by omega)) (h2 72 5 (by omega)), n4.co (h2 72 10 (by omega)) (fr_row h2 (fun k => by omega)), n5.co (h2 72 32 (by omega)) (h2 72 35 (by omega)) (fr_row h2 (fun k => by omega)) (fr_row h2 (fun k => by omega)), n6.co (h2 72 12 (by omega)) (fr_row h2 (fun k => by omega)), n7.co (fun a a0 a1 => fr_row h2 (fun k => by omega)), n8.co (h2 72 28 (by omega)) (fun a a0 a1 => fr_row h2 (fun k => by omega))⟩
  have hP2 : PR f s c b w := ⟨p1, p2, p3, p4, p5⟩
  have hX3 : XR N L sw B f s c t b w e im := hX2.co (fun a a0 => fr_row h2 (fun k => by omega)) (fun _ _ => rfl)
  refine ew_iinc_3 i238_1472 rfl ?_
  refine ev_goto i238_1475 ?_
  exact hK _ _ _ _ _ _ _ _ _ _ _ hX3.up hM2.up hP2
theorem D_strike (hX : XR I L sw B f s c t b w e im) (hM : MR I L B f s c t b w e im) (hP : PR f s c b w) (hB : 0 ≤ B ∧ B ≤ 512) (hn : n ≤ 3072) (hi : 0 ≤ i ∧ i + 6 ≤ n) (hK : ∀ (J : Nat → Nat → Int32) (M : Nat → Nat → Int64) (sw : Bool) (f : ts_Fl) (s : ts_Sh) (c : ts_Ch) (t : ts_Ta) (b : ts_Bo) (w : ts_Lw) (e : ts_De) (im : ts_Im), XR J M sw (B + 1) f s c t b w e im → MR J M (B + 1) f s c t b w e im → PR f s c b w → ts_Ev (n, xf) (tsC n xf d) 238 [] K 18 [.ref 1000, .ref 1, .ref 72, .int (zI (i + 6))] [] (J, M, ts_P0 sw, ts_S0)) : ts_Ev (n, xf) (tsC n xf d) 238 [] K 960 [.ref 1000, .ref 1, .ref 72, .int (zI (i))] [] (I, L, ts_P0 sw, ts_S0) := by
  obtain ⟨x1, x2, x3, x4, x5, x6, x7, x8⟩ := hX
  have hM0 := hM
  obtain ⟨m1, m2, m3, m4, m5, m6, m7, m8⟩ := hM
  obtain ⟨p1, p2, p3, p4, p5⟩ := hP
  refine ev_aloadn_1 i238_960 ?_
  refine ev_aloadn_0 i238_961 ?_
  refine ev_iloadn_3 i238_962 ?_
  refine ew_iconst i238_963 ?_
  refine ew_iadd i238_964 ?_
  refine ew_iaload i238_965 rfl (by omega) (by omega) (by omega) (by first | exact rd_any _ | exact hX.men | exact hX.told | exact hX.road | exact hX.tone _ (by omega) (by omega) | exact hX.corn _ (by omega) (by omega) | exact hX.stand _ (by omega) (by omega) | exact hX.reach _ (by omega) (by omega) | exact hX.arm _ (by omega) (by omega) | exact hX.late _ (by omega) (by omega) | exact hX.len _ (by omega) (by omega) | exact hX.say (by omega) (by omega) _ (by omega) (by omega)) (fun b965 => ?_)
  refine ev_virt1 i238_966 g238_966 rfl (by decide +kernel) (Nat.le_of_ble_eq_true rfl) (x_strike x1 x6 p5 x7 (by omega) (zI_r _) (fun J h1 g1 g3 => ?_))
  obtain ⟨n1, n2, n3, n4, n5, n6, n7, n8⟩ := hM0.co (fun a a0 => fr_row h1 (fun k => by omega)) (fun _ _ => rfl)
  refine ev_aloadn_2 i238_969 ?_
  refine ev_aloadn_0 i238_970 ?_
  refine ev_iloadn_3 i238_971 ?_
  refine ew_iconst i238_972 ?_
  refine ew_iadd i238_973 ?_
  refine ew_iaload i238_974 rfl (by omega) (by omega) (by omega) (by first | exact rd_any _ | exact hX.men | exact hX.told | exact hX.road | exact hX.tone _ (by omega) (by omega) | exact hX.corn _ (by omega) (by omega) | exact hX.stand _ (by omega) (by omega) | exact hX.reach _ (by omega) (by omega) | exact hX.arm _ (by omega) (by omega) | exact hX.late _ (by omega) (by omega) | exact hX.len _ (by omega) (by omega) | exact hX.say (by omega) (by omega) _ (by omega) (by omega)) (fun b974 => ?_)
  refine ev_virt1 i238_975 g238_975 rfl (by decide +kernel) (Nat.le_of_ble_eq_true rfl) (m_strike n1 n6 p5 n7 (by omega) (zI_r _) (fun N h2 g2 g4 => ?_))
  refine ev_icmpeq i238_978 (fun _ => ?_) (fun q => absurd rfl q)
  have hX2 : XR J L sw (B + 1) (g_strF f e (xf (i + 1).toNat).toInt) s c t b w (g_strE f w e (xf (i + 1).toNat).toInt) im := ⟨g1, x2.co (fun a a0 a1 => ⟨fr_row h1 (fun k => by omega), rfl⟩), x3.co (fun a k a0 a1 => h1 a k (by omega)), x4.co (h1 24 1 (by omega)) (fr_row h1 (fun k => by omega)), x5.co (h1 56 2 (by omega)) (h1 56 3 (by omega)) (fr_row h1 (fun k => by omega)) (fr_row h1 (fun k => by omega)), x6.co (h1 2 12 (by omega)) (fun a p => fr_row h1 (fun k => by omega)), g3, (x8.co (h1 1 9 (by omega)) (fun a a0 a1 => fr_row h1 (fun k => by omega))).up⟩
  have hM2 : MR N L (B + 1) (g_strF f e (xf (i + 1).toNat).toInt) s c t b w (g_strE f w e (xf (i + 1).toNat).toInt) im := ⟨g2, n2.co (fun a a0 a1 => ⟨fr_row h2 (fun k => by omega), rfl⟩), n3.co (fun a a0 a1 => fr_row h2 (fun k => by omega)) (h2 72 4 (by omega)) (h2 72 5 (by omega)), n4.co (h2 72 10 (by omega)) (fr_row h2 (fun k => by omega)), n5.co (h2 72 32 (by omega)) (h2 72 35 (by omega)) (fr_row h2 (fun k => by omega)) (fr_row h2 (fun k => by omega)), n6.co (h2 72 12 (by omega)) (fr_row h2 (fun k => by omega)), g4, (n8.co (h2 72 28 (by omega)) (fun a a0 a1 => fr_row h2 (fun k => by omega))).up⟩
  have hP2 : PR (g_strF f e (xf (i + 1).toNat).toInt) s c b w := ⟨p1.strike _ _, p2, p3.strike _ _, p4, p5⟩
  have hX3 : XR N L sw (B + 1) (g_strF f e (xf (i + 1).toNat).toInt) s c t b w (g_strE f w e (xf (i + 1).toNat).toInt) im := hX2.co (fun a a0 => fr_row h2 (fun k => by omega)) (fun _ _ => rfl)
  refine ew_iinc_3 i238_1472 rfl ?_
  refine ev_goto i238_1475 ?_
  exact hK _ _ _ _ _ _ _ _ _ _ _ hX3 hM2 hP2
theorem D_sow (hX : XR I L sw B f s c t b w e im) (hM : MR I L B f s c t b w e im) (hP : PR f s c b w) (hB : 0 ≤ B ∧ B ≤ 512) (hn : n ≤ 3072) (hi : 0 ≤ i ∧ i + 6 ≤ n) (hK : ∀ (J : Nat → Nat → Int32) (M : Nat → Nat → Int64) (sw : Bool) (f : ts_Fl) (s : ts_Sh) (c : ts_Ch) (t : ts_Ta) (b : ts_Bo) (w : ts_Lw) (e : ts_De) (im : ts_Im), XR J M sw (B + 1) f s c t b w e im → MR J M (B + 1) f s c t b w e im → PR f s c b w → ts_Ev (n, xf) (tsC n xf d) 238 [] K 18 [.ref 1000, .ref 1, .ref 72, .int (zI (i + 6))] [] (J, M, ts_P0 sw, ts_S0)) : ts_Ev (n, xf) (tsC n xf d) 238 [] K 983 [.ref 1000, .ref 1, .ref 72, .int (zI (i))] [] (I, L, ts_P0 sw, ts_S0) := by
  obtain ⟨x1, x2, x3, x4, x5, x6, x7, x8⟩ := hX
  have hM0 := hM
  obtain ⟨m1, m2, m3, m4, m5, m6, m7, m8⟩ := hM
  obtain ⟨p1, p2, p3, p4, p5⟩ := hP
  refine ev_aloadn_1 i238_983 ?_
  refine ev_aloadn_0 i238_984 ?_
  refine ev_iloadn_3 i238_985 ?_
  refine ew_iconst i238_986 ?_
  refine ew_iadd i238_987 ?_
  refine ew_iaload i238_988 rfl (by omega) (by omega) (by omega) (by first | exact rd_any _ | exact hX.men | exact hX.told | exact hX.road | exact hX.tone _ (by omega) (by omega) | exact hX.corn _ (by omega) (by omega) | exact hX.stand _ (by omega) (by omega) | exact hX.reach _ (by omega) (by omega) | exact hX.arm _ (by omega) (by omega) | exact hX.late _ (by omega) (by omega) | exact hX.len _ (by omega) (by omega) | exact hX.say (by omega) (by omega) _ (by omega) (by omega)) (fun b988 => ?_)
  refine ev_virt1 i238_989 g238_989 rfl (by decide +kernel) (Nat.le_of_ble_eq_true rfl) (x_sow x1 x7 (by omega) (zI_r _) (fun J h1 g1 g3 => ?_))
  obtain ⟨n1, n2, n3, n4, n5, n6, n7, n8⟩ := hM0.co (fun a a0 => fr_row h1 (fun k => by omega)) (fun _ _ => rfl)
  refine ev_aloadn_2 i238_992 ?_
  refine ev_aloadn_0 i238_993 ?_
  refine ev_iloadn_3 i238_994 ?_
  refine ew_iconst i238_995 ?_
  refine ew_iadd i238_996 ?_
  refine ew_iaload i238_997 rfl (by omega) (by omega) (by omega) (by first | exact rd_any _ | exact hX.men | exact hX.told | exact hX.road | exact hX.tone _ (by omega) (by omega) | exact hX.corn _ (by omega) (by omega) | exact hX.stand _ (by omega) (by omega) | exact hX.reach _ (by omega) (by omega) | exact hX.arm _ (by omega) (by omega) | exact hX.late _ (by omega) (by omega) | exact hX.len _ (by omega) (by omega) | exact hX.say (by omega) (by omega) _ (by omega) (by omega)) (fun b997 => ?_)
  refine ev_virt1 i238_998 g238_998 rfl (by decide +kernel) (Nat.le_of_ble_eq_true rfl) (m_sow n1 n7 (by omega) (zI_r _) (fun N h2 g2 g4 => ?_))
  refine ev_icmpeq i238_1001 (fun _ => ?_) (fun q => absurd rfl q)
  have hX2 : XR J L sw (B + 1) (g_sowF f (xf (i + 1).toNat).toInt) s c t b w (g_sowE e (xf (i + 1).toNat).toInt) im := ⟨g1, x2.co (fun a a0 a1 => ⟨fr_row h1 (fun k => by omega), rfl⟩), x3.co (fun a k a0 a1 => h1 a k (by omega)), x4.co (h1 24 1 (by omega)) (fr_row h1 (fun k => by omega)), x5.co (h1 56 2 (by omega)) (h1 56 3 (by omega)) (fr_row h1 (fun k => by omega)) (fr_row h1 (fun k => by omega)), x6.co (h1 2 12 (by omega)) (fun a p => fr_row h1 (fun k => by omega)), g3, (x8.co (h1 1 9 (by omega)) (fun a a0 a1 => fr_row h1 (fun k => by omega))).up⟩
  have hM2 : MR N L (B + 1) (g_sowF f (xf (i + 1).toNat).toInt) s c t b w (g_sowE e (xf (i + 1).toNat).toInt) im := ⟨g2, n2.co (fun a a0 a1 => ⟨fr_row h2 (fun k => by omega), rfl⟩), n3.co (fun a a0 a1 => fr_row h2 (fun k => by omega)) (h2 72 4 (by omega)) (h2 72 5 (by omega)), n4.co (h2 72 10 (by omega)) (fr_row h2 (fun k => by omega)), n5.co (h2 72 32 (by omega)) (h2 72 35 (by omega)) (fr_row h2 (fun k => by omega)) (fr_row h2 (fun k => by omega)), n6.co (h2 72 12 (by omega)) (fr_row h2 (fun k => by omega)), g4, (n8.co (h2 72 28 (by omega)) (fun a a0 a1 => fr_row h2 (fun k => by omega))).up⟩
  have hP2 : PR (g_sowF f (xf (i + 1).toNat).toInt) s c b w := ⟨p1.sow _, p2, p3.sow _, p4, p5⟩
  have hX3 : XR N L sw (B + 1) (g_sowF f (xf (i + 1).toNat).toInt) s c t b w (g_sowE e (xf (i + 1).toNat).toInt) im := hX2.co (fun a a0 => fr_row h2 (fun k => by omega)) (fun _ _ => rfl)
  refine ew_iinc_3 i238_1472 rfl ?_
  refine ev_goto i238_1475 ?_
  exact hK _ _ _ _ _ _ _ _ _ _ _ hX3 hM2 hP2
theorem D_led (hX : XR I L sw B f s c t b w e im) (hM : MR I L B f s c t b w e im) (hP : PR f s c b w) (hB : 0 ≤ B ∧ B ≤ 512) (hn : n ≤ 3072) (hi : 0 ≤ i ∧ i + 6 ≤ n) (hK : ∀ (J : Nat → Nat → Int32) (M : Nat → Nat → Int64) (sw : Bool) (f : ts_Fl) (s : ts_Sh) (c : ts_Ch) (t : ts_Ta) (b : ts_Bo) (w : ts_Lw) (e : ts_De) (im : ts_Im), XR J M sw (B + 1) f s c t b w e im → MR J M (B + 1) f s c t b w e im → PR f s c b w → ts_Ev (n, xf) (tsC n xf d) 238 [] K 18 [.ref 1000, .ref 1, .ref 72, .int (zI (i + 6))] [] (J, M, ts_P0 sw, ts_S0)) : ts_Ev (n, xf) (tsC n xf d) 238 [] K 1006 [.ref 1000, .ref 1, .ref 72, .int (zI (i))] [] (I, L, ts_P0 sw, ts_S0) := by
  obtain ⟨x1, x2, x3, x4, x5, x6, x7, x8⟩ := hX
  have hM0 := hM
  obtain ⟨m1, m2, m3, m4, m5, m6, m7, m8⟩ := hM
  obtain ⟨p1, p2, p3, p4, p5⟩ := hP
  refine ev_aloadn_1 i238_1006 ?_
  refine ev_aloadn_0 i238_1007 ?_
  refine ev_iloadn_3 i238_1008 ?_
  refine ew_iconst i238_1009 ?_
  refine ew_iadd i238_1010 ?_
  refine ew_iaload i238_1011 rfl (by omega) (by omega) (by omega) (by first | exact rd_any _ | exact hX.men | exact hX.told | exact hX.road | exact hX.tone _ (by omega) (by omega) | exact hX.corn _ (by omega) (by omega) | exact hX.stand _ (by omega) (by omega) | exact hX.reach _ (by omega) (by omega) | exact hX.arm _ (by omega) (by omega) | exact hX.late _ (by omega) (by omega) | exact hX.len _ (by omega) (by omega) | exact hX.say (by omega) (by omega) _ (by omega) (by omega)) (fun b1011 => ?_)
  refine ev_virt1 i238_1012 g238_1012 rfl (by decide +kernel) (Nat.le_of_ble_eq_true rfl) (x_led x7 (by omega) (zI_r _) ?_)
  refine ev_aloadn_2 i238_1015 ?_
  refine ev_aloadn_0 i238_1016 ?_
  refine ev_iloadn_3 i238_1017 ?_
  refine ew_iconst i238_1018 ?_
  refine ew_iadd i238_1019 ?_
  refine ew_iaload i238_1020 rfl (by omega) (by omega) (by omega) (by first | exact rd_any _ | exact hX.men | exact hX.told | exact hX.road | exact hX.tone _ (by omega) (by omega) | exact hX.corn _ (by omega) (by omega) | exact hX.stand _ (by omega) (by omega) | exact hX.reach _ (by omega) (by omega) | exact hX.arm _ (by omega) (by omega) | exact hX.late _ (by omega) (by omega) | exact hX.len _ (by omega) (by omega) | exact hX.say (by omega) (by omega) _ (by omega) (by omega)) (fun b1020 => ?_)
  refine ev_virt1 i238_1021 g238_1021 rfl (by decide +kernel) (Nat.le_of_ble_eq_true rfl) (m_led m7 (by omega) (zI_r _) ?_)
  refine ev_icmpeq i238_1024 (fun _ => ?_) (fun q => absurd rfl q)
  refine ew_iinc_3 i238_1472 rfl ?_
  refine ev_goto i238_1475 ?_
  exact hK _ _ _ _ _ _ _ _ _ _ _ (XR.up ⟨x1, x2, x3, x4, x5, x6, x7, x8⟩) hM0.up ⟨p1, p2, p3, p4, p5⟩
theorem D_image (hX : XR I L sw B f s c t b w e im) (hM : MR I L B f s c t b w e im) (hP : PR f s c b w) (hB : 0 ≤ B ∧ B ≤ 512) (hn : n ≤ 3072) (hi : 0 ≤ i ∧ i + 6 ≤ n) (hK : ∀ (J : Nat → Nat → Int32) (M : Nat → Nat → Int64) (sw : Bool) (f : ts_Fl) (s : ts_Sh) (c : ts_Ch) (t : ts_Ta) (b : ts_Bo) (w : ts_Lw) (e : ts_De) (im : ts_Im), XR J M sw (B + 1) f s c t b w e im → MR J M (B + 1) f s c t b w e im → PR f s c b w → ts_Ev (n, xf) (tsC n xf d) 238 [] K 18 [.ref 1000, .ref 1, .ref 72, .int (zI (i + 6))] [] (J, M, ts_P0 sw, ts_S0)) : ts_Ev (n, xf) (tsC n xf d) 238 [] K 1029 [.ref 1000, .ref 1, .ref 72, .int (zI (i))] [] (I, L, ts_P0 sw, ts_S0) := by
  obtain ⟨x1, x2, x3, x4, x5, x6, x7, x8⟩ := hX
  have hM0 := hM
  obtain ⟨m1, m2, m3, m4, m5, m6, m7, m8⟩ := hM
  obtain ⟨p1, p2, p3, p4, p5⟩ := hP
  refine ev_aloadn_1 i238_1029 ?_
  refine ev_virt0 i238_1030 g238_1030 rfl (by decide +kernel) (Nat.le_of_ble_eq_true rfl) (x_image x1 x7 (fun J h1 g1 => ?_))
  obtain ⟨n1, n2, n3, n4, n5, n6, n7, n8⟩ := hM0.co (fun a a0 => fr_row h1 (fun k => by omega)) (fun _ _ => rfl)
  refine ev_aloadn_2 i238_1033 ?_
  refine ev_virt0 i238_1034 g238_1034 rfl (by decide +kernel) (Nat.le_of_ble_eq_true rfl) (m_image n1 n7 (fun N h2 g2 => ?_))
  refine ev_icmpeq i238_1037 (fun _ => ?_) (fun q => absurd rfl q)
  have hX2 : XR J L sw B f s c t b w e (1, f_corn f, e) := ⟨x1.co (fun a a0 a1 => fr_row h1 (fun k => by omega)), x2.co (fun a a0 a1 => ⟨fr_row h1 (fun k => by omega), rfl⟩), x3.co (fun a k a0 a1 => h1 a k (by omega)), x4.co (h1 24 1 (by omega)) (fr_row h1 (fun k => by omega)), x5.co (h1 56 2 (by omega)) (h1 56 3 (by omega)) (fr_row h1 (fun k => by omega)) (fr_row h1 (fun k => by omega)), x6.co (h1 2 12 (by omega)) (fun a p => fr_row h1 (fun k => by omega)), x7.co (fun a a0 a1 => fr_row h1 (fun k => by omega)), g1⟩
  have hM2 : MR N L B f s c t b w e (1, f_corn f, e) := ⟨n1.co72 (fr_row h2 (fun k => by omega)) (fr_row h2 (fun k => by omega)) (h2 72 6 (by omega)) (h2 72 7 (by omega)), n2.co (fun a a0 a1 => ⟨fr_row h2 (fun k => by omega), rfl⟩), n3.co (fun a a0 a1 => fr_row h2 (fun k => by omega)) (h2 72 4 (by omega)) (h2 72 5 (by omega)), n4.co (h2 72 10 (by omega)) (fr_row h2 (fun k => by omega)), n5.co (h2 72 32 (by omega)) (h2 72 35 (by omega)) (fr_row h2 (fun k => by omega)) (fr_row h2 (fun k => by omega)), n6.co (h2 72 12 (by omega)) (fr_row h2 (fun k => by omega)), n7.co (fun a a0 a1 => fr_row h2 (fun k => by omega)), g2⟩
  have hP2 : PR f s c b w := ⟨p1, p2, p3, p4, p5⟩
  have hX3 : XR N L sw B f s c t b w e (1, f_corn f, e) := hX2.co (fun a a0 => fr_row h2 (fun k => by omega)) (fun _ _ => rfl)
  refine ew_iinc_3 i238_1472 rfl ?_
  refine ev_goto i238_1475 ?_
  exact hK _ _ _ _ _ _ _ _ _ _ _ hX3.up hM2.up hP2
theorem D_back (hX : XR I L sw B f s c t b w e im) (hM : MR I L B f s c t b w e im) (hP : PR f s c b w) (hB : 0 ≤ B ∧ B ≤ 512) (hn : n ≤ 3072) (hi : 0 ≤ i ∧ i + 6 ≤ n) (hK : ∀ (J : Nat → Nat → Int32) (M : Nat → Nat → Int64) (sw : Bool) (f : ts_Fl) (s : ts_Sh) (c : ts_Ch) (t : ts_Ta) (b : ts_Bo) (w : ts_Lw) (e : ts_De) (im : ts_Im), XR J M sw (B + 1) f s c t b w e im → MR J M (B + 1) f s c t b w e im → PR f s c b w → ts_Ev (n, xf) (tsC n xf d) 238 [] K 18 [.ref 1000, .ref 1, .ref 72, .int (zI (i + 6))] [] (J, M, ts_P0 sw, ts_S0)) : ts_Ev (n, xf) (tsC n xf d) 238 [] K 1042 [.ref 1000, .ref 1, .ref 72, .int (zI (i))] [] (I, L, ts_P0 sw, ts_S0) := by
  obtain ⟨x1, x2, x3, x4, x5, x6, x7, x8⟩ := hX
  have hM0 := hM
  obtain ⟨m1, m2, m3, m4, m5, m6, m7, m8⟩ := hM
  obtain ⟨p1, p2, p3, p4, p5⟩ := hP
  refine ev_aloadn_1 i238_1042 ?_
  refine ev_virt0 i238_1043 g238_1043 rfl (by decide +kernel) (Nat.le_of_ble_eq_true rfl) (x_back x1 x7 x8 (fun J h1 g1 g3 => ?_))
  obtain ⟨n1, n2, n3, n4, n5, n6, n7, n8⟩ := hM0.co (fun a a0 => fr_row h1 (fun k => by omega)) (fun _ _ => rfl)
  refine ev_aloadn_2 i238_1046 ?_
  refine ev_virt0 i238_1047 g238_1047 rfl (by decide +kernel) (Nat.le_of_ble_eq_true rfl) (m_back n1 n7 n8 (fun N h2 g2 g4 => ?_))
  refine ev_icmpeq i238_1050 (fun _ => ?_) (fun q => absurd rfl q)
  have hX2 : XR J L sw B (g_backF f im) s c t b w (g_backE e im) im := ⟨g1, x2.co (fun a a0 a1 => ⟨fr_row h1 (fun k => by omega), rfl⟩), x3.co (fun a k a0 a1 => h1 a k (by omega)), x4.co (h1 24 1 (by omega)) (fr_row h1 (fun k => by omega)), x5.co (h1 56 2 (by omega)) (h1 56 3 (by omega)) (fr_row h1 (fun k => by omega)) (fr_row h1 (fun k => by omega)), x6.co (h1 2 12 (by omega)) (fun a p => fr_row h1 (fun k => by omega)), g3, x8.co (h1 1 9 (by omega)) (fun a a0 a1 => fr_row h1 (fun k => by omega))⟩
  have hM2 : MR N L B (g_backF f im) s c t b w (g_backE e im) im := ⟨g2, n2.co (fun a a0 a1 => ⟨fr_row h2 (fun k => by omega), rfl⟩), n3.co (fun a a0 a1 => fr_row h2 (fun k => by omega)) (h2 72 4 (by omega)) (h2 72 5 (by omega)), n4.co (h2 72 10 (by omega)) (fr_row h2 (fun k => by omega)), n5.co (h2 72 32 (by omega)) (h2 72 35 (by omega)) (fr_row h2 (fun k => by omega)) (fr_row h2 (fun k => by omega)), n6.co (h2 72 12 (by omega)) (fr_row h2 (fun k => by omega)), g4, n8.co (h2 72 28 (by omega)) (fun a a0 a1 => fr_row h2 (fun k => by omega))⟩
  have hP2 : PR (g_backF f im) s c b w := ⟨p1.back _, p2, p3.back _, p4, p5⟩
  have hX3 : XR N L sw B (g_backF f im) s c t b w (g_backE e im) im := hX2.co (fun a a0 => fr_row h2 (fun k => by omega)) (fun _ _ => rfl)
  refine ew_iinc_3 i238_1472 rfl ?_
  refine ev_goto i238_1475 ?_
  exact hK _ _ _ _ _ _ _ _ _ _ _ hX3.up hM2.up hP2
theorem D_undo (hX : XR I L sw B f s c t b w e im) (hM : MR I L B f s c t b w e im) (hP : PR f s c b w) (hB : 0 ≤ B ∧ B ≤ 512) (hn : n ≤ 3072) (hi : 0 ≤ i ∧ i + 6 ≤ n) (hK : ∀ (J : Nat → Nat → Int32) (M : Nat → Nat → Int64) (sw : Bool) (f : ts_Fl) (s : ts_Sh) (c : ts_Ch) (t : ts_Ta) (b : ts_Bo) (w : ts_Lw) (e : ts_De) (im : ts_Im), XR J M sw (B + 1) f s c t b w e im → MR J M (B + 1) f s c t b w e im → PR f s c b w → ts_Ev (n, xf) (tsC n xf d) 238 [] K 18 [.ref 1000, .ref 1, .ref 72, .int (zI (i + 6))] [] (J, M, ts_P0 sw, ts_S0)) : ts_Ev (n, xf) (tsC n xf d) 238 [] K 1055 [.ref 1000, .ref 1, .ref 72, .int (zI (i))] [] (I, L, ts_P0 sw, ts_S0) := by
  obtain ⟨x1, x2, x3, x4, x5, x6, x7, x8⟩ := hX
  have hM0 := hM
  obtain ⟨m1, m2, m3, m4, m5, m6, m7, m8⟩ := hM
  obtain ⟨p1, p2, p3, p4, p5⟩ := hP
  refine ev_aloadn_1 i238_1055 ?_
  refine ev_virt0 i238_1056 g238_1056 rfl (by decide +kernel) (Nat.le_of_ble_eq_true rfl) (x_undo x1 x3 p3 (fun J h1 g1 g3 => ?_))
  obtain ⟨n1, n2, n3, n4, n5, n6, n7, n8⟩ := hM0.co (fun a a0 => fr_row h1 (fun k => by omega)) (fun _ _ => rfl)
  refine ev_aloadn_2 i238_1059 ?_
  refine ev_virt0 i238_1060 g238_1060 rfl (by decide +kernel) (Nat.le_of_ble_eq_true rfl) (m_undo n1 n3 p3 (fun N h2 g2 g4 => ?_))
  refine ev_icmpeq i238_1063 (fun _ => ?_) (fun q => absurd rfl q)
  have hX2 : XR J L sw B (g_undoF f c) s (g_undoC c) t b w e im := ⟨g1, x2.co (fun a a0 a1 => ⟨fr_row h1 (fun k => by omega), rfl⟩), g3, x4.co (h1 24 1 (by omega)) (fr_row h1 (fun k => by omega)), x5.co (h1 56 2 (by omega)) (h1 56 3 (by omega)) (fr_row h1 (fun k => by omega)) (fr_row h1 (fun k => by omega)), x6.co (h1 2 12 (by omega)) (fun a p => fr_row h1 (fun k => by omega)), x7.co (fun a a0 a1 => fr_row h1 (fun k => by omega)), x8.co (h1 1 9 (by omega)) (fun a a0 a1 => fr_row h1 (fun k => by omega))⟩
  have hM2 : MR N L B (g_undoF f c) s (g_undoC c) t b w e im := ⟨g2, n2.co (fun a a0 a1 => ⟨fr_row h2 (fun k => by omega), rfl⟩), g4, n4.co (h2 72 10 (by omega)) (fr_row h2 (fun k => by omega)), n5.co (h2 72 32 (by omega)) (h2 72 35 (by omega)) (fr_row h2 (fun k => by omega)) (fr_row h2 (fun k => by omega)), n6.co (h2 72 12 (by omega)) (fr_row h2 (fun k => by omega)), n7.co (fun a a0 a1 => fr_row h2 (fun k => by omega)), n8.co (h2 72 28 (by omega)) (fun a a0 a1 => fr_row h2 (fun k => by omega))⟩
  have hP2 : PR (g_undoF f c) s (g_undoC c) b w := ⟨p1.undo p3 x3.1.2.1, p2, p3.undo x3.1.2.1, p4, p5⟩
  have hX3 : XR N L sw B (g_undoF f c) s (g_undoC c) t b w e im := hX2.co (fun a a0 => fr_row h2 (fun k => by omega)) (fun _ _ => rfl)
  refine ew_iinc_3 i238_1472 rfl ?_
  refine ev_goto i238_1475 ?_
  exact hK _ _ _ _ _ _ _ _ _ _ _ hX3.up hM2.up hP2
theorem D_redo (hX : XR I L sw B f s c t b w e im) (hM : MR I L B f s c t b w e im) (hP : PR f s c b w) (hB : 0 ≤ B ∧ B ≤ 512) (hn : n ≤ 3072) (hi : 0 ≤ i ∧ i + 6 ≤ n) (hK : ∀ (J : Nat → Nat → Int32) (M : Nat → Nat → Int64) (sw : Bool) (f : ts_Fl) (s : ts_Sh) (c : ts_Ch) (t : ts_Ta) (b : ts_Bo) (w : ts_Lw) (e : ts_De) (im : ts_Im), XR J M sw (B + 1) f s c t b w e im → MR J M (B + 1) f s c t b w e im → PR f s c b w → ts_Ev (n, xf) (tsC n xf d) 238 [] K 18 [.ref 1000, .ref 1, .ref 72, .int (zI (i + 6))] [] (J, M, ts_P0 sw, ts_S0)) : ts_Ev (n, xf) (tsC n xf d) 238 [] K 1068 [.ref 1000, .ref 1, .ref 72, .int (zI (i))] [] (I, L, ts_P0 sw, ts_S0) := by
  obtain ⟨x1, x2, x3, x4, x5, x6, x7, x8⟩ := hX
  have hM0 := hM
  obtain ⟨m1, m2, m3, m4, m5, m6, m7, m8⟩ := hM
  obtain ⟨p1, p2, p3, p4, p5⟩ := hP
  refine ev_aloadn_1 i238_1068 ?_
  refine ev_virt0 i238_1069 g238_1069 rfl (by decide +kernel) (Nat.le_of_ble_eq_true rfl) (x_redo x1 x3 p3 (fun J h1 g1 g3 => ?_))
  obtain ⟨n1, n2, n3, n4, n5, n6, n7, n8⟩ := hM0.co (fun a a0 => fr_row h1 (fun k => by omega)) (fun _ _ => rfl)
  refine ev_aloadn_2 i238_1072 ?_
  refine ev_virt0 i238_1073 g238_1073 rfl (by decide +kernel) (Nat.le_of_ble_eq_true rfl) (m_redo n1 n3 p3 (fun N h2 g2 g4 => ?_))
  refine ev_icmpeq i238_1076 (fun _ => ?_) (fun q => absurd rfl q)
  have hX2 : XR J L sw B (g_redoF f c) s (g_redoC c) t b w e im := ⟨g1, x2.co (fun a a0 a1 => ⟨fr_row h1 (fun k => by omega), rfl⟩), g3, x4.co (h1 24 1 (by omega)) (fr_row h1 (fun k => by omega)), x5.co (h1 56 2 (by omega)) (h1 56 3 (by omega)) (fr_row h1 (fun k => by omega)) (fr_row h1 (fun k => by omega)), x6.co (h1 2 12 (by omega)) (fun a p => fr_row h1 (fun k => by omega)), x7.co (fun a a0 a1 => fr_row h1 (fun k => by omega)), x8.co (h1 1 9 (by omega)) (fun a a0 a1 => fr_row h1 (fun k => by omega))⟩
  have hM2 : MR N L B (g_redoF f c) s (g_redoC c) t b w e im := ⟨g2, n2.co (fun a a0 a1 => ⟨fr_row h2 (fun k => by omega), rfl⟩), g4, n4.co (h2 72 10 (by omega)) (fr_row h2 (fun k => by omega)), n5.co (h2 72 32 (by omega)) (h2 72 35 (by omega)) (fr_row h2 (fun k => by omega)) (fr_row h2 (fun k => by omega)), n6.co (h2 72 12 (by omega)) (fr_row h2 (fun k => by omega)), n7.co (fun a a0 a1 => fr_row h2 (fun k => by omega)), n8.co (h2 72 28 (by omega)) (fun a a0 a1 => fr_row h2 (fun k => by omega))⟩
  have hP2 : PR (g_redoF f c) s (g_redoC c) b w := ⟨p1.redo p3 x3.1.2.1, p2, p3.redo x3.1.2.1, p4, p5⟩
  have hX3 : XR N L sw B (g_redoF f c) s (g_redoC c) t b w e im := hX2.co (fun a a0 => fr_row h2 (fun k => by omega)) (fun _ _ => rfl)
  refine ew_iinc_3 i238_1472 rfl ?_
  refine ev_goto i238_1475 ?_
  exact hK _ _ _ _ _ _ _ _ _ _ _ hX3.up hM2.up hP2
theorem D_body (hX : XR I L sw B f s c t b w e im) (hM : MR I L B f s c t b w e im) (hP : PR f s c b w) (hB : 0 ≤ B ∧ B ≤ 512) (hn : n ≤ 3072) (hi : 0 ≤ i ∧ i + 6 ≤ n) (hK : ∀ (J : Nat → Nat → Int32) (M : Nat → Nat → Int64) (sw : Bool) (f : ts_Fl) (s : ts_Sh) (c : ts_Ch) (t : ts_Ta) (b : ts_Bo) (w : ts_Lw) (e : ts_De) (im : ts_Im), XR J M sw (B + 1) f s c t b w e im → MR J M (B + 1) f s c t b w e im → PR f s c b w → ts_Ev (n, xf) (tsC n xf d) 238 [] K 18 [.ref 1000, .ref 1, .ref 72, .int (zI (i + 6))] [] (J, M, ts_P0 sw, ts_S0)) : ts_Ev (n, xf) (tsC n xf d) 238 [] K 1081 [.ref 1000, .ref 1, .ref 72, .int (zI (i))] [] (I, L, ts_P0 sw, ts_S0) := by
  obtain ⟨x1, x2, x3, x4, x5, x6, x7, x8⟩ := hX
  have hM0 := hM
  obtain ⟨m1, m2, m3, m4, m5, m6, m7, m8⟩ := hM
  obtain ⟨p1, p2, p3, p4, p5⟩ := hP
  refine ev_aloadn_1 i238_1081 ?_
  refine ev_aloadn_0 i238_1082 ?_
  refine ev_iloadn_3 i238_1083 ?_
  refine ew_iconst i238_1084 ?_
  refine ew_iadd i238_1085 ?_
  refine ew_iaload i238_1086 rfl (by omega) (by omega) (by omega) (by first | exact rd_any _ | exact hX.men | exact hX.told | exact hX.road | exact hX.tone _ (by omega) (by omega) | exact hX.corn _ (by omega) (by omega) | exact hX.stand _ (by omega) (by omega) | exact hX.reach _ (by omega) (by omega) | exact hX.arm _ (by omega) (by omega) | exact hX.late _ (by omega) (by omega) | exact hX.len _ (by omega) (by omega) | exact hX.say (by omega) (by omega) _ (by omega) (by omega)) (fun b1086 => ?_)
  refine ev_virt1 i238_1087 g238_1087 rfl (by decide +kernel) (Nat.le_of_ble_eq_true rfl) (x_body x5 (zI_r _) (fun J h1 g1 => ?_))
  obtain ⟨n1, n2, n3, n4, n5, n6, n7, n8⟩ := hM0.co (fun a a0 => fr_row h1 (fun k => by omega)) (fun _ _ => rfl)
  refine ev_aloadn_2 i238_1090 ?_
  refine ev_aloadn_0 i238_1091 ?_
  refine ev_iloadn_3 i238_1092 ?_
  refine ew_iconst i238_1093 ?_
  refine ew_iadd i238_1094 ?_
  refine ew_iaload i238_1095 rfl (by omega) (by omega) (by omega) (by first | exact rd_any _ | exact hX.men | exact hX.told | exact hX.road | exact hX.tone _ (by omega) (by omega) | exact hX.corn _ (by omega) (by omega) | exact hX.stand _ (by omega) (by omega) | exact hX.reach _ (by omega) (by omega) | exact hX.arm _ (by omega) (by omega) | exact hX.late _ (by omega) (by omega) | exact hX.len _ (by omega) (by omega) | exact hX.say (by omega) (by omega) _ (by omega) (by omega)) (fun b1095 => ?_)
  refine ev_virt1 i238_1096 g238_1096 rfl (by decide +kernel) (Nat.le_of_ble_eq_true rfl) (m_body n5 (zI_r _) (fun N h2 g2 => ?_))
  refine ev_icmpeq i238_1099 (fun _ => ?_) (fun q => absurd rfl q)
  have hX2 : XR J L sw B f s c t (g_bodyB b (xf (i + 1).toNat).toInt) w e im := ⟨x1.co (fun a a0 a1 => fr_row h1 (fun k => by omega)), x2.co (fun a a0 a1 => ⟨fr_row h1 (fun k => by omega), rfl⟩), x3.co (fun a k a0 a1 => h1 a k (by omega)), x4.co (h1 24 1 (by omega)) (fr_row h1 (fun k => by omega)), g1, x6.co (h1 2 12 (by omega)) (fun a p => fr_row h1 (fun k => by omega)), x7.co (fun a a0 a1 => fr_row h1 (fun k => by omega)), x8.co (h1 1 9 (by omega)) (fun a a0 a1 => fr_row h1 (fun k => by omega))⟩
  have hM2 : MR N L B f s c t (g_bodyB b (xf (i + 1).toNat).toInt) w e im := ⟨n1.co72 (fr_row h2 (fun k => by omega)) (fr_row h2 (fun k => by omega)) (h2 72 6 (by omega)) (h2 72 7 (by omega)), n2.co (fun a a0 a1 => ⟨fr_row h2 (fun k => by omega), rfl⟩), n3.co (fun a a0 a1 => fr_row h2 (fun k => by omega)) (h2 72 4 (by omega)) (h2 72 5 (by omega)), n4.co (h2 72 10 (by omega)) (fr_row h2 (fun k => by omega)), g2, n6.co (h2 72 12 (by omega)) (fr_row h2 (fun k => by omega)), n7.co (fun a a0 a1 => fr_row h2 (fun k => by omega)), n8.co (h2 72 28 (by omega)) (fun a a0 a1 => fr_row h2 (fun k => by omega))⟩
  have hP2 : PR f s c (g_bodyB b (xf (i + 1).toNat).toInt) w := ⟨p1, p2, p3, p4.body, p5⟩
  have hX3 : XR N L sw B f s c t (g_bodyB b (xf (i + 1).toNat).toInt) w e im := hX2.co (fun a a0 => fr_row h2 (fun k => by omega)) (fun _ _ => rfl)
  refine ew_iinc_3 i238_1472 rfl ?_
  refine ev_goto i238_1475 ?_
  exact hK _ _ _ _ _ _ _ _ _ _ _ hX3.up hM2.up hP2
theorem D_act (hX : XR I L sw B f s c t b w e im) (hM : MR I L B f s c t b w e im) (hP : PR f s c b w) (hB : 0 ≤ B ∧ B ≤ 512) (hn : n ≤ 3072) (hi : 0 ≤ i ∧ i + 6 ≤ n) (hK : ∀ (J : Nat → Nat → Int32) (M : Nat → Nat → Int64) (sw : Bool) (f : ts_Fl) (s : ts_Sh) (c : ts_Ch) (t : ts_Ta) (b : ts_Bo) (w : ts_Lw) (e : ts_De) (im : ts_Im), XR J M sw (B + 1) f s c t b w e im → MR J M (B + 1) f s c t b w e im → PR f s c b w → ts_Ev (n, xf) (tsC n xf d) 238 [] K 18 [.ref 1000, .ref 1, .ref 72, .int (zI (i + 6))] [] (J, M, ts_P0 sw, ts_S0)) : ts_Ev (n, xf) (tsC n xf d) 238 [] K 1104 [.ref 1000, .ref 1, .ref 72, .int (zI (i))] [] (I, L, ts_P0 sw, ts_S0) := by
  obtain ⟨x1, x2, x3, x4, x5, x6, x7, x8⟩ := hX
  have hM0 := hM
  obtain ⟨m1, m2, m3, m4, m5, m6, m7, m8⟩ := hM
  obtain ⟨p1, p2, p3, p4, p5⟩ := hP
  refine ev_aloadn_1 i238_1104 ?_
  refine ev_aloadn_0 i238_1105 ?_
  refine ev_iloadn_3 i238_1106 ?_
  refine ew_iconst i238_1107 ?_
  refine ew_iadd i238_1108 ?_
  refine ew_iaload i238_1109 rfl (by omega) (by omega) (by omega) (by first | exact rd_any _ | exact hX.men | exact hX.told | exact hX.road | exact hX.tone _ (by omega) (by omega) | exact hX.corn _ (by omega) (by omega) | exact hX.stand _ (by omega) (by omega) | exact hX.reach _ (by omega) (by omega) | exact hX.arm _ (by omega) (by omega) | exact hX.late _ (by omega) (by omega) | exact hX.len _ (by omega) (by omega) | exact hX.say (by omega) (by omega) _ (by omega) (by omega)) (fun b1109 => ?_)
  refine ev_aloadn_0 i238_1110 ?_
  refine ev_iloadn_3 i238_1111 ?_
  refine ew_iconst i238_1112 ?_
  refine ew_iadd i238_1113 ?_
  refine ew_iaload i238_1114 rfl (by omega) (by omega) (by omega) (by first | exact rd_any _ | exact hX.men | exact hX.told | exact hX.road | exact hX.tone _ (by omega) (by omega) | exact hX.corn _ (by omega) (by omega) | exact hX.stand _ (by omega) (by omega) | exact hX.reach _ (by omega) (by omega) | exact hX.arm _ (by omega) (by omega) | exact hX.late _ (by omega) (by omega) | exact hX.len _ (by omega) (by omega) | exact hX.say (by omega) (by omega) _ (by omega) (by omega)) (fun b1114 => ?_)
  refine ev_aloadn_0 i238_1115 ?_
  refine ev_iloadn_3 i238_1116 ?_
  refine ew_iconst i238_1117 ?_
  refine ew_iadd i238_1118 ?_
  refine ew_iaload i238_1119 rfl (by omega) (by omega) (by omega) (by first | exact rd_any _ | exact hX.men | exact hX.told | exact hX.road | exact hX.tone _ (by omega) (by omega) | exact hX.corn _ (by omega) (by omega) | exact hX.stand _ (by omega) (by omega) | exact hX.reach _ (by omega) (by omega) | exact hX.arm _ (by omega) (by omega) | exact hX.late _ (by omega) (by omega) | exact hX.len _ (by omega) (by omega) | exact hX.say (by omega) (by omega) _ (by omega) (by omega)) (fun b1119 => ?_)
  refine ev_virt3 i238_1120 g238_1120 rfl (by decide +kernel) (Nat.le_of_ble_eq_true rfl) (x_act x5 (zI_r _) (zI_r _) (fun J h1 g1 => ?_))
  obtain ⟨n1, n2, n3, n4, n5, n6, n7, n8⟩ := hM0.co (fun a a0 => fr_row h1 (fun k => by omega)) (fun _ _ => rfl)
  refine ev_aloadn_2 i238_1123 ?_
  refine ev_aloadn_0 i238_1124 ?_
  refine ev_iloadn_3 i238_1125 ?_
  refine ew_iconst i238_1126 ?_
  refine ew_iadd i238_1127 ?_
  refine ew_iaload i238_1128 rfl (by omega) (by omega) (by omega) (by first | exact rd_any _ | exact hX.men | exact hX.told | exact hX.road | exact hX.tone _ (by omega) (by omega) | exact hX.corn _ (by omega) (by omega) | exact hX.stand _ (by omega) (by omega) | exact hX.reach _ (by omega) (by omega) | exact hX.arm _ (by omega) (by omega) | exact hX.late _ (by omega) (by omega) | exact hX.len _ (by omega) (by omega) | exact hX.say (by omega) (by omega) _ (by omega) (by omega)) (fun b1128 => ?_)
  refine ev_aloadn_0 i238_1129 ?_
  refine ev_iloadn_3 i238_1130 ?_
  refine ew_iconst i238_1131 ?_
  refine ew_iadd i238_1132 ?_
  refine ew_iaload i238_1133 rfl (by omega) (by omega) (by omega) (by first | exact rd_any _ | exact hX.men | exact hX.told | exact hX.road | exact hX.tone _ (by omega) (by omega) | exact hX.corn _ (by omega) (by omega) | exact hX.stand _ (by omega) (by omega) | exact hX.reach _ (by omega) (by omega) | exact hX.arm _ (by omega) (by omega) | exact hX.late _ (by omega) (by omega) | exact hX.len _ (by omega) (by omega) | exact hX.say (by omega) (by omega) _ (by omega) (by omega)) (fun b1133 => ?_)
  refine ev_aloadn_0 i238_1134 ?_
  refine ev_iloadn_3 i238_1135 ?_
  refine ew_iconst i238_1136 ?_
  refine ew_iadd i238_1137 ?_
  refine ew_iaload i238_1138 rfl (by omega) (by omega) (by omega) (by first | exact rd_any _ | exact hX.men | exact hX.told | exact hX.road | exact hX.tone _ (by omega) (by omega) | exact hX.corn _ (by omega) (by omega) | exact hX.stand _ (by omega) (by omega) | exact hX.reach _ (by omega) (by omega) | exact hX.arm _ (by omega) (by omega) | exact hX.late _ (by omega) (by omega) | exact hX.len _ (by omega) (by omega) | exact hX.say (by omega) (by omega) _ (by omega) (by omega)) (fun b1138 => ?_)
  refine ev_virt3 i238_1139 g238_1139 rfl (by decide +kernel) (Nat.le_of_ble_eq_true rfl) (m_act n5 (zI_r _) (zI_r _) (fun N h2 g2 => ?_))
  refine ev_icmpeq i238_1142 (fun _ => ?_) (fun q => absurd rfl q)
  have hX2 : XR J L sw B f s c t (g_actB b (xf (i + 1).toNat).toInt (xf (i + 2).toNat).toInt) w e im := ⟨x1.co (fun a a0 a1 => fr_row h1 (fun k => by omega)), x2.co (fun a a0 a1 => ⟨fr_row h1 (fun k => by omega), rfl⟩), x3.co (fun a k a0 a1 => h1 a k (by omega)), x4.co (h1 24 1 (by omega)) (fr_row h1 (fun k => by omega)), g1, x6.co (h1 2 12 (by omega)) (fun a p => fr_row h1 (fun k => by omega)), x7.co (fun a a0 a1 => fr_row h1 (fun k => by omega)), x8.co (h1 1 9 (by omega)) (fun a a0 a1 => fr_row h1 (fun k => by omega))⟩
  have hM2 : MR N L B f s c t (g_actB b (xf (i + 1).toNat).toInt (xf (i + 2).toNat).toInt) w e im := ⟨n1.co72 (fr_row h2 (fun k => by omega)) (fr_row h2 (fun k => by omega)) (h2 72 6 (by omega)) (h2 72 7 (by omega)), n2.co (fun a a0 a1 => ⟨fr_row h2 (fun k => by omega), rfl⟩), n3.co (fun a a0 a1 => fr_row h2 (fun k => by omega)) (h2 72 4 (by omega)) (h2 72 5 (by omega)), n4.co (h2 72 10 (by omega)) (fr_row h2 (fun k => by omega)), g2, n6.co (h2 72 12 (by omega)) (fr_row h2 (fun k => by omega)), n7.co (fun a a0 a1 => fr_row h2 (fun k => by omega)), n8.co (h2 72 28 (by omega)) (fun a a0 a1 => fr_row h2 (fun k => by omega))⟩
  have hP2 : PR f s c (g_actB b (xf (i + 1).toNat).toInt (xf (i + 2).toNat).toInt) w := ⟨p1, p2, p3, p4.act, p5⟩
  have hX3 : XR N L sw B f s c t (g_actB b (xf (i + 1).toNat).toInt (xf (i + 2).toNat).toInt) w e im := hX2.co (fun a a0 => fr_row h2 (fun k => by omega)) (fun _ _ => rfl)
  refine ew_iinc_3 i238_1472 rfl ?_
  refine ev_goto i238_1475 ?_
  exact hK _ _ _ _ _ _ _ _ _ _ _ hX3.up hM2.up hP2
theorem D_trace (hX : XR I L sw B f s c t b w e im) (hM : MR I L B f s c t b w e im) (hP : PR f s c b w) (hB : 0 ≤ B ∧ B ≤ 512) (hn : n ≤ 3072) (hi : 0 ≤ i ∧ i + 6 ≤ n) (hK : ∀ (J : Nat → Nat → Int32) (M : Nat → Nat → Int64) (sw : Bool) (f : ts_Fl) (s : ts_Sh) (c : ts_Ch) (t : ts_Ta) (b : ts_Bo) (w : ts_Lw) (e : ts_De) (im : ts_Im), XR J M sw (B + 1) f s c t b w e im → MR J M (B + 1) f s c t b w e im → PR f s c b w → ts_Ev (n, xf) (tsC n xf d) 238 [] K 18 [.ref 1000, .ref 1, .ref 72, .int (zI (i + 6))] [] (J, M, ts_P0 sw, ts_S0)) : ts_Ev (n, xf) (tsC n xf d) 238 [] K 1147 [.ref 1000, .ref 1, .ref 72, .int (zI (i))] [] (I, L, ts_P0 sw, ts_S0) := by
  obtain ⟨x1, x2, x3, x4, x5, x6, x7, x8⟩ := hX
  have hM0 := hM
  obtain ⟨m1, m2, m3, m4, m5, m6, m7, m8⟩ := hM
  obtain ⟨p1, p2, p3, p4, p5⟩ := hP
  refine ev_aloadn_1 i238_1147 ?_
  refine ev_aloadn_0 i238_1148 ?_
  refine ev_iloadn_3 i238_1149 ?_
  refine ew_iconst i238_1150 ?_
  refine ew_iadd i238_1151 ?_
  refine ew_iaload i238_1152 rfl (by omega) (by omega) (by omega) (by first | exact rd_any _ | exact hX.men | exact hX.told | exact hX.road | exact hX.tone _ (by omega) (by omega) | exact hX.corn _ (by omega) (by omega) | exact hX.stand _ (by omega) (by omega) | exact hX.reach _ (by omega) (by omega) | exact hX.arm _ (by omega) (by omega) | exact hX.late _ (by omega) (by omega) | exact hX.len _ (by omega) (by omega) | exact hX.say (by omega) (by omega) _ (by omega) (by omega)) (fun b1152 => ?_)
  refine ev_virt1 i238_1153 g238_1153 rfl (by decide +kernel) (Nat.le_of_ble_eq_true rfl) (x_trace x5 (zI_r _) ?_)
  refine ev_aloadn_2 i238_1156 ?_
  refine ev_aloadn_0 i238_1157 ?_
  refine ev_iloadn_3 i238_1158 ?_
  refine ew_iconst i238_1159 ?_
  refine ew_iadd i238_1160 ?_
  refine ew_iaload i238_1161 rfl (by omega) (by omega) (by omega) (by first | exact rd_any _ | exact hX.men | exact hX.told | exact hX.road | exact hX.tone _ (by omega) (by omega) | exact hX.corn _ (by omega) (by omega) | exact hX.stand _ (by omega) (by omega) | exact hX.reach _ (by omega) (by omega) | exact hX.arm _ (by omega) (by omega) | exact hX.late _ (by omega) (by omega) | exact hX.len _ (by omega) (by omega) | exact hX.say (by omega) (by omega) _ (by omega) (by omega)) (fun b1161 => ?_)
  refine ev_virt1 i238_1162 g238_1162 rfl (by decide +kernel) (Nat.le_of_ble_eq_true rfl) (m_trace m5 (zI_r _) ?_)
  refine ev_icmpeq i238_1165 (fun _ => ?_) (fun q => absurd rfl q)
  refine ew_iinc_3 i238_1472 rfl ?_
  refine ev_goto i238_1475 ?_
  exact hK _ _ _ _ _ _ _ _ _ _ _ (XR.up ⟨x1, x2, x3, x4, x5, x6, x7, x8⟩) hM0.up ⟨p1, p2, p3, p4, p5⟩
theorem D_keep (hX : XR I L sw B f s c t b w e im) (hM : MR I L B f s c t b w e im) (hP : PR f s c b w) (hB : 0 ≤ B ∧ B ≤ 512) (hn : n ≤ 3072) (hi : 0 ≤ i ∧ i + 6 ≤ n) (hK : ∀ (J : Nat → Nat → Int32) (M : Nat → Nat → Int64) (sw : Bool) (f : ts_Fl) (s : ts_Sh) (c : ts_Ch) (t : ts_Ta) (b : ts_Bo) (w : ts_Lw) (e : ts_De) (im : ts_Im), XR J M sw (B + 1) f s c t b w e im → MR J M (B + 1) f s c t b w e im → PR f s c b w → ts_Ev (n, xf) (tsC n xf d) 238 [] K 18 [.ref 1000, .ref 1, .ref 72, .int (zI (i + 6))] [] (J, M, ts_P0 sw, ts_S0)) : ts_Ev (n, xf) (tsC n xf d) 238 [] K 1170 [.ref 1000, .ref 1, .ref 72, .int (zI (i))] [] (I, L, ts_P0 sw, ts_S0) := by
  obtain ⟨x1, x2, x3, x4, x5, x6, x7, x8⟩ := hX
  have hM0 := hM
  obtain ⟨m1, m2, m3, m4, m5, m6, m7, m8⟩ := hM
  obtain ⟨p1, p2, p3, p4, p5⟩ := hP
  refine ev_aloadn_1 i238_1170 ?_
  refine ev_aloadn_0 i238_1171 ?_
  refine ev_iloadn_3 i238_1172 ?_
  refine ew_iconst i238_1173 ?_
  refine ew_iadd i238_1174 ?_
  refine ew_iaload i238_1175 rfl (by omega) (by omega) (by omega) (by first | exact rd_any _ | exact hX.men | exact hX.told | exact hX.road | exact hX.tone _ (by omega) (by omega) | exact hX.corn _ (by omega) (by omega) | exact hX.stand _ (by omega) (by omega) | exact hX.reach _ (by omega) (by omega) | exact hX.arm _ (by omega) (by omega) | exact hX.late _ (by omega) (by omega) | exact hX.len _ (by omega) (by omega) | exact hX.say (by omega) (by omega) _ (by omega) (by omega)) (fun b1175 => ?_)
  refine ev_aloadn_0 i238_1176 ?_
  refine ev_iloadn_3 i238_1177 ?_
  refine ew_iconst i238_1178 ?_
  refine ew_iadd i238_1179 ?_
  refine ew_iaload i238_1180 rfl (by omega) (by omega) (by omega) (by first | exact rd_any _ | exact hX.men | exact hX.told | exact hX.road | exact hX.tone _ (by omega) (by omega) | exact hX.corn _ (by omega) (by omega) | exact hX.stand _ (by omega) (by omega) | exact hX.reach _ (by omega) (by omega) | exact hX.arm _ (by omega) (by omega) | exact hX.late _ (by omega) (by omega) | exact hX.len _ (by omega) (by omega) | exact hX.say (by omega) (by omega) _ (by omega) (by omega)) (fun b1180 => ?_)
  refine ev_virt2 i238_1181 g238_1181 rfl (by decide +kernel) (Nat.le_of_ble_eq_true rfl) (x_keep x2 x5.1 (zI_r _) (zI_r _) (fun J h1 g1 => ?_))
  obtain ⟨n1, n2, n3, n4, n5, n6, n7, n8⟩ := hM0.co (fun a a0 => fr_row h1 (fun k => by omega)) (fun _ _ => rfl)
  refine ev_aloadn_2 i238_1184 ?_
  refine ev_aloadn_0 i238_1185 ?_
  refine ev_iloadn_3 i238_1186 ?_
  refine ew_iconst i238_1187 ?_
  refine ew_iadd i238_1188 ?_
  refine ew_iaload i238_1189 rfl (by omega) (by omega) (by omega) (by first | exact rd_any _ | exact hX.men | exact hX.told | exact hX.road | exact hX.tone _ (by omega) (by omega) | exact hX.corn _ (by omega) (by omega) | exact hX.stand _ (by omega) (by omega) | exact hX.reach _ (by omega) (by omega) | exact hX.arm _ (by omega) (by omega) | exact hX.late _ (by omega) (by omega) | exact hX.len _ (by omega) (by omega) | exact hX.say (by omega) (by omega) _ (by omega) (by omega)) (fun b1189 => ?_)
  refine ev_aloadn_0 i238_1190 ?_
  refine ev_iloadn_3 i238_1191 ?_
  refine ew_iconst i238_1192 ?_
  refine ew_iadd i238_1193 ?_
  refine ew_iaload i238_1194 rfl (by omega) (by omega) (by omega) (by first | exact rd_any _ | exact hX.men | exact hX.told | exact hX.road | exact hX.tone _ (by omega) (by omega) | exact hX.corn _ (by omega) (by omega) | exact hX.stand _ (by omega) (by omega) | exact hX.reach _ (by omega) (by omega) | exact hX.arm _ (by omega) (by omega) | exact hX.late _ (by omega) (by omega) | exact hX.len _ (by omega) (by omega) | exact hX.say (by omega) (by omega) _ (by omega) (by omega)) (fun b1194 => ?_)
  refine ev_virt2 i238_1195 g238_1195 rfl (by decide +kernel) (Nat.le_of_ble_eq_true rfl) (m_keep n2 n5 (zI_r _) (zI_r _) (fun N h2 g2 => ?_))
  refine ev_icmpeq i238_1198 (fun _ => ?_) (fun q => absurd rfl q)
  have hX2 : XR J L sw B f (g_keep s b.1 (xf (i + 1).toNat).toInt (xf (i + 2).toNat).toInt) c t b w e im := ⟨x1.co (fun a a0 a1 => fr_row h1 (fun k => by omega)), g1, x3.co (fun a k a0 a1 => h1 a k (by omega)), x4.co (h1 24 1 (by omega)) (fr_row h1 (fun k => by omega)), x5.co (h1 56 2 (by omega)) (h1 56 3 (by omega)) (fr_row h1 (fun k => by omega)) (fr_row h1 (fun k => by omega)), x6.co (h1 2 12 (by omega)) (fun a p => fr_row h1 (fun k => by omega)), x7.co (fun a a0 a1 => fr_row h1 (fun k => by omega)), x8.co (h1 1 9 (by omega)) (fun a a0 a1 => fr_row h1 (fun k => by omega))⟩
  have hM2 : MR N L B f (g_keep s b.1 (xf (i + 1).toNat).toInt (xf (i + 2).toNat).toInt) c t b w e im := ⟨n1.co72 (fr_row h2 (fun k => by omega)) (fr_row h2 (fun k => by omega)) (h2 72 6 (by omega)) (h2 72 7 (by omega)), g2, n3.co (fun a a0 a1 => fr_row h2 (fun k => by omega)) (h2 72 4 (by omega)) (h2 72 5 (by omega)), n4.co (h2 72 10 (by omega)) (fr_row h2 (fun k => by omega)), n5.co (h2 72 32 (by omega)) (h2 72 35 (by omega)) (fr_row h2 (fun k => by omega)) (fr_row h2 (fun k => by omega)), n6.co (h2 72 12 (by omega)) (fr_row h2 (fun k => by omega)), n7.co (fun a a0 a1 => fr_row h2 (fun k => by omega)), n8.co (h2 72 28 (by omega)) (fun a a0 a1 => fr_row h2 (fun k => by omega))⟩
  have hP2 : PR f (g_keep s b.1 (xf (i + 1).toNat).toInt (xf (i + 2).toNat).toInt) c b w := ⟨p1, p2.keep x5.1.2.2, p3, p4.keep, p5⟩
  have hX3 : XR N L sw B f (g_keep s b.1 (xf (i + 1).toNat).toInt (xf (i + 2).toNat).toInt) c t b w e im := hX2.co (fun a a0 => fr_row h2 (fun k => by omega)) (fun _ _ => rfl)
  refine ew_iinc_3 i238_1472 rfl ?_
  refine ev_goto i238_1475 ?_
  exact hK _ _ _ _ _ _ _ _ _ _ _ hX3.up hM2.up hP2
theorem D_row (hX : XR I L sw B f s c t b w e im) (hM : MR I L B f s c t b w e im) (hP : PR f s c b w) (hB : 0 ≤ B ∧ B ≤ 512) (hn : n ≤ 3072) (hi : 0 ≤ i ∧ i + 6 ≤ n) (hK : ∀ (J : Nat → Nat → Int32) (M : Nat → Nat → Int64) (sw : Bool) (f : ts_Fl) (s : ts_Sh) (c : ts_Ch) (t : ts_Ta) (b : ts_Bo) (w : ts_Lw) (e : ts_De) (im : ts_Im), XR J M sw (B + 1) f s c t b w e im → MR J M (B + 1) f s c t b w e im → PR f s c b w → ts_Ev (n, xf) (tsC n xf d) 238 [] K 18 [.ref 1000, .ref 1, .ref 72, .int (zI (i + 6))] [] (J, M, ts_P0 sw, ts_S0)) : ts_Ev (n, xf) (tsC n xf d) 238 [] K 1203 [.ref 1000, .ref 1, .ref 72, .int (zI (i))] [] (I, L, ts_P0 sw, ts_S0) := by
  obtain ⟨x1, x2, x3, x4, x5, x6, x7, x8⟩ := hX
  have hM0 := hM
  obtain ⟨m1, m2, m3, m4, m5, m6, m7, m8⟩ := hM
  obtain ⟨p1, p2, p3, p4, p5⟩ := hP
  refine ev_aloadn_1 i238_1203 ?_
  refine ev_aloadn_0 i238_1204 ?_
  refine ev_iloadn_3 i238_1205 ?_
  refine ew_iconst i238_1206 ?_
  refine ew_iadd i238_1207 ?_
  refine ew_iaload i238_1208 rfl (by omega) (by omega) (by omega) (by first | exact rd_any _ | exact hX.men | exact hX.told | exact hX.road | exact hX.tone _ (by omega) (by omega) | exact hX.corn _ (by omega) (by omega) | exact hX.stand _ (by omega) (by omega) | exact hX.reach _ (by omega) (by omega) | exact hX.arm _ (by omega) (by omega) | exact hX.late _ (by omega) (by omega) | exact hX.len _ (by omega) (by omega) | exact hX.say (by omega) (by omega) _ (by omega) (by omega)) (fun b1208 => ?_)
  refine ev_aloadn_0 i238_1209 ?_
  refine ev_iloadn_3 i238_1210 ?_
  refine ew_iconst i238_1211 ?_
  refine ew_iadd i238_1212 ?_
  refine ew_iaload i238_1213 rfl (by omega) (by omega) (by omega) (by first | exact rd_any _ | exact hX.men | exact hX.told | exact hX.road | exact hX.tone _ (by omega) (by omega) | exact hX.corn _ (by omega) (by omega) | exact hX.stand _ (by omega) (by omega) | exact hX.reach _ (by omega) (by omega) | exact hX.arm _ (by omega) (by omega) | exact hX.late _ (by omega) (by omega) | exact hX.len _ (by omega) (by omega) | exact hX.say (by omega) (by omega) _ (by omega) (by omega)) (fun b1213 => ?_)
  refine ev_aloadn_0 i238_1214 ?_
  refine ev_iloadn_3 i238_1215 ?_
  refine ew_iconst i238_1216 ?_
  refine ew_iadd i238_1217 ?_
  refine ew_iaload i238_1218 rfl (by omega) (by omega) (by omega) (by first | exact rd_any _ | exact hX.men | exact hX.told | exact hX.road | exact hX.tone _ (by omega) (by omega) | exact hX.corn _ (by omega) (by omega) | exact hX.stand _ (by omega) (by omega) | exact hX.reach _ (by omega) (by omega) | exact hX.arm _ (by omega) (by omega) | exact hX.late _ (by omega) (by omega) | exact hX.len _ (by omega) (by omega) | exact hX.say (by omega) (by omega) _ (by omega) (by omega)) (fun b1218 => ?_)
  refine ev_virt3 i238_1219 g238_1219 rfl (by decide +kernel) (Nat.le_of_ble_eq_true rfl) (x_row x2 (zI_r _) (zI_r _) (zI_r _) (fun J U h1 u1 g1 => ?_))
  obtain ⟨n1, n2, n3, n4, n5, n6, n7, n8⟩ := hM0.co (fun a a0 => fr_row h1 (fun k => by omega)) (fun a a0 => fr_row u1 (fun k => by omega))
  refine ev_aloadn_2 i238_1222 ?_
  refine ev_aloadn_0 i238_1223 ?_
  refine ev_iloadn_3 i238_1224 ?_
  refine ew_iconst i238_1225 ?_
  refine ew_iadd i238_1226 ?_
  refine ew_iaload i238_1227 rfl (by omega) (by omega) (by omega) (by first | exact rd_any _ | exact hX.men | exact hX.told | exact hX.road | exact hX.tone _ (by omega) (by omega) | exact hX.corn _ (by omega) (by omega) | exact hX.stand _ (by omega) (by omega) | exact hX.reach _ (by omega) (by omega) | exact hX.arm _ (by omega) (by omega) | exact hX.late _ (by omega) (by omega) | exact hX.len _ (by omega) (by omega) | exact hX.say (by omega) (by omega) _ (by omega) (by omega)) (fun b1227 => ?_)
  refine ev_aloadn_0 i238_1228 ?_
  refine ev_iloadn_3 i238_1229 ?_
  refine ew_iconst i238_1230 ?_
  refine ew_iadd i238_1231 ?_
  refine ew_iaload i238_1232 rfl (by omega) (by omega) (by omega) (by first | exact rd_any _ | exact hX.men | exact hX.told | exact hX.road | exact hX.tone _ (by omega) (by omega) | exact hX.corn _ (by omega) (by omega) | exact hX.stand _ (by omega) (by omega) | exact hX.reach _ (by omega) (by omega) | exact hX.arm _ (by omega) (by omega) | exact hX.late _ (by omega) (by omega) | exact hX.len _ (by omega) (by omega) | exact hX.say (by omega) (by omega) _ (by omega) (by omega)) (fun b1232 => ?_)
  refine ev_aloadn_0 i238_1233 ?_
  refine ev_iloadn_3 i238_1234 ?_
  refine ew_iconst i238_1235 ?_
  refine ew_iadd i238_1236 ?_
  refine ew_iaload i238_1237 rfl (by omega) (by omega) (by omega) (by first | exact rd_any _ | exact hX.men | exact hX.told | exact hX.road | exact hX.tone _ (by omega) (by omega) | exact hX.corn _ (by omega) (by omega) | exact hX.stand _ (by omega) (by omega) | exact hX.reach _ (by omega) (by omega) | exact hX.arm _ (by omega) (by omega) | exact hX.late _ (by omega) (by omega) | exact hX.len _ (by omega) (by omega) | exact hX.say (by omega) (by omega) _ (by omega) (by omega)) (fun b1237 => ?_)
  refine ev_virt3 i238_1238 g238_1238 rfl (by decide +kernel) (Nat.le_of_ble_eq_true rfl) (m_row n2 (zI_r _) (zI_r _) (zI_r _) (fun N V h2 u2 g2 => ?_))
  refine ev_icmpeq i238_1241 (fun _ => ?_) (fun q => absurd rfl q)
  have hX2 : XR J U sw B f (g_rowS s (xf (i + 1).toNat).toInt (xf (i + 2).toNat).toInt (xf (i + 3).toNat).toInt) c t b w e im := ⟨x1.co (fun a a0 a1 => fr_row h1 (fun k => by omega)), g1, x3.co (fun a k a0 a1 => h1 a k (by omega)), x4.co (h1 24 1 (by omega)) (fr_row h1 (fun k => by omega)), x5.co (h1 56 2 (by omega)) (h1 56 3 (by omega)) (fr_row h1 (fun k => by omega)) (fr_row h1 (fun k => by omega)), x6.co (h1 2 12 (by omega)) (fun a p => fr_row h1 (fun k => by omega)), x7.co (fun a a0 a1 => fr_row h1 (fun k => by omega)), x8.co (h1 1 9 (by omega)) (fun a a0 a1 => fr_row h1 (fun k => by omega))⟩
  have hM2 : MR N V B f (g_rowS s (xf (i + 1).toNat).toInt (xf (i + 2).toNat).toInt (xf (i + 3).toNat).toInt) c t b w e im := ⟨n1.co72 (fr_row h2 (fun k => by omega)) (fr_row h2 (fun k => by omega)) (h2 72 6 (by omega)) (h2 72 7 (by omega)), g2, n3.co (fun a a0 a1 => fr_row h2 (fun k => by omega)) (h2 72 4 (by omega)) (h2 72 5 (by omega)), n4.co (h2 72 10 (by omega)) (fr_row h2 (fun k => by omega)), n5.co (h2 72 32 (by omega)) (h2 72 35 (by omega)) (fr_row h2 (fun k => by omega)) (fr_row h2 (fun k => by omega)), n6.co (h2 72 12 (by omega)) (fr_row h2 (fun k => by omega)), n7.co (fun a a0 a1 => fr_row h2 (fun k => by omega)), n8.co (h2 72 28 (by omega)) (fun a a0 a1 => fr_row h2 (fun k => by omega))⟩
  have hP2 : PR f (g_rowS s (xf (i + 1).toNat).toInt (xf (i + 2).toNat).toInt (xf (i + 3).toNat).toInt) c b w := ⟨p1, p2.row, p3, p4.row, p5⟩
  have hX3 : XR N V sw B f (g_rowS s (xf (i + 1).toNat).toInt (xf (i + 2).toNat).toInt (xf (i + 3).toNat).toInt) c t b w e im := hX2.co (fun a a0 => fr_row h2 (fun k => by omega)) (fun a a0 => fr_row u2 (fun k => by omega))
  refine ew_iinc_3 i238_1472 rfl ?_
  refine ev_goto i238_1475 ?_
  exact hK _ _ _ _ _ _ _ _ _ _ _ hX3.up hM2.up hP2
theorem D_put (hX : XR I L sw B f s c t b w e im) (hM : MR I L B f s c t b w e im) (hP : PR f s c b w) (hB : 0 ≤ B ∧ B ≤ 512) (hn : n ≤ 3072) (hi : 0 ≤ i ∧ i + 6 ≤ n) (hK : ∀ (J : Nat → Nat → Int32) (M : Nat → Nat → Int64) (sw : Bool) (f : ts_Fl) (s : ts_Sh) (c : ts_Ch) (t : ts_Ta) (b : ts_Bo) (w : ts_Lw) (e : ts_De) (im : ts_Im), XR J M sw (B + 1) f s c t b w e im → MR J M (B + 1) f s c t b w e im → PR f s c b w → ts_Ev (n, xf) (tsC n xf d) 238 [] K 18 [.ref 1000, .ref 1, .ref 72, .int (zI (i + 6))] [] (J, M, ts_P0 sw, ts_S0)) : ts_Ev (n, xf) (tsC n xf d) 238 [] K 1246 [.ref 1000, .ref 1, .ref 72, .int (zI (i))] [] (I, L, ts_P0 sw, ts_S0) := by
  obtain ⟨x1, x2, x3, x4, x5, x6, x7, x8⟩ := hX
  have hM0 := hM
  obtain ⟨m1, m2, m3, m4, m5, m6, m7, m8⟩ := hM
  obtain ⟨p1, p2, p3, p4, p5⟩ := hP
  refine ev_aloadn_1 i238_1246 ?_
  refine ev_aloadn_0 i238_1247 ?_
  refine ev_iloadn_3 i238_1248 ?_
  refine ew_iconst i238_1249 ?_
  refine ew_iadd i238_1250 ?_
  refine ew_iaload i238_1251 rfl (by omega) (by omega) (by omega) (by first | exact rd_any _ | exact hX.men | exact hX.told | exact hX.road | exact hX.tone _ (by omega) (by omega) | exact hX.corn _ (by omega) (by omega) | exact hX.stand _ (by omega) (by omega) | exact hX.reach _ (by omega) (by omega) | exact hX.arm _ (by omega) (by omega) | exact hX.late _ (by omega) (by omega) | exact hX.len _ (by omega) (by omega) | exact hX.say (by omega) (by omega) _ (by omega) (by omega)) (fun b1251 => ?_)
  refine ev_aloadn_0 i238_1252 ?_
  refine ev_iloadn_3 i238_1253 ?_
  refine ew_iconst i238_1254 ?_
  refine ew_iadd i238_1255 ?_
  refine ew_iaload i238_1256 rfl (by omega) (by omega) (by omega) (by first | exact rd_any _ | exact hX.men | exact hX.told | exact hX.road | exact hX.tone _ (by omega) (by omega) | exact hX.corn _ (by omega) (by omega) | exact hX.stand _ (by omega) (by omega) | exact hX.reach _ (by omega) (by omega) | exact hX.arm _ (by omega) (by omega) | exact hX.late _ (by omega) (by omega) | exact hX.len _ (by omega) (by omega) | exact hX.say (by omega) (by omega) _ (by omega) (by omega)) (fun b1256 => ?_)
  refine ev_aloadn_0 i238_1257 ?_
  refine ev_iloadn_3 i238_1258 ?_
  refine ew_iconst i238_1259 ?_
  refine ew_iadd i238_1260 ?_
  refine ew_iaload i238_1261 rfl (by omega) (by omega) (by omega) (by first | exact rd_any _ | exact hX.men | exact hX.told | exact hX.road | exact hX.tone _ (by omega) (by omega) | exact hX.corn _ (by omega) (by omega) | exact hX.stand _ (by omega) (by omega) | exact hX.reach _ (by omega) (by omega) | exact hX.arm _ (by omega) (by omega) | exact hX.late _ (by omega) (by omega) | exact hX.len _ (by omega) (by omega) | exact hX.say (by omega) (by omega) _ (by omega) (by omega)) (fun b1261 => ?_)
  refine ew_i2l i238_1262 (by omega) ?_
  refine ew_bipush i238_1263 (by decide) ?_
  refine ew_lshl i238_1265 ?_
  refine ev_aloadn_0 i238_1266 ?_
  refine ev_iloadn_3 i238_1267 ?_
  refine ew_iconst i238_1268 ?_
  refine ew_iadd i238_1269 ?_
  refine ew_iaload i238_1270 rfl (by omega) (by omega) (by omega) (by first | exact rd_any _ | exact hX.men | exact hX.told | exact hX.road | exact hX.tone _ (by omega) (by omega) | exact hX.corn _ (by omega) (by omega) | exact hX.stand _ (by omega) (by omega) | exact hX.reach _ (by omega) (by omega) | exact hX.arm _ (by omega) (by omega) | exact hX.late _ (by omega) (by omega) | exact hX.len _ (by omega) (by omega) | exact hX.say (by omega) (by omega) _ (by omega) (by omega)) (fun b1270 => ?_)
  refine ew_i2l i238_1271 (by omega) ?_
  refine ew_ldc2_w (z := (4294967295)) i238_1272 g238_1272 (by decide) ?_
  refine ew_land i238_1275 ?_
  refine ew_lor i238_1276 ?_
  refine ev_virt3 i238_1277 g238_1277 rfl (by decide +kernel) (Nat.le_of_ble_eq_true rfl) (x_put x2 (zI_r _) (zI_r _) (zlor_r _ _) (fun U u1 g1 => ?_))
  obtain ⟨n1, n2, n3, n4, n5, n6, n7, n8⟩ := hM0.co (fun _ _ => rfl) (fun a a0 => fr_row u1 (fun k => by omega))
  refine ev_aloadn_2 i238_1280 ?_
  refine ev_aloadn_0 i238_1281 ?_
  refine ev_iloadn_3 i238_1282 ?_
  refine ew_iconst i238_1283 ?_
  refine ew_iadd i238_1284 ?_
  refine ew_iaload i238_1285 rfl (by omega) (by omega) (by omega) (by first | exact rd_any _ | exact hX.men | exact hX.told | exact hX.road | exact hX.tone _ (by omega) (by omega) | exact hX.corn _ (by omega) (by omega) | exact hX.stand _ (by omega) (by omega) | exact hX.reach _ (by omega) (by omega) | exact hX.arm _ (by omega) (by omega) | exact hX.late _ (by omega) (by omega) | exact hX.len _ (by omega) (by omega) | exact hX.say (by omega) (by omega) _ (by omega) (by omega)) (fun b1285 => ?_)
  refine ev_aloadn_0 i238_1286 ?_
  refine ev_iloadn_3 i238_1287 ?_
  refine ew_iconst i238_1288 ?_
  refine ew_iadd i238_1289 ?_
  refine ew_iaload i238_1290 rfl (by omega) (by omega) (by omega) (by first | exact rd_any _ | exact hX.men | exact hX.told | exact hX.road | exact hX.tone _ (by omega) (by omega) | exact hX.corn _ (by omega) (by omega) | exact hX.stand _ (by omega) (by omega) | exact hX.reach _ (by omega) (by omega) | exact hX.arm _ (by omega) (by omega) | exact hX.late _ (by omega) (by omega) | exact hX.len _ (by omega) (by omega) | exact hX.say (by omega) (by omega) _ (by omega) (by omega)) (fun b1290 => ?_)
  refine ev_aloadn_0 i238_1291 ?_
  refine ev_iloadn_3 i238_1292 ?_
  refine ew_iconst i238_1293 ?_
  refine ew_iadd i238_1294 ?_
  refine ew_iaload i238_1295 rfl (by omega) (by omega) (by omega) (by first | exact rd_any _ | exact hX.men | exact hX.told | exact hX.road | exact hX.tone _ (by omega) (by omega) | exact hX.corn _ (by omega) (by omega) | exact hX.stand _ (by omega) (by omega) | exact hX.reach _ (by omega) (by omega) | exact hX.arm _ (by omega) (by omega) | exact hX.late _ (by omega) (by omega) | exact hX.len _ (by omega) (by omega) | exact hX.say (by omega) (by omega) _ (by omega) (by omega)) (fun b1295 => ?_)
  refine ew_i2l i238_1296 (by omega) ?_
  refine ew_bipush i238_1297 (by decide) ?_
  refine ew_lshl i238_1299 ?_
  refine ev_aloadn_0 i238_1300 ?_
  refine ev_iloadn_3 i238_1301 ?_
  refine ew_iconst i238_1302 ?_
  refine ew_iadd i238_1303 ?_
  refine ew_iaload i238_1304 rfl (by omega) (by omega) (by omega) (by first | exact rd_any _ | exact hX.men | exact hX.told | exact hX.road | exact hX.tone _ (by omega) (by omega) | exact hX.corn _ (by omega) (by omega) | exact hX.stand _ (by omega) (by omega) | exact hX.reach _ (by omega) (by omega) | exact hX.arm _ (by omega) (by omega) | exact hX.late _ (by omega) (by omega) | exact hX.len _ (by omega) (by omega) | exact hX.say (by omega) (by omega) _ (by omega) (by omega)) (fun b1304 => ?_)
  refine ew_i2l i238_1305 (by omega) ?_
  refine ew_ldc2_w (z := (4294967295)) i238_1306 g238_1306 (by decide) ?_
  refine ew_land i238_1309 ?_
  refine ew_lor i238_1310 ?_
  refine ev_virt3 i238_1311 g238_1311 rfl (by decide +kernel) (Nat.le_of_ble_eq_true rfl) (m_put n2 (zI_r _) (zI_r _) (zlor_r _ _) (fun V u2 g2 => ?_))
  refine ev_icmpeq i238_1314 (fun _ => ?_) (fun q => absurd rfl q)
  have hX2 : XR I U sw B f (g_putS s (xf (i + 1).toNat).toInt (xf (i + 2).toNat).toInt (zlor (zlshl (xf (i + 3).toNat).toInt 32) (zland (xf (i + 4).toNat).toInt 4294967295))) c t b w e im := ⟨x1, g1, x3, x4, x5, x6, x7, x8⟩
  have hM2 : MR I V B f (g_putS s (xf (i + 1).toNat).toInt (xf (i + 2).toNat).toInt (zlor (zlshl (xf (i + 3).toNat).toInt 32) (zland (xf (i + 4).toNat).toInt 4294967295))) c t b w e im := ⟨n1, g2, n3, n4, n5, n6, n7, n8⟩
  have hP2 : PR f (g_putS s (xf (i + 1).toNat).toInt (xf (i + 2).toNat).toInt (zlor (zlshl (xf (i + 3).toNat).toInt 32) (zland (xf (i + 4).toNat).toInt 4294967295))) c b w := ⟨p1, p2.put, p3, p4.put, p5⟩
  have hX3 : XR I V sw B f (g_putS s (xf (i + 1).toNat).toInt (xf (i + 2).toNat).toInt (zlor (zlshl (xf (i + 3).toNat).toInt 32) (zland (xf (i + 4).toNat).toInt 4294967295))) c t b w e im := hX2.co (fun _ _ => rfl) (fun a a0 => fr_row u2 (fun k => by omega))
  refine ew_iinc_3 i238_1472 rfl ?_
  refine ev_goto i238_1475 ?_
  exact hK _ _ _ _ _ _ _ _ _ _ _ hX3.up hM2.up hP2
theorem D_element (hX : XR I L sw B f s c t b w e im) (hM : MR I L B f s c t b w e im) (hP : PR f s c b w) (hB : 0 ≤ B ∧ B ≤ 512) (hn : n ≤ 3072) (hi : 0 ≤ i ∧ i + 6 ≤ n) (hK : ∀ (J : Nat → Nat → Int32) (M : Nat → Nat → Int64) (sw : Bool) (f : ts_Fl) (s : ts_Sh) (c : ts_Ch) (t : ts_Ta) (b : ts_Bo) (w : ts_Lw) (e : ts_De) (im : ts_Im), XR J M sw (B + 1) f s c t b w e im → MR J M (B + 1) f s c t b w e im → PR f s c b w → ts_Ev (n, xf) (tsC n xf d) 238 [] K 18 [.ref 1000, .ref 1, .ref 72, .int (zI (i + 6))] [] (J, M, ts_P0 sw, ts_S0)) : ts_Ev (n, xf) (tsC n xf d) 238 [] K 1319 [.ref 1000, .ref 1, .ref 72, .int (zI (i))] [] (I, L, ts_P0 sw, ts_S0) := by
  obtain ⟨x1, x2, x3, x4, x5, x6, x7, x8⟩ := hX
  have hM0 := hM
  obtain ⟨m1, m2, m3, m4, m5, m6, m7, m8⟩ := hM
  obtain ⟨p1, p2, p3, p4, p5⟩ := hP
  refine ev_aloadn_1 i238_1319 ?_
  refine ev_aloadn_0 i238_1320 ?_
  refine ev_iloadn_3 i238_1321 ?_
  refine ew_iconst i238_1322 ?_
  refine ew_iadd i238_1323 ?_
  refine ew_iaload i238_1324 rfl (by omega) (by omega) (by omega) (by first | exact rd_any _ | exact hX.men | exact hX.told | exact hX.road | exact hX.tone _ (by omega) (by omega) | exact hX.corn _ (by omega) (by omega) | exact hX.stand _ (by omega) (by omega) | exact hX.reach _ (by omega) (by omega) | exact hX.arm _ (by omega) (by omega) | exact hX.late _ (by omega) (by omega) | exact hX.len _ (by omega) (by omega) | exact hX.say (by omega) (by omega) _ (by omega) (by omega)) (fun b1324 => ?_)
  refine ev_aloadn_0 i238_1325 ?_
  refine ev_iloadn_3 i238_1326 ?_
  refine ew_iconst i238_1327 ?_
  refine ew_iadd i238_1328 ?_
  refine ew_iaload i238_1329 rfl (by omega) (by omega) (by omega) (by first | exact rd_any _ | exact hX.men | exact hX.told | exact hX.road | exact hX.tone _ (by omega) (by omega) | exact hX.corn _ (by omega) (by omega) | exact hX.stand _ (by omega) (by omega) | exact hX.reach _ (by omega) (by omega) | exact hX.arm _ (by omega) (by omega) | exact hX.late _ (by omega) (by omega) | exact hX.len _ (by omega) (by omega) | exact hX.say (by omega) (by omega) _ (by omega) (by omega)) (fun b1329 => ?_)
  refine ev_virt2 i238_1330 g238_1330 rfl (by decide +kernel) (Nat.le_of_ble_eq_true rfl) (x_element x2 (zI_r _) (zI_r _) ?_)
  refine ev_aloadn_2 i238_1333 ?_
  refine ev_aloadn_0 i238_1334 ?_
  refine ev_iloadn_3 i238_1335 ?_
  refine ew_iconst i238_1336 ?_
  refine ew_iadd i238_1337 ?_
  refine ew_iaload i238_1338 rfl (by omega) (by omega) (by omega) (by first | exact rd_any _ | exact hX.men | exact hX.told | exact hX.road | exact hX.tone _ (by omega) (by omega) | exact hX.corn _ (by omega) (by omega) | exact hX.stand _ (by omega) (by omega) | exact hX.reach _ (by omega) (by omega) | exact hX.arm _ (by omega) (by omega) | exact hX.late _ (by omega) (by omega) | exact hX.len _ (by omega) (by omega) | exact hX.say (by omega) (by omega) _ (by omega) (by omega)) (fun b1338 => ?_)
  refine ev_aloadn_0 i238_1339 ?_
  refine ev_iloadn_3 i238_1340 ?_
  refine ew_iconst i238_1341 ?_
  refine ew_iadd i238_1342 ?_
  refine ew_iaload i238_1343 rfl (by omega) (by omega) (by omega) (by first | exact rd_any _ | exact hX.men | exact hX.told | exact hX.road | exact hX.tone _ (by omega) (by omega) | exact hX.corn _ (by omega) (by omega) | exact hX.stand _ (by omega) (by omega) | exact hX.reach _ (by omega) (by omega) | exact hX.arm _ (by omega) (by omega) | exact hX.late _ (by omega) (by omega) | exact hX.len _ (by omega) (by omega) | exact hX.say (by omega) (by omega) _ (by omega) (by omega)) (fun b1343 => ?_)
  refine ev_virt2 i238_1344 g238_1344 rfl (by decide +kernel) (Nat.le_of_ble_eq_true rfl) (m_element m2 (zI_r _) (zI_r _) ?_)
  refine ev_lcmp i238_1347 ?_
  refine ev_ifeq i238_1348 (fun _ => ?_) (fun q => absurd (lg_cmp_self _) q)
  refine ew_iinc_3 i238_1472 rfl ?_
  refine ev_goto i238_1475 ?_
  exact hK _ _ _ _ _ _ _ _ _ _ _ (XR.up ⟨x1, x2, x3, x4, x5, x6, x7, x8⟩) hM0.up ⟨p1, p2, p3, p4, p5⟩
theorem D_shift (hX : XR I L sw B f s c t b w e im) (hM : MR I L B f s c t b w e im) (hP : PR f s c b w) (hB : 0 ≤ B ∧ B ≤ 512) (hn : n ≤ 3072) (hi : 0 ≤ i ∧ i + 6 ≤ n) (hK : ∀ (J : Nat → Nat → Int32) (M : Nat → Nat → Int64) (sw : Bool) (f : ts_Fl) (s : ts_Sh) (c : ts_Ch) (t : ts_Ta) (b : ts_Bo) (w : ts_Lw) (e : ts_De) (im : ts_Im), XR J M sw (B + 1) f s c t b w e im → MR J M (B + 1) f s c t b w e im → PR f s c b w → ts_Ev (n, xf) (tsC n xf d) 238 [] K 18 [.ref 1000, .ref 1, .ref 72, .int (zI (i + 6))] [] (J, M, ts_P0 sw, ts_S0)) : ts_Ev (n, xf) (tsC n xf d) 238 [] K 1353 [.ref 1000, .ref 1, .ref 72, .int (zI (i))] [] (I, L, ts_P0 sw, ts_S0) := by
  obtain ⟨x1, x2, x3, x4, x5, x6, x7, x8⟩ := hX
  have hM0 := hM
  obtain ⟨m1, m2, m3, m4, m5, m6, m7, m8⟩ := hM
  obtain ⟨p1, p2, p3, p4, p5⟩ := hP
  refine ev_aloadn_1 i238_1353 ?_
  refine ev_aloadn_0 i238_1354 ?_
  refine ev_iloadn_3 i238_1355 ?_
  refine ew_iconst i238_1356 ?_
  refine ew_iadd i238_1357 ?_
  refine ew_iaload i238_1358 rfl (by omega) (by omega) (by omega) (by first | exact rd_any _ | exact hX.men | exact hX.told | exact hX.road | exact hX.tone _ (by omega) (by omega) | exact hX.corn _ (by omega) (by omega) | exact hX.stand _ (by omega) (by omega) | exact hX.reach _ (by omega) (by omega) | exact hX.arm _ (by omega) (by omega) | exact hX.late _ (by omega) (by omega) | exact hX.len _ (by omega) (by omega) | exact hX.say (by omega) (by omega) _ (by omega) (by omega)) (fun b1358 => ?_)
  refine ev_aloadn_0 i238_1359 ?_
  refine ev_iloadn_3 i238_1360 ?_
  refine ew_iconst i238_1361 ?_
  refine ew_iadd i238_1362 ?_
  refine ew_iaload i238_1363 rfl (by omega) (by omega) (by omega) (by first | exact rd_any _ | exact hX.men | exact hX.told | exact hX.road | exact hX.tone _ (by omega) (by omega) | exact hX.corn _ (by omega) (by omega) | exact hX.stand _ (by omega) (by omega) | exact hX.reach _ (by omega) (by omega) | exact hX.arm _ (by omega) (by omega) | exact hX.late _ (by omega) (by omega) | exact hX.len _ (by omega) (by omega) | exact hX.say (by omega) (by omega) _ (by omega) (by omega)) (fun b1363 => ?_)
  refine ev_aloadn_0 i238_1364 ?_
  refine ev_iloadn_3 i238_1365 ?_
  refine ew_iconst i238_1366 ?_
  refine ew_iadd i238_1367 ?_
  refine ew_iaload i238_1368 rfl (by omega) (by omega) (by omega) (by first | exact rd_any _ | exact hX.men | exact hX.told | exact hX.road | exact hX.tone _ (by omega) (by omega) | exact hX.corn _ (by omega) (by omega) | exact hX.stand _ (by omega) (by omega) | exact hX.reach _ (by omega) (by omega) | exact hX.arm _ (by omega) (by omega) | exact hX.late _ (by omega) (by omega) | exact hX.len _ (by omega) (by omega) | exact hX.say (by omega) (by omega) _ (by omega) (by omega)) (fun b1368 => ?_)
  refine ev_aloadn_0 i238_1369 ?_
  refine ev_iloadn_3 i238_1370 ?_
  refine ew_iconst i238_1371 ?_
  refine ew_iadd i238_1372 ?_
  refine ew_iaload i238_1373 rfl (by omega) (by omega) (by omega) (by first | exact rd_any _ | exact hX.men | exact hX.told | exact hX.road | exact hX.tone _ (by omega) (by omega) | exact hX.corn _ (by omega) (by omega) | exact hX.stand _ (by omega) (by omega) | exact hX.reach _ (by omega) (by omega) | exact hX.arm _ (by omega) (by omega) | exact hX.late _ (by omega) (by omega) | exact hX.len _ (by omega) (by omega) | exact hX.say (by omega) (by omega) _ (by omega) (by omega)) (fun b1373 => ?_)
  refine ev_aloadn_0 i238_1374 ?_
  refine ev_iloadn_3 i238_1375 ?_
  refine ew_iconst i238_1376 ?_
  refine ew_iadd i238_1377 ?_
  refine ew_iaload i238_1378 rfl (by omega) (by omega) (by omega) (by first | exact rd_any _ | exact hX.men | exact hX.told | exact hX.road | exact hX.tone _ (by omega) (by omega) | exact hX.corn _ (by omega) (by omega) | exact hX.stand _ (by omega) (by omega) | exact hX.reach _ (by omega) (by omega) | exact hX.arm _ (by omega) (by omega) | exact hX.late _ (by omega) (by omega) | exact hX.len _ (by omega) (by omega) | exact hX.say (by omega) (by omega) _ (by omega) (by omega)) (fun b1378 => ?_)
  refine ev_virt5 i238_1379 g238_1379 rfl (by decide +kernel) (Nat.le_of_ble_eq_true rfl) (x_shift x2 p2 (zI_r _) (zI_r _) (zI_r _) (zI_r _) (zI_r _) (fun U u1 g1 => ?_))
  obtain ⟨n1, n2, n3, n4, n5, n6, n7, n8⟩ := hM0.co (fun _ _ => rfl) (fun a a0 => fr_row u1 (fun k => by omega))
  refine ev_aloadn_2 i238_1382 ?_
  refine ev_aloadn_0 i238_1383 ?_
  refine ev_iloadn_3 i238_1384 ?_
  refine ew_iconst i238_1385 ?_
  refine ew_iadd i238_1386 ?_
  refine ew_iaload i238_1387 rfl (by omega) (by omega) (by omega) (by first | exact rd_any _ | exact hX.men | exact hX.told | exact hX.road | exact hX.tone _ (by omega) (by omega) | exact hX.corn _ (by omega) (by omega) | exact hX.stand _ (by omega) (by omega) | exact hX.reach _ (by omega) (by omega) | exact hX.arm _ (by omega) (by omega) | exact hX.late _ (by omega) (by omega) | exact hX.len _ (by omega) (by omega) | exact hX.say (by omega) (by omega) _ (by omega) (by omega)) (fun b1387 => ?_)
  refine ev_aloadn_0 i238_1388 ?_
  refine ev_iloadn_3 i238_1389 ?_
  refine ew_iconst i238_1390 ?_
  refine ew_iadd i238_1391 ?_
  refine ew_iaload i238_1392 rfl (by omega) (by omega) (by omega) (by first | exact rd_any _ | exact hX.men | exact hX.told | exact hX.road | exact hX.tone _ (by omega) (by omega) | exact hX.corn _ (by omega) (by omega) | exact hX.stand _ (by omega) (by omega) | exact hX.reach _ (by omega) (by omega) | exact hX.arm _ (by omega) (by omega) | exact hX.late _ (by omega) (by omega) | exact hX.len _ (by omega) (by omega) | exact hX.say (by omega) (by omega) _ (by omega) (by omega)) (fun b1392 => ?_)
  refine ev_aloadn_0 i238_1393 ?_
  refine ev_iloadn_3 i238_1394 ?_
  refine ew_iconst i238_1395 ?_
  refine ew_iadd i238_1396 ?_
  refine ew_iaload i238_1397 rfl (by omega) (by omega) (by omega) (by first | exact rd_any _ | exact hX.men | exact hX.told | exact hX.road | exact hX.tone _ (by omega) (by omega) | exact hX.corn _ (by omega) (by omega) | exact hX.stand _ (by omega) (by omega) | exact hX.reach _ (by omega) (by omega) | exact hX.arm _ (by omega) (by omega) | exact hX.late _ (by omega) (by omega) | exact hX.len _ (by omega) (by omega) | exact hX.say (by omega) (by omega) _ (by omega) (by omega)) (fun b1397 => ?_)
  refine ev_aloadn_0 i238_1398 ?_
  refine ev_iloadn_3 i238_1399 ?_
  refine ew_iconst i238_1400 ?_
  refine ew_iadd i238_1401 ?_
  refine ew_iaload i238_1402 rfl (by omega) (by omega) (by omega) (by first | exact rd_any _ | exact hX.men | exact hX.told | exact hX.road | exact hX.tone _ (by omega) (by omega) | exact hX.corn _ (by omega) (by omega) | exact hX.stand _ (by omega) (by omega) | exact hX.reach _ (by omega) (by omega) | exact hX.arm _ (by omega) (by omega) | exact hX.late _ (by omega) (by omega) | exact hX.len _ (by omega) (by omega) | exact hX.say (by omega) (by omega) _ (by omega) (by omega)) (fun b1402 => ?_)
  refine ev_aloadn_0 i238_1403 ?_
  refine ev_iloadn_3 i238_1404 ?_
  refine ew_iconst i238_1405 ?_
  refine ew_iadd i238_1406 ?_
  refine ew_iaload i238_1407 rfl (by omega) (by omega) (by omega) (by first | exact rd_any _ | exact hX.men | exact hX.told | exact hX.road | exact hX.tone _ (by omega) (by omega) | exact hX.corn _ (by omega) (by omega) | exact hX.stand _ (by omega) (by omega) | exact hX.reach _ (by omega) (by omega) | exact hX.arm _ (by omega) (by omega) | exact hX.late _ (by omega) (by omega) | exact hX.len _ (by omega) (by omega) | exact hX.say (by omega) (by omega) _ (by omega) (by omega)) (fun b1407 => ?_)
  refine ev_virt5 i238_1408 g238_1408 rfl (by decide +kernel) (Nat.le_of_ble_eq_true rfl) (m_shift n2 (zI_r _) (zI_r _) (zI_r _) (zI_r _) (zI_r _) (fun V u2 g2 => ?_))
  refine ev_icmpeq i238_1411 (fun _ => ?_) (fun q => absurd rfl q)
  have hX2 : XR I U sw B f (g_shS s (xf (i + 1).toNat).toInt (xf (i + 2).toNat).toInt (xf (i + 3).toNat).toInt (xf (i + 4).toNat).toInt (xf (i + 5).toNat).toInt) c t b w e im := ⟨x1, g1, x3, x4, x5, x6, x7, x8⟩
  have hM2 : MR I V B f (g_shS s (xf (i + 1).toNat).toInt (xf (i + 2).toNat).toInt (xf (i + 3).toNat).toInt (xf (i + 4).toNat).toInt (xf (i + 5).toNat).toInt) c t b w e im := ⟨n1, g2, n3, n4, n5, n6, n7, n8⟩
  have hP2 : PR f (g_shS s (xf (i + 1).toNat).toInt (xf (i + 2).toNat).toInt (xf (i + 3).toNat).toInt (xf (i + 4).toNat).toInt (xf (i + 5).toNat).toInt) c b w := ⟨p1, p2.shift (fun q q0 q1 => (m2.2.1 q q0 q1).2.2), p3, p4.shift, p5⟩
  have hX3 : XR I V sw B f (g_shS s (xf (i + 1).toNat).toInt (xf (i + 2).toNat).toInt (xf (i + 3).toNat).toInt (xf (i + 4).toNat).toInt (xf (i + 5).toNat).toInt) c t b w e im := hX2.co (fun _ _ => rfl) (fun a a0 => fr_row u2 (fun k => by omega))
  refine ew_iinc_3 i238_1472 rfl ?_
  refine ev_goto i238_1475 ?_
  exact hK _ _ _ _ _ _ _ _ _ _ _ hX3.up hM2.up hP2
theorem D_taken (hX : XR I L sw B f s c t b w e im) (hM : MR I L B f s c t b w e im) (hP : PR f s c b w) (hB : 0 ≤ B ∧ B ≤ 512) (hn : n ≤ 3072) (hi : 0 ≤ i ∧ i + 6 ≤ n) (hK : ∀ (J : Nat → Nat → Int32) (M : Nat → Nat → Int64) (sw : Bool) (f : ts_Fl) (s : ts_Sh) (c : ts_Ch) (t : ts_Ta) (b : ts_Bo) (w : ts_Lw) (e : ts_De) (im : ts_Im), XR J M sw (B + 1) f s c t b w e im → MR J M (B + 1) f s c t b w e im → PR f s c b w → ts_Ev (n, xf) (tsC n xf d) 238 [] K 18 [.ref 1000, .ref 1, .ref 72, .int (zI (i + 6))] [] (J, M, ts_P0 sw, ts_S0)) : ts_Ev (n, xf) (tsC n xf d) 238 [] K 1416 [.ref 1000, .ref 1, .ref 72, .int (zI (i))] [] (I, L, ts_P0 sw, ts_S0) := by
  obtain ⟨x1, x2, x3, x4, x5, x6, x7, x8⟩ := hX
  have hM0 := hM
  obtain ⟨m1, m2, m3, m4, m5, m6, m7, m8⟩ := hM
  obtain ⟨p1, p2, p3, p4, p5⟩ := hP
  refine ev_aloadn_1 i238_1416 ?_
  refine ev_aloadn_0 i238_1417 ?_
  refine ev_iloadn_3 i238_1418 ?_
  refine ew_iconst i238_1419 ?_
  refine ew_iadd i238_1420 ?_
  refine ew_iaload i238_1421 rfl (by omega) (by omega) (by omega) (by first | exact rd_any _ | exact hX.men | exact hX.told | exact hX.road | exact hX.tone _ (by omega) (by omega) | exact hX.corn _ (by omega) (by omega) | exact hX.stand _ (by omega) (by omega) | exact hX.reach _ (by omega) (by omega) | exact hX.arm _ (by omega) (by omega) | exact hX.late _ (by omega) (by omega) | exact hX.len _ (by omega) (by omega) | exact hX.say (by omega) (by omega) _ (by omega) (by omega)) (fun b1421 => ?_)
  refine ev_aloadn_0 i238_1422 ?_
  refine ev_iloadn_3 i238_1423 ?_
  refine ew_iconst i238_1424 ?_
  refine ew_iadd i238_1425 ?_
  refine ew_iaload i238_1426 rfl (by omega) (by omega) (by omega) (by first | exact rd_any _ | exact hX.men | exact hX.told | exact hX.road | exact hX.tone _ (by omega) (by omega) | exact hX.corn _ (by omega) (by omega) | exact hX.stand _ (by omega) (by omega) | exact hX.reach _ (by omega) (by omega) | exact hX.arm _ (by omega) (by omega) | exact hX.late _ (by omega) (by omega) | exact hX.len _ (by omega) (by omega) | exact hX.say (by omega) (by omega) _ (by omega) (by omega)) (fun b1426 => ?_)
  refine ev_virt2 i238_1427 g238_1427 rfl (by decide +kernel) (Nat.le_of_ble_eq_true rfl) (x_taken x2 x5 p4 (zI_r _) (zI_r _) ?_)
  refine ev_aloadn_2 i238_1430 ?_
  refine ev_aloadn_0 i238_1431 ?_
  refine ev_iloadn_3 i238_1432 ?_
  refine ew_iconst i238_1433 ?_
  refine ew_iadd i238_1434 ?_
  refine ew_iaload i238_1435 rfl (by omega) (by omega) (by omega) (by first | exact rd_any _ | exact hX.men | exact hX.told | exact hX.road | exact hX.tone _ (by omega) (by omega) | exact hX.corn _ (by omega) (by omega) | exact hX.stand _ (by omega) (by omega) | exact hX.reach _ (by omega) (by omega) | exact hX.arm _ (by omega) (by omega) | exact hX.late _ (by omega) (by omega) | exact hX.len _ (by omega) (by omega) | exact hX.say (by omega) (by omega) _ (by omega) (by omega)) (fun b1435 => ?_)
  refine ev_aloadn_0 i238_1436 ?_
  refine ev_iloadn_3 i238_1437 ?_
  refine ew_iconst i238_1438 ?_
  refine ew_iadd i238_1439 ?_
  refine ew_iaload i238_1440 rfl (by omega) (by omega) (by omega) (by first | exact rd_any _ | exact hX.men | exact hX.told | exact hX.road | exact hX.tone _ (by omega) (by omega) | exact hX.corn _ (by omega) (by omega) | exact hX.stand _ (by omega) (by omega) | exact hX.reach _ (by omega) (by omega) | exact hX.arm _ (by omega) (by omega) | exact hX.late _ (by omega) (by omega) | exact hX.len _ (by omega) (by omega) | exact hX.say (by omega) (by omega) _ (by omega) (by omega)) (fun b1440 => ?_)
  refine ev_virt2 i238_1441 g238_1441 rfl (by decide +kernel) (Nat.le_of_ble_eq_true rfl) (m_taken m2 m5 p4 (zI_r _) (zI_r _) ?_)
  refine ev_icmpeq i238_1444 (fun _ => ?_) (fun q => absurd rfl q)
  refine ew_iinc_3 i238_1472 rfl ?_
  refine ev_goto i238_1475 ?_
  exact hK _ _ _ _ _ _ _ _ _ _ _ (XR.up ⟨x1, x2, x3, x4, x5, x6, x7, x8⟩) hM0.up ⟨p1, p2, p3, p4, p5⟩
theorem D_count (hX : XR I L sw B f s c t b w e im) (hM : MR I L B f s c t b w e im) (hP : PR f s c b w) (hB : 0 ≤ B ∧ B ≤ 512) (hn : n ≤ 3072) (hi : 0 ≤ i ∧ i + 6 ≤ n) (hK : ∀ (J : Nat → Nat → Int32) (M : Nat → Nat → Int64) (sw : Bool) (f : ts_Fl) (s : ts_Sh) (c : ts_Ch) (t : ts_Ta) (b : ts_Bo) (w : ts_Lw) (e : ts_De) (im : ts_Im), XR J M sw (B + 1) f s c t b w e im → MR J M (B + 1) f s c t b w e im → PR f s c b w → ts_Ev (n, xf) (tsC n xf d) 238 [] K 18 [.ref 1000, .ref 1, .ref 72, .int (zI (i + 6))] [] (J, M, ts_P0 sw, ts_S0)) : ts_Ev (n, xf) (tsC n xf d) 238 [] K 1449 [.ref 1000, .ref 1, .ref 72, .int (zI (i))] [] (I, L, ts_P0 sw, ts_S0) := by
  obtain ⟨x1, x2, x3, x4, x5, x6, x7, x8⟩ := hX
  have hM0 := hM
  obtain ⟨m1, m2, m3, m4, m5, m6, m7, m8⟩ := hM
  obtain ⟨p1, p2, p3, p4, p5⟩ := hP
  refine ev_aloadn_1 i238_1449 ?_
  refine ev_aloadn_0 i238_1450 ?_
  refine ev_iloadn_3 i238_1451 ?_
  refine ew_iconst i238_1452 ?_
  refine ew_iadd i238_1453 ?_
  refine ew_iaload i238_1454 rfl (by omega) (by omega) (by omega) (by first | exact rd_any _ | exact hX.men | exact hX.told | exact hX.road | exact hX.tone _ (by omega) (by omega) | exact hX.corn _ (by omega) (by omega) | exact hX.stand _ (by omega) (by omega) | exact hX.reach _ (by omega) (by omega) | exact hX.arm _ (by omega) (by omega) | exact hX.late _ (by omega) (by omega) | exact hX.len _ (by omega) (by omega) | exact hX.say (by omega) (by omega) _ (by omega) (by omega)) (fun b1454 => ?_)
  refine ev_virt1 i238_1455 g238_1455 rfl (by decide +kernel) (Nat.le_of_ble_eq_true rfl) (x_count x1 x4 x3 x5 (zI_r _) ?_)
  refine ev_aloadn_2 i238_1458 ?_
  refine ev_aloadn_0 i238_1459 ?_
  refine ev_iloadn_3 i238_1460 ?_
  refine ew_iconst i238_1461 ?_
  refine ew_iadd i238_1462 ?_
  refine ew_iaload i238_1463 rfl (by omega) (by omega) (by omega) (by first | exact rd_any _ | exact hX.men | exact hX.told | exact hX.road | exact hX.tone _ (by omega) (by omega) | exact hX.corn _ (by omega) (by omega) | exact hX.stand _ (by omega) (by omega) | exact hX.reach _ (by omega) (by omega) | exact hX.arm _ (by omega) (by omega) | exact hX.late _ (by omega) (by omega) | exact hX.len _ (by omega) (by omega) | exact hX.say (by omega) (by omega) _ (by omega) (by omega)) (fun b1463 => ?_)
  refine ev_virt1 i238_1464 g238_1464 rfl (by decide +kernel) (Nat.le_of_ble_eq_true rfl) (m_count m1 m4 m3 m5 (zI_r _) ?_)
  refine ev_icmpeq i238_1467 (fun _ => ?_) (fun q => absurd rfl q)
  refine ew_iinc_3 i238_1472 rfl ?_
  refine ev_goto i238_1475 ?_
  exact hK _ _ _ _ _ _ _ _ _ _ _ (XR.up ⟨x1, x2, x3, x4, x5, x6, x7, x8⟩) hM0.up ⟨p1, p2, p3, p4, p5⟩
theorem D_law (hX : XR I L sw B f s c t b w e im) (hM : MR I L B f s c t b w e im) (hP : PR f s c b w) (hB : 0 ≤ B ∧ B ≤ 512) (hn : n ≤ 3072) (hi : 0 ≤ i ∧ i + 6 ≤ n) (hK : ∀ (J : Nat → Nat → Int32) (M : Nat → Nat → Int64) (sw : Bool) (f : ts_Fl) (s : ts_Sh) (c : ts_Ch) (t : ts_Ta) (b : ts_Bo) (w : ts_Lw) (e : ts_De) (im : ts_Im), XR J M sw (B + 1) f s c t b w e im → MR J M (B + 1) f s c t b w e im → PR f s c b w → ts_Ev (n, xf) (tsC n xf d) 238 [] K 18 [.ref 1000, .ref 1, .ref 72, .int (zI (i + 6))] [] (J, M, ts_P0 sw, ts_S0)) : ts_Ev (n, xf) (tsC n xf d) 238 [] K 385 [.ref 1000, .ref 1, .ref 72, .int (zI (i))] [] (I, L, ts_P0 sw, ts_S0) := by
  obtain ⟨x1, x2, x3, x4, x5, x6, x7, x8⟩ := hX
  have hM0 := hM
  obtain ⟨m1, m2, m3, m4, m5, m6, m7, m8⟩ := hM
  obtain ⟨p1, p2, p3, p4, p5⟩ := hP
  rcases law_both t x4.1.2 with ⟨v, hv, hx, hm⟩ | ⟨q, hq, hx, hm⟩
  · refine ev_aloadn_1 i238_385 ?_
    refine ev_virt0 i238_386 g238_386 rfl (by decide +kernel) (Nat.le_of_ble_eq_true rfl) (hx (n, xf) (d + 19) _ _ _ _ x4 (fun J h1 g1 g3 => ?_))
    obtain ⟨n1, n2, n3, n4, n5, n6, n7, n8⟩ := hM0.co (fun a a0 => fr_row h1 (fun k => by omega)) (fun _ _ => rfl)
    refine ev_aloadn_2 i238_389 ?_
    refine ev_virt0 i238_390 g238_390 rfl (by decide +kernel) (Nat.le_of_ble_eq_true rfl) (hm (n, xf) (d + 19) _ _ _ _ n4 (fun N h2 g2 g4 => ?_))
    refine ev_icmpeq i238_393 (fun _ => ?_) (fun q => absurd rfl q)
    have hX2 : XR J L (!sw) B f s c (0, t.2) b (1, v) e im := ⟨x1.noLaw h1, x2.co (fun a a0 a1 => ⟨fr_row h1 (fun k => by omega), rfl⟩), x3.co (fun a k a0 a1 => h1 a k (by omega)), g1, x5.co (h1 56 2 (by omega)) (h1 56 3 (by omega)) (fr_row h1 (fun k => by omega)) (fr_row h1 (fun k => by omega)), g3, x7.co (fun a a0 a1 => fr_row h1 (fun k => by omega)), x8.co (h1 1 9 (by omega)) (fun a a0 a1 => fr_row h1 (fun k => by omega))⟩
    have hM2 : MR N L B f s c (0, t.2) b (1, v) e im := ⟨n1.co72 (fr_row h2 (fun k => by omega)) (fr_row h2 (fun k => by omega)) (h2 72 6 (by omega)) (h2 72 7 (by omega)), n2.co (fun a a0 a1 => ⟨fr_row h2 (fun k => by omega), rfl⟩), n3.co (fun a a0 a1 => fr_row h2 (fun k => by omega)) (h2 72 4 (by omega)) (h2 72 5 (by omega)), g2, n5.co (h2 72 32 (by omega)) (h2 72 35 (by omega)) (fr_row h2 (fun k => by omega)) (fr_row h2 (fun k => by omega)), g4, n7.co (fun a a0 a1 => fr_row h2 (fun k => by omega)), n8.co (h2 72 28 (by omega)) (fun a a0 a1 => fr_row h2 (fun k => by omega))⟩
    have hP2 : PR f s c b (1, v) := ⟨p1, p2, p3, p4, hv⟩
    have hX3 : XR N L (!sw) B f s c (0, t.2) b (1, v) e im := hX2.co (fun a a0 => fr_row h2 (fun k => by omega)) (fun _ _ => rfl)
    refine ew_iinc_3 i238_1472 rfl ?_
    refine ev_goto i238_1475 ?_
    exact hK _ _ _ _ _ _ _ _ _ _ _ hX3.up hM2.up hP2
  · refine ev_aloadn_1 i238_385 ?_
    refine ev_virt0 i238_386 g238_386 rfl (by decide +kernel) (Nat.le_of_ble_eq_true rfl) (hx (n, xf) (d + 19) _ _ _ w _ x4 x6 (fun J h1 g1 g3 => ?_))
    obtain ⟨n1, n2, n3, n4, n5, n6, n7, n8⟩ := hM0.co (fun a a0 => fr_row h1 (fun k => by omega)) (fun _ _ => rfl)
    refine ev_aloadn_2 i238_389 ?_
    refine ev_virt0 i238_390 g238_390 rfl (by decide +kernel) (Nat.le_of_ble_eq_true rfl) (hm (n, xf) (d + 19) _ _ _ w _ n4 n6 (fun N h2 g2 g4 => ?_))
    refine ev_icmpeq i238_393 (fun _ => ?_) (fun q => absurd rfl q)
    have hX2 : XR J L sw B f s c (0, t.2) b w e im := ⟨x1.noLaw h1, x2.co (fun a a0 a1 => ⟨fr_row h1 (fun k => by omega), rfl⟩), x3.co (fun a k a0 a1 => h1 a k (by omega)), g1, x5.co (h1 56 2 (by omega)) (h1 56 3 (by omega)) (fr_row h1 (fun k => by omega)) (fr_row h1 (fun k => by omega)), g3, x7.co (fun a a0 a1 => fr_row h1 (fun k => by omega)), x8.co (h1 1 9 (by omega)) (fun a a0 a1 => fr_row h1 (fun k => by omega))⟩
    have hM2 : MR N L B f s c (0, t.2) b w e im := ⟨n1.co72 (fr_row h2 (fun k => by omega)) (fr_row h2 (fun k => by omega)) (h2 72 6 (by omega)) (h2 72 7 (by omega)), n2.co (fun a a0 a1 => ⟨fr_row h2 (fun k => by omega), rfl⟩), n3.co (fun a a0 a1 => fr_row h2 (fun k => by omega)) (h2 72 4 (by omega)) (h2 72 5 (by omega)), g2, n5.co (h2 72 32 (by omega)) (h2 72 35 (by omega)) (fr_row h2 (fun k => by omega)) (fr_row h2 (fun k => by omega)), g4, n7.co (fun a a0 a1 => fr_row h2 (fun k => by omega)), n8.co (h2 72 28 (by omega)) (fun a a0 a1 => fr_row h2 (fun k => by omega))⟩
    have hP2 : PR f s c b w := ⟨p1, p2, p3, p4, p5⟩
    have hX3 : XR N L sw B f s c (0, t.2) b w e im := hX2.co (fun a a0 => fr_row h2 (fun k => by omega)) (fun _ _ => rfl)
    refine ew_iinc_3 i238_1472 rfl ?_
    refine ev_goto i238_1475 ?_
    exact hK _ _ _ _ _ _ _ _ _ _ _ hX3.up hM2.up hP2
end DR
