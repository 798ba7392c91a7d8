/-- J6_bitCount_0f7a4 -/
def zm_0 : zC := (cJ6_bitCount_0f7a4, 1, zc_0, (zfl_RJ6, zwl_RJ6), (zk1_RJ6, zk2_RJ6, []), [], [], [])
/-- X0_clear -/
def zm_283 : zC := (cX0_clear, 2, zc_283, (zfl_RX0, zwl_RX0), (zk1_RX0, zk2_RX0, []), [], [(2, ([(0, 0), (0, 0), (0, 7)], [(0, (2, 0, 0)), (1, (0, 2, 0))], [], [], []), 7, [0, 0, (-1)])], [])
/-- X0_exists -/
def zm_287 : zC := (cX0_exists, 1, zc_287, (zfl_RX0, zwl_RX0), (zk1_RX0, zk2_RX0, []), [], [], [])
/-- X0_forgetStrangers -/
def zm_291 : zC := (cX0_forgetStrangers, 2, zc_291, (zfl_RX0, zwl_RX0), (zk1_RX0, zk2_RX0, []), [], [(2, ([(0, 0), (0, 0), (0, 7)], [(0, (2, 0, 0)), (1, (0, 2, 0))], [], [], []), 7, [0, 0, (-1)])], [])
/-- X0_hours -/
def zm_298 : zC := (cX0_hours, 1, zc_298, (zfl_RX0, zwl_RX0), (zk1_RX0, zk2_RX0, []), [], [], [])
/-- X0_isPerson -/
def zm_303 : zC := (cX0_isPerson, 3, zc_303, (zfl_RX0, zwl_RX0), (zk1_RX0, zk2_RX0, []), [], [], [])
/-- X0_placeOf -/
def zm_312 : zC := (cX0_placeOf, 3, zc_312, (zfl_RX0, zwl_RX0), (zk1_RX0, zk2_RX0, []), [], [], [])
/-- X0_places -/
def zm_313 : zC := (cX0_places, 1, zc_313, (zfl_RX0, zwl_RX0), (zk1_RX0, zk2_RX0, []), [], [], [])
/-- X0_seenBits -/
def zm_316 : zC := (cX0_seenBits, 3, zc_316, (zfl_RX0, zwl_RX0), (zk1_RX0, zk2_RX0, []), [], [], [])
/-- X0_send -/
def zm_320 : zC := (cX0_send, 4, zc_320, (zfl_RX0, zwl_RX0), (zk1_RX0, zk2_RX0, []), [], [], [])
/-- X0_swapOaths -/
def zm_322 : zC := (cX0_swapOaths, 4, zc_322, (zfl_RX0, zwl_RX0), (zk1_RX0, zk2_RX0, []), [], [], [])
/-- X0_swearersOf -/
def zm_324 : zC := (cX0_swearersOf, 4, zc_324, (zfl_RX0, zwl_RX0), (zk1_RX0, zk2_RX0, []), [], [(4, ([(0, 0), (0, 0), (0, 6), ((-2147483648), 2147483647), (0, 7)], [(0, (2, 0, 0)), (1, (0, 2, 0)), (2, (0, 3, 0)), (3, (0, 4, 0))], [], [], []), 7, [0, 0, 0, 0, (-1)])], [])
/-- X1_keepBetter -/
def zm_330 : zC := (cX1_keepBetter, 4, zc_330, (zfl_RX1, zwl_RX1), (zk1_RX1, zk2_RX1, []), [], [], [])
/-- X2_expect -/
def zm_343 : zC := (cX2_expect, 4, zc_343, (zfl_RX2, zwl_RX2), (zk1_RX2, zk2_RX2, []), [], [], [])
/-- X2_expectNothing -/
def zm_344 : zC := (cX2_expectNothing, 2, zc_344, (zfl_RX2, zwl_RX2), (zk1_RX2, zk2_RX2, []), [], [(2, ([(0, 0), (0, 0), (0, 7)], [(0, (4, 0, 0)), (1, (0, 2, 0))], [], [], []), 7, [0, 0, (-1)])], [])
/-- X2_isAsExpected -/
def zm_348 : zC := (cX2_isAsExpected, 3, zc_348, (zfl_RX2, zwl_RX2), (zk1_RX2, zk2_RX2, []), [], [], [])
/-- X3_cut -/
def zm_351 : zC := (cX3_cut, 3, zc_351, (zfl_RX3, zwl_RX3), (zk1_RX3, zk2_RX3, []), [], [], [])
/-- X3_hasRow -/
def zm_352 : zC := (cX3_hasRow, 2, zc_352, (zfl_RX3, zwl_RX3), (zk1_RX3, zk2_RX3, []), [], [], [])
/-- X3_hasRow -/
def zm_353 : zC := (cX3_hasRow, 2, zc_353, (zfl_RX3, zwl_RX3), (zk1_RX3, zk2_RX3, []), [], [], [])
/-- X3_hasRow -/
def zm_354 : zC := (cX3_hasRow, 2, zc_354, (zfl_RX3, zwl_RX3), (zk1_RX3, zk2_RX3, []), [], [], [])
/-- X3_hasRow -/
def zm_355 : zC := (cX3_hasRow, 2, zc_355, (zfl_RX3, zwl_RX3), (zk1_RX3, zk2_RX3, []), [], [], [])
/-- X3_hasRow -/
def zm_356 : zC := (cX3_hasRow, 2, zc_356, (zfl_RX3, zwl_RX3), (zk1_RX3, zk2_RX3, []), [], [], [])
/-- X3_isSlot -/
def zm_357 : zC := (cX3_isSlot, 2, zc_357, (zfl_RX3, zwl_RX3), (zk1_RX3, zk2_RX3, []), [], [], [])
/-- X3_lay -/
def zm_358 : zC := (cX3_lay, 5, zc_358, (zfl_RX3, zwl_RX3), (zk1_RX3, zk2_RX3, []), [], [(24, ([(0, 0), (0, 0), (0, 3), (0, 3), (0, 60), (0, 60)], [(0, (5, 0, 0)), (1, (0, 2, 0)), (2, (0, 3, 0)), (3, (0, 4, 0)), (4, (0, 5, 0))], [], [], []), 60, [0, 0, 0, 0, 0, (-1)])], [])
/-- X3_manyRows -/
def zm_359 : zC := (cX3_manyRows, 3, zc_359, (zfl_RX3, zwl_RX3), (zk1_RX3, zk2_RX3, []), [], [(4, ([(0, 0), (0, 0), ((-2147483648), 2147483647), (0, 4)], [(0, (5, 0, 0)), (1, (0, 2, 0)), (2, (0, 3, 0))], [], [], []), 4, [0, 0, 0, (-1)])], [])
/-- X3_number -/
def zm_360 : zC := (cX3_number, 3, zc_360, (zfl_RX3, zwl_RX3), (zk1_RX3, zk2_RX3, []), [], [], [])
/-- X3_number -/
def zm_361 : zC := (cX3_number, 3, zc_361, (zfl_RX3, zwl_RX3), (zk1_RX3, zk2_RX3, []), [], [], [])
/-- X3_number -/
def zm_362 : zC := (cX3_number, 3, zc_362, (zfl_RX3, zwl_RX3), (zk1_RX3, zk2_RX3, []), [], [], [])
/-- X3_number -/
def zm_363 : zC := (cX3_number, 3, zc_363, (zfl_RX3, zwl_RX3), (zk1_RX3, zk2_RX3, []), [], [], [])
/-- X3_number -/
def zm_364 : zC := (cX3_number, 3, zc_364, (zfl_RX3, zwl_RX3), (zk1_RX3, zk2_RX3, []), [], [], [])
/-- X3_number -/
def zm_365 : zC := (cX3_number, 3, zc_365, (zfl_RX3, zwl_RX3), (zk1_RX3, zk2_RX3, []), [], [], [])
/-- X3_number -/
def zm_366 : zC := (cX3_number, 3, zc_366, (zfl_RX3, zwl_RX3), (zk1_RX3, zk2_RX3, []), [], [], [])
/-- X3_number -/
def zm_367 : zC := (cX3_number, 3, zc_367, (zfl_RX3, zwl_RX3), (zk1_RX3, zk2_RX3, []), [], [], [])
/-- X3_number -/
def zm_368 : zC := (cX3_number, 3, zc_368, (zfl_RX3, zwl_RX3), (zk1_RX3, zk2_RX3, []), [], [], [])
/-- X3_number -/
def zm_369 : zC := (cX3_number, 3, zc_369, (zfl_RX3, zwl_RX3), (zk1_RX3, zk2_RX3, []), [], [], [])
/-- X3_number -/
def zm_370 : zC := (cX3_number, 3, zc_370, (zfl_RX3, zwl_RX3), (zk1_RX3, zk2_RX3, []), [], [], [])
/-- X3_number -/
def zm_371 : zC := (cX3_number, 3, zc_371, (zfl_RX3, zwl_RX3), (zk1_RX3, zk2_RX3, []), [], [], [])
/-- X3_number -/
def zm_372 : zC := (cX3_number, 3, zc_372, (zfl_RX3, zwl_RX3), (zk1_RX3, zk2_RX3, []), [], [], [])
/-- X3_number -/
def zm_373 : zC := (cX3_number, 3, zc_373, (zfl_RX3, zwl_RX3), (zk1_RX3, zk2_RX3, []), [], [], [])
/-- X3_number -/
def zm_374 : zC := (cX3_number, 3, zc_374, (zfl_RX3, zwl_RX3), (zk1_RX3, zk2_RX3, []), [], [], [])
/-- X3_number -/
def zm_375 : zC := (cX3_number, 3, zc_375, (zfl_RX3, zwl_RX3), (zk1_RX3, zk2_RX3, []), [], [], [])
/-- X3_number -/
def zm_376 : zC := (cX3_number, 3, zc_376, (zfl_RX3, zwl_RX3), (zk1_RX3, zk2_RX3, []), [], [], [])
/-- X3_number -/
def zm_377 : zC := (cX3_number, 3, zc_377, (zfl_RX3, zwl_RX3), (zk1_RX3, zk2_RX3, []), [], [], [])
/-- X3_number -/
def zm_378 : zC := (cX3_number, 3, zc_378, (zfl_RX3, zwl_RX3), (zk1_RX3, zk2_RX3, []), [], [], [])
/-- X3_number -/
def zm_379 : zC := (cX3_number, 3, zc_379, (zfl_RX3, zwl_RX3), (zk1_RX3, zk2_RX3, []), [], [], [])
/-- X3_number -/
def zm_380 : zC := (cX3_number, 3, zc_380, (zfl_RX3, zwl_RX3), (zk1_RX3, zk2_RX3, []), [], [], [])
/-- X3_number -/
def zm_381 : zC := (cX3_number, 3, zc_381, (zfl_RX3, zwl_RX3), (zk1_RX3, zk2_RX3, []), [], [], [])
/-- X3_number -/
def zm_382 : zC := (cX3_number, 3, zc_382, (zfl_RX3, zwl_RX3), (zk1_RX3, zk2_RX3, []), [], [], [])
/-- X3_number -/
def zm_383 : zC := (cX3_number, 3, zc_383, (zfl_RX3, zwl_RX3), (zk1_RX3, zk2_RX3, []), [], [], [])
/-- X3_number -/
def zm_384 : zC := (cX3_number, 3, zc_384, (zfl_RX3, zwl_RX3), (zk1_RX3, zk2_RX3, []), [], [], [])
/-- X3_number -/
def zm_385 : zC := (cX3_number, 3, zc_385, (zfl_RX3, zwl_RX3), (zk1_RX3, zk2_RX3, []), [], [], [])
/-- X3_number -/
def zm_386 : zC := (cX3_number, 3, zc_386, (zfl_RX3, zwl_RX3), (zk1_RX3, zk2_RX3, []), [], [], [])
/-- X3_number -/
def zm_387 : zC := (cX3_number, 3, zc_387, (zfl_RX3, zwl_RX3), (zk1_RX3, zk2_RX3, []), [], [], [])
/-- X3_number -/
def zm_388 : zC := (cX3_number, 3, zc_388, (zfl_RX3, zwl_RX3), (zk1_RX3, zk2_RX3, []), [], [], [])
/-- X3_number -/
def zm_389 : zC := (cX3_number, 3, zc_389, (zfl_RX3, zwl_RX3), (zk1_RX3, zk2_RX3, []), [], [], [])
/-- X3_number -/
def zm_390 : zC := (cX3_number, 3, zc_390, (zfl_RX3, zwl_RX3), (zk1_RX3, zk2_RX3, []), [], [], [])
/-- X3_number -/
def zm_391 : zC := (cX3_number, 3, zc_391, (zfl_RX3, zwl_RX3), (zk1_RX3, zk2_RX3, []), [], [], [])
/-- X3_number -/
def zm_392 : zC := (cX3_number, 3, zc_392, (zfl_RX3, zwl_RX3), (zk1_RX3, zk2_RX3, []), [], [], [])
/-- X3_number -/
def zm_393 : zC := (cX3_number, 3, zc_393, (zfl_RX3, zwl_RX3), (zk1_RX3, zk2_RX3, []), [], [], [])
/-- X3_number -/
def zm_394 : zC := (cX3_number, 3, zc_394, (zfl_RX3, zwl_RX3), (zk1_RX3, zk2_RX3, []), [], [], [])
/-- X3_number -/
def zm_395 : zC := (cX3_number, 3, zc_395, (zfl_RX3, zwl_RX3), (zk1_RX3, zk2_RX3, []), [], [], [])
/-- X3_number -/
def zm_396 : zC := (cX3_number, 3, zc_396, (zfl_RX3, zwl_RX3), (zk1_RX3, zk2_RX3, []), [], [], [])
/-- X3_number -/
def zm_397 : zC := (cX3_number, 3, zc_397, (zfl_RX3, zwl_RX3), (zk1_RX3, zk2_RX3, []), [], [], [])
/-- X3_number -/
def zm_398 : zC := (cX3_number, 3, zc_398, (zfl_RX3, zwl_RX3), (zk1_RX3, zk2_RX3, []), [], [], [])
/-- X3_number -/
def zm_399 : zC := (cX3_number, 3, zc_399, (zfl_RX3, zwl_RX3), (zk1_RX3, zk2_RX3, []), [], [], [])
/-- X3_number -/
def zm_400 : zC := (cX3_number, 3, zc_400, (zfl_RX3, zwl_RX3), (zk1_RX3, zk2_RX3, []), [], [], [])
/-- X3_number -/
def zm_401 : zC := (cX3_number, 3, zc_401, (zfl_RX3, zwl_RX3), (zk1_RX3, zk2_RX3, []), [], [], [])
/-- X3_number -/
def zm_402 : zC := (cX3_number, 3, zc_402, (zfl_RX3, zwl_RX3), (zk1_RX3, zk2_RX3, []), [], [], [])
/-- X3_number -/
def zm_403 : zC := (cX3_number, 3, zc_403, (zfl_RX3, zwl_RX3), (zk1_RX3, zk2_RX3, []), [], [], [])
/-- X3_number -/
def zm_404 : zC := (cX3_number, 3, zc_404, (zfl_RX3, zwl_RX3), (zk1_RX3, zk2_RX3, []), [], [], [])
/-- X3_number -/
def zm_405 : zC := (cX3_number, 3, zc_405, (zfl_RX3, zwl_RX3), (zk1_RX3, zk2_RX3, []), [], [], [])
/-- X3_number -/
def zm_406 : zC := (cX3_number, 3, zc_406, (zfl_RX3, zwl_RX3), (zk1_RX3, zk2_RX3, []), [], [], [])
/-- X3_number -/
def zm_407 : zC := (cX3_number, 3, zc_407, (zfl_RX3, zwl_RX3), (zk1_RX3, zk2_RX3, []), [], [], [])
/-- X3_number -/
def zm_408 : zC := (cX3_number, 3, zc_408, (zfl_RX3, zwl_RX3), (zk1_RX3, zk2_RX3, []), [], [], [])
/-- X3_number -/
def zm_409 : zC := (cX3_number, 3, zc_409, (zfl_RX3, zwl_RX3), (zk1_RX3, zk2_RX3, []), [], [], [])
/-- X3_number -/
def zm_410 : zC := (cX3_number, 3, zc_410, (zfl_RX3, zwl_RX3), (zk1_RX3, zk2_RX3, []), [], [], [])
/-- X3_number -/
def zm_411 : zC := (cX3_number, 3, zc_411, (zfl_RX3, zwl_RX3), (zk1_RX3, zk2_RX3, []), [], [], [])
/-- X3_number -/
def zm_412 : zC := (cX3_number, 3, zc_412, (zfl_RX3, zwl_RX3), (zk1_RX3, zk2_RX3, []), [], [], [])
/-- X3_number -/
def zm_413 : zC := (cX3_number, 3, zc_413, (zfl_RX3, zwl_RX3), (zk1_RX3, zk2_RX3, []), [], [], [])
/-- X3_number -/
def zm_414 : zC := (cX3_number, 3, zc_414, (zfl_RX3, zwl_RX3), (zk1_RX3, zk2_RX3, []), [], [], [])
/-- X3_number -/
def zm_415 : zC := (cX3_number, 3, zc_415, (zfl_RX3, zwl_RX3), (zk1_RX3, zk2_RX3, []), [], [], [])
/-- X3_number -/
def zm_416 : zC := (cX3_number, 3, zc_416, (zfl_RX3, zwl_RX3), (zk1_RX3, zk2_RX3, []), [], [], [])
/-- X3_number -/
def zm_417 : zC := (cX3_number, 3, zc_417, (zfl_RX3, zwl_RX3), (zk1_RX3, zk2_RX3, []), [], [], [])
/-- X3_number -/
def zm_418 : zC := (cX3_number, 3, zc_418, (zfl_RX3, zwl_RX3), (zk1_RX3, zk2_RX3, []), [], [], [])
/-- X3_number -/
def zm_419 : zC := (cX3_number, 3, zc_419, (zfl_RX3, zwl_RX3), (zk1_RX3, zk2_RX3, []), [], [], [])
/-- X3_number -/
def zm_420 : zC := (cX3_number, 3, zc_420, (zfl_RX3, zwl_RX3), (zk1_RX3, zk2_RX3, []), [], [], [])
/-- X3_number -/
def zm_421 : zC := (cX3_number, 3, zc_421, (zfl_RX3, zwl_RX3), (zk1_RX3, zk2_RX3, []), [], [], [])
/-- X3_number -/
def zm_422 : zC := (cX3_number, 3, zc_422, (zfl_RX3, zwl_RX3), (zk1_RX3, zk2_RX3, []), [], [], [])
/-- X3_number -/
def zm_423 : zC := (cX3_number, 3, zc_423, (zfl_RX3, zwl_RX3), (zk1_RX3, zk2_RX3, []), [], [], [])
/-- X3_number -/
def zm_424 : zC := (cX3_number, 3, zc_424, (zfl_RX3, zwl_RX3), (zk1_RX3, zk2_RX3, []), [], [], [])
/-- X3_number -/
def zm_425 : zC := (cX3_number, 3, zc_425, (zfl_RX3, zwl_RX3), (zk1_RX3, zk2_RX3, []), [], [], [])
/-- X3_number -/
def zm_426 : zC := (cX3_number, 3, zc_426, (zfl_RX3, zwl_RX3), (zk1_RX3, zk2_RX3, []), [], [], [])
/-- X3_number -/
def zm_427 : zC := (cX3_number, 3, zc_427, (zfl_RX3, zwl_RX3), (zk1_RX3, zk2_RX3, []), [], [], [])
/-- X3_number -/
def zm_428 : zC := (cX3_number, 3, zc_428, (zfl_RX3, zwl_RX3), (zk1_RX3, zk2_RX3, []), [], [], [])
/-- X3_number -/
def zm_429 : zC := (cX3_number, 3, zc_429, (zfl_RX3, zwl_RX3), (zk1_RX3, zk2_RX3, []), [], [], [])
/-- X3_number -/
def zm_430 : zC := (cX3_number, 3, zc_430, (zfl_RX3, zwl_RX3), (zk1_RX3, zk2_RX3, []), [], [], [])
/-- X3_number -/
def zm_431 : zC := (cX3_number, 3, zc_431, (zfl_RX3, zwl_RX3), (zk1_RX3, zk2_RX3, []), [], [], [])
/-- X3_number -/
def zm_432 : zC := (cX3_number, 3, zc_432, (zfl_RX3, zwl_RX3), (zk1_RX3, zk2_RX3, []), [], [], [])
/-- X3_number -/
def zm_433 : zC := (cX3_number, 3, zc_433, (zfl_RX3, zwl_RX3), (zk1_RX3, zk2_RX3, []), [], [], [])
/-- X3_number -/
def zm_434 : zC := (cX3_number, 3, zc_434, (zfl_RX3, zwl_RX3), (zk1_RX3, zk2_RX3, []), [], [], [])
/-- X3_number -/
def zm_435 : zC := (cX3_number, 3, zc_435, (zfl_RX3, zwl_RX3), (zk1_RX3, zk2_RX3, []), [], [], [])
/-- X3_number -/
def zm_436 : zC := (cX3_number, 3, zc_436, (zfl_RX3, zwl_RX3), (zk1_RX3, zk2_RX3, []), [], [], [])
/-- X3_number -/
def zm_437 : zC := (cX3_number, 3, zc_437, (zfl_RX3, zwl_RX3), (zk1_RX3, zk2_RX3, []), [], [], [])
/-- X3_number -/
def zm_438 : zC := (cX3_number, 3, zc_438, (zfl_RX3, zwl_RX3), (zk1_RX3, zk2_RX3, []), [], [], [])
/-- X3_number -/
def zm_439 : zC := (cX3_number, 3, zc_439, (zfl_RX3, zwl_RX3), (zk1_RX3, zk2_RX3, []), [], [], [])
/-- X3_number -/
def zm_440 : zC := (cX3_number, 3, zc_440, (zfl_RX3, zwl_RX3), (zk1_RX3, zk2_RX3, []), [], [], [])
/-- X3_number -/
def zm_441 : zC := (cX3_number, 3, zc_441, (zfl_RX3, zwl_RX3), (zk1_RX3, zk2_RX3, []), [], [], [])
/-- X3_number -/
def zm_442 : zC := (cX3_number, 3, zc_442, (zfl_RX3, zwl_RX3), (zk1_RX3, zk2_RX3, []), [], [], [])
/-- X3_number -/
def zm_443 : zC := (cX3_number, 3, zc_443, (zfl_RX3, zwl_RX3), (zk1_RX3, zk2_RX3, []), [], [], [])
/-- X3_number -/
def zm_444 : zC := (cX3_number, 3, zc_444, (zfl_RX3, zwl_RX3), (zk1_RX3, zk2_RX3, []), [], [], [])
/-- X3_number -/
def zm_445 : zC := (cX3_number, 3, zc_445, (zfl_RX3, zwl_RX3), (zk1_RX3, zk2_RX3, []), [], [], [])
/-- X3_number -/
def zm_446 : zC := (cX3_number, 3, zc_446, (zfl_RX3, zwl_RX3), (zk1_RX3, zk2_RX3, []), [], [], [])
/-- X3_number -/
def zm_447 : zC := (cX3_number, 3, zc_447, (zfl_RX3, zwl_RX3), (zk1_RX3, zk2_RX3, []), [], [], [])
/-- X3_number -/
def zm_448 : zC := (cX3_number, 3, zc_448, (zfl_RX3, zwl_RX3), (zk1_RX3, zk2_RX3, []), [], [], [])
/-- X3_number -/
def zm_449 : zC := (cX3_number, 3, zc_449, (zfl_RX3, zwl_RX3), (zk1_RX3, zk2_RX3, []), [], [], [])
/-- X3_number -/
def zm_450 : zC := (cX3_number, 3, zc_450, (zfl_RX3, zwl_RX3), (zk1_RX3, zk2_RX3, []), [], [], [])
/-- X3_number -/
def zm_451 : zC := (cX3_number, 3, zc_451, (zfl_RX3, zwl_RX3), (zk1_RX3, zk2_RX3, []), [], [], [])
/-- X3_number -/
def zm_452 : zC := (cX3_number, 3, zc_452, (zfl_RX3, zwl_RX3), (zk1_RX3, zk2_RX3, []), [], [], [])
/-- X3_number -/
def zm_453 : zC := (cX3_number, 3, zc_453, (zfl_RX3, zwl_RX3), (zk1_RX3, zk2_RX3, []), [], [], [])
/-- X3_number -/
def zm_454 : zC := (cX3_number, 3, zc_454, (zfl_RX3, zwl_RX3), (zk1_RX3, zk2_RX3, []), [], [], [])
/-- X3_number -/
def zm_455 : zC := (cX3_number, 3, zc_455, (zfl_RX3, zwl_RX3), (zk1_RX3, zk2_RX3, []), [], [], [])
/-- X3_number -/
def zm_456 : zC := (cX3_number, 3, zc_456, (zfl_RX3, zwl_RX3), (zk1_RX3, zk2_RX3, []), [], [], [])
/-- X3_number -/
def zm_457 : zC := (cX3_number, 3, zc_457, (zfl_RX3, zwl_RX3), (zk1_RX3, zk2_RX3, []), [], [], [])
/-- X3_number -/
def zm_458 : zC := (cX3_number, 3, zc_458, (zfl_RX3, zwl_RX3), (zk1_RX3, zk2_RX3, []), [], [], [])
/-- X3_number -/
def zm_459 : zC := (cX3_number, 3, zc_459, (zfl_RX3, zwl_RX3), (zk1_RX3, zk2_RX3, []), [], [], [])
/-- X3_number -/
def zm_460 : zC := (cX3_number, 3, zc_460, (zfl_RX3, zwl_RX3), (zk1_RX3, zk2_RX3, []), [], [], [])
/-- X3_number -/
def zm_461 : zC := (cX3_number, 3, zc_461, (zfl_RX3, zwl_RX3), (zk1_RX3, zk2_RX3, []), [], [], [])
/-- X3_number -/
def zm_462 : zC := (cX3_number, 3, zc_462, (zfl_RX3, zwl_RX3), (zk1_RX3, zk2_RX3, []), [], [], [])
/-- X3_number -/
def zm_463 : zC := (cX3_number, 3, zc_463, (zfl_RX3, zwl_RX3), (zk1_RX3, zk2_RX3, []), [], [], [])
/-- X3_number -/
def zm_464 : zC := (cX3_number, 3, zc_464, (zfl_RX3, zwl_RX3), (zk1_RX3, zk2_RX3, []), [], [], [])
/-- X3_number -/
def zm_465 : zC := (cX3_number, 3, zc_465, (zfl_RX3, zwl_RX3), (zk1_RX3, zk2_RX3, []), [], [], [])
/-- X3_number -/
def zm_466 : zC := (cX3_number, 3, zc_466, (zfl_RX3, zwl_RX3), (zk1_RX3, zk2_RX3, []), [], [], [])
/-- X3_number -/
def zm_467 : zC := (cX3_number, 3, zc_467, (zfl_RX3, zwl_RX3), (zk1_RX3, zk2_RX3, []), [], [], [])
/-- X3_number -/
def zm_468 : zC := (cX3_number, 3, zc_468, (zfl_RX3, zwl_RX3), (zk1_RX3, zk2_RX3, []), [], [], [])
/-- X3_number -/
def zm_469 : zC := (cX3_number, 3, zc_469, (zfl_RX3, zwl_RX3), (zk1_RX3, zk2_RX3, []), [], [], [])
/-- X3_number -/
def zm_470 : zC := (cX3_number, 3, zc_470, (zfl_RX3, zwl_RX3), (zk1_RX3, zk2_RX3, []), [], [], [])
/-- X3_number -/
def zm_471 : zC := (cX3_number, 3, zc_471, (zfl_RX3, zwl_RX3), (zk1_RX3, zk2_RX3, []), [], [], [])
/-- X3_number -/
def zm_472 : zC := (cX3_number, 3, zc_472, (zfl_RX3, zwl_RX3), (zk1_RX3, zk2_RX3, []), [], [], [])
/-- X3_number -/
def zm_473 : zC := (cX3_number, 3, zc_473, (zfl_RX3, zwl_RX3), (zk1_RX3, zk2_RX3, []), [], [], [])
/-- X3_number -/
def zm_474 : zC := (cX3_number, 3, zc_474, (zfl_RX3, zwl_RX3), (zk1_RX3, zk2_RX3, []), [], [], [])
/-- X3_number -/
def zm_475 : zC := (cX3_number, 3, zc_475, (zfl_RX3, zwl_RX3), (zk1_RX3, zk2_RX3, []), [], [], [])
/-- X3_number -/
def zm_476 : zC := (cX3_number, 3, zc_476, (zfl_RX3, zwl_RX3), (zk1_RX3, zk2_RX3, []), [], [], [])
/-- X3_number -/
def zm_477 : zC := (cX3_number, 3, zc_477, (zfl_RX3, zwl_RX3), (zk1_RX3, zk2_RX3, []), [], [], [])
/-- X3_number -/
def zm_478 : zC := (cX3_number, 3, zc_478, (zfl_RX3, zwl_RX3), (zk1_RX3, zk2_RX3, []), [], [], [])
/-- X3_number -/
def zm_479 : zC := (cX3_number, 3, zc_479, (zfl_RX3, zwl_RX3), (zk1_RX3, zk2_RX3, []), [], [], [])
/-- X3_number -/
def zm_480 : zC := (cX3_number, 3, zc_480, (zfl_RX3, zwl_RX3), (zk1_RX3, zk2_RX3, []), [], [], [])
/-- X3_number -/
def zm_481 : zC := (cX3_number, 3, zc_481, (zfl_RX3, zwl_RX3), (zk1_RX3, zk2_RX3, []), [], [], [])
/-- X3_number -/
def zm_482 : zC := (cX3_number, 3, zc_482, (zfl_RX3, zwl_RX3), (zk1_RX3, zk2_RX3, []), [], [], [])
/-- X3_number -/
def zm_483 : zC := (cX3_number, 3, zc_483, (zfl_RX3, zwl_RX3), (zk1_RX3, zk2_RX3, []), [], [], [])
/-- X3_number -/
def zm_484 : zC := (cX3_number, 3, zc_484, (zfl_RX3, zwl_RX3), (zk1_RX3, zk2_RX3, []), [], [], [])
/-- X3_number -/
def zm_485 : zC := (cX3_number, 3, zc_485, (zfl_RX3, zwl_RX3), (zk1_RX3, zk2_RX3, []), [], [], [])
/-- X3_number -/
def zm_486 : zC := (cX3_number, 3, zc_486, (zfl_RX3, zwl_RX3), (zk1_RX3, zk2_RX3, []), [], [], [])
/-- X3_number -/
def zm_487 : zC := (cX3_number, 3, zc_487, (zfl_RX3, zwl_RX3), (zk1_RX3, zk2_RX3, []), [], [], [])
/-- X3_number -/
def zm_488 : zC := (cX3_number, 3, zc_488, (zfl_RX3, zwl_RX3), (zk1_RX3, zk2_RX3, []), [], [], [])
/-- X3_number -/
def zm_489 : zC := (cX3_number, 3, zc_489, (zfl_RX3, zwl_RX3), (zk1_RX3, zk2_RX3, []), [], [], [])
/-- X3_number -/
def zm_490 : zC := (cX3_number, 3, zc_490, (zfl_RX3, zwl_RX3), (zk1_RX3, zk2_RX3, []), [], [], [])
/-- X3_number -/
def zm_491 : zC := (cX3_number, 3, zc_491, (zfl_RX3, zwl_RX3), (zk1_RX3, zk2_RX3, []), [], [], [])
/-- X3_number -/
def zm_492 : zC := (cX3_number, 3, zc_492, (zfl_RX3, zwl_RX3), (zk1_RX3, zk2_RX3, []), [], [], [])
/-- X3_number -/
def zm_493 : zC := (cX3_number, 3, zc_493, (zfl_RX3, zwl_RX3), (zk1_RX3, zk2_RX3, []), [], [], [])
/-- X3_number -/
def zm_494 : zC := (cX3_number, 3, zc_494, (zfl_RX3, zwl_RX3), (zk1_RX3, zk2_RX3, []), [], [], [])
/-- X3_number -/
def zm_495 : zC := (cX3_number, 3, zc_495, (zfl_RX3, zwl_RX3), (zk1_RX3, zk2_RX3, []), [], [], [])
/-- X3_number -/
def zm_496 : zC := (cX3_number, 3, zc_496, (zfl_RX3, zwl_RX3), (zk1_RX3, zk2_RX3, []), [], [], [])
/-- X3_number -/
def zm_497 : zC := (cX3_number, 3, zc_497, (zfl_RX3, zwl_RX3), (zk1_RX3, zk2_RX3, []), [], [], [])
/-- X3_number -/
def zm_498 : zC := (cX3_number, 3, zc_498, (zfl_RX3, zwl_RX3), (zk1_RX3, zk2_RX3, []), [], [], [])
/-- X3_number -/
def zm_499 : zC := (cX3_number, 3, zc_499, (zfl_RX3, zwl_RX3), (zk1_RX3, zk2_RX3, []), [], [], [])
/-- X3_number -/
def zm_500 : zC := (cX3_number, 3, zc_500, (zfl_RX3, zwl_RX3), (zk1_RX3, zk2_RX3, []), [], [], [])
/-- X3_number -/
def zm_501 : zC := (cX3_number, 3, zc_501, (zfl_RX3, zwl_RX3), (zk1_RX3, zk2_RX3, []), [], [], [])
/-- X3_number -/
def zm_502 : zC := (cX3_number, 3, zc_502, (zfl_RX3, zwl_RX3), (zk1_RX3, zk2_RX3, []), [], [], [])
/-- X3_number -/
def zm_503 : zC := (cX3_number, 3, zc_503, (zfl_RX3, zwl_RX3), (zk1_RX3, zk2_RX3, []), [], [], [])
/-- X3_number -/
def zm_504 : zC := (cX3_number, 3, zc_504, (zfl_RX3, zwl_RX3), (zk1_RX3, zk2_RX3, []), [], [], [])
/-- X3_number -/
def zm_505 : zC := (cX3_number, 3, zc_505, (zfl_RX3, zwl_RX3), (zk1_RX3, zk2_RX3, []), [], [], [])
/-- X3_number -/
def zm_506 : zC := (cX3_number, 3, zc_506, (zfl_RX3, zwl_RX3), (zk1_RX3, zk2_RX3, []), [], [], [])
/-- X3_number -/
def zm_507 : zC := (cX3_number, 3, zc_507, (zfl_RX3, zwl_RX3), (zk1_RX3, zk2_RX3, []), [], [], [])
/-- X3_number -/
def zm_508 : zC := (cX3_number, 3, zc_508, (zfl_RX3, zwl_RX3), (zk1_RX3, zk2_RX3, []), [], [], [])
/-- X3_number -/
def zm_509 : zC := (cX3_number, 3, zc_509, (zfl_RX3, zwl_RX3), (zk1_RX3, zk2_RX3, []), [], [], [])
/-- X3_number -/
def zm_510 : zC := (cX3_number, 3, zc_510, (zfl_RX3, zwl_RX3), (zk1_RX3, zk2_RX3, []), [], [], [])
/-- X3_number -/
def zm_511 : zC := (cX3_number, 3, zc_511, (zfl_RX3, zwl_RX3), (zk1_RX3, zk2_RX3, []), [], [], [])
/-- X3_number -/
def zm_512 : zC := (cX3_number, 3, zc_512, (zfl_RX3, zwl_RX3), (zk1_RX3, zk2_RX3, []), [], [], [])
/-- X3_number -/
def zm_513 : zC := (cX3_number, 3, zc_513, (zfl_RX3, zwl_RX3), (zk1_RX3, zk2_RX3, []), [], [], [])
/-- X3_number -/
def zm_514 : zC := (cX3_number, 3, zc_514, (zfl_RX3, zwl_RX3), (zk1_RX3, zk2_RX3, []), [], [], [])
/-- X3_number -/
def zm_515 : zC := (cX3_number, 3, zc_515, (zfl_RX3, zwl_RX3), (zk1_RX3, zk2_RX3, []), [], [], [])
/-- X3_number -/
def zm_516 : zC := (cX3_number, 3, zc_516, (zfl_RX3, zwl_RX3), (zk1_RX3, zk2_RX3, []), [], [], [])
/-- X3_number -/
def zm_517 : zC := (cX3_number, 3, zc_517, (zfl_RX3, zwl_RX3), (zk1_RX3, zk2_RX3, []), [], [], [])
/-- X3_number -/
def zm_518 : zC := (cX3_number, 3, zc_518, (zfl_RX3, zwl_RX3), (zk1_RX3, zk2_RX3, []), [], [], [])
/-- X3_number -/
def zm_519 : zC := (cX3_number, 3, zc_519, (zfl_RX3, zwl_RX3), (zk1_RX3, zk2_RX3, []), [], [], [])
/-- X3_number -/
def zm_520 : zC := (cX3_number, 3, zc_520, (zfl_RX3, zwl_RX3), (zk1_RX3, zk2_RX3, []), [], [], [])
/-- X3_number -/
def zm_521 : zC := (cX3_number, 3, zc_521, (zfl_RX3, zwl_RX3), (zk1_RX3, zk2_RX3, []), [], [], [])
/-- X3_number -/
def zm_522 : zC := (cX3_number, 3, zc_522, (zfl_RX3, zwl_RX3), (zk1_RX3, zk2_RX3, []), [], [], [])
/-- X3_number -/
def zm_523 : zC := (cX3_number, 3, zc_523, (zfl_RX3, zwl_RX3), (zk1_RX3, zk2_RX3, []), [], [], [])
/-- X3_number -/
def zm_524 : zC := (cX3_number, 3, zc_524, (zfl_RX3, zwl_RX3), (zk1_RX3, zk2_RX3, []), [], [], [])
/-- X3_number -/
def zm_525 : zC := (cX3_number, 3, zc_525, (zfl_RX3, zwl_RX3), (zk1_RX3, zk2_RX3, []), [], [], [])
/-- X3_number -/
def zm_526 : zC := (cX3_number, 3, zc_526, (zfl_RX3, zwl_RX3), (zk1_RX3, zk2_RX3, []), [], [], [])
/-- X3_number -/
def zm_527 : zC := (cX3_number, 3, zc_527, (zfl_RX3, zwl_RX3), (zk1_RX3, zk2_RX3, []), [], [], [])
/-- X3_number -/
def zm_528 : zC := (cX3_number, 3, zc_528, (zfl_RX3, zwl_RX3), (zk1_RX3, zk2_RX3, []), [], [], [])
/-- X3_number -/
def zm_529 : zC := (cX3_number, 3, zc_529, (zfl_RX3, zwl_RX3), (zk1_RX3, zk2_RX3, []), [], [], [])
/-- X3_number -/
def zm_530 : zC := (cX3_number, 3, zc_530, (zfl_RX3, zwl_RX3), (zk1_RX3, zk2_RX3, []), [], [], [])
/-- X3_number -/
def zm_531 : zC := (cX3_number, 3, zc_531, (zfl_RX3, zwl_RX3), (zk1_RX3, zk2_RX3, []), [], [], [])
/-- X3_number -/
def zm_532 : zC := (cX3_number, 3, zc_532, (zfl_RX3, zwl_RX3), (zk1_RX3, zk2_RX3, []), [], [], [])
/-- X3_number -/
def zm_533 : zC := (cX3_number, 3, zc_533, (zfl_RX3, zwl_RX3), (zk1_RX3, zk2_RX3, []), [], [], [])
/-- X3_number -/
def zm_534 : zC := (cX3_number, 3, zc_534, (zfl_RX3, zwl_RX3), (zk1_RX3, zk2_RX3, []), [], [], [])
/-- X3_number -/
def zm_535 : zC := (cX3_number, 3, zc_535, (zfl_RX3, zwl_RX3), (zk1_RX3, zk2_RX3, []), [], [], [])
/-- X3_number -/
def zm_536 : zC := (cX3_number, 3, zc_536, (zfl_RX3, zwl_RX3), (zk1_RX3, zk2_RX3, []), [], [], [])
/-- X3_number -/
def zm_537 : zC := (cX3_number, 3, zc_537, (zfl_RX3, zwl_RX3), (zk1_RX3, zk2_RX3, []), [], [], [])
/-- X3_number -/
def zm_538 : zC := (cX3_number, 3, zc_538, (zfl_RX3, zwl_RX3), (zk1_RX3, zk2_RX3, []), [], [], [])
/-- X3_number -/
def zm_539 : zC := (cX3_number, 3, zc_539, (zfl_RX3, zwl_RX3), (zk1_RX3, zk2_RX3, []), [], [], [])
/-- X3_number -/
def zm_540 : zC := (cX3_number, 3, zc_540, (zfl_RX3, zwl_RX3), (zk1_RX3, zk2_RX3, []), [], [], [])
/-- X3_number -/
def zm_541 : zC := (cX3_number, 3, zc_541, (zfl_RX3, zwl_RX3), (zk1_RX3, zk2_RX3, []), [], [], [])
/-- X3_number -/
def zm_542 : zC := (cX3_number, 3, zc_542, (zfl_RX3, zwl_RX3), (zk1_RX3, zk2_RX3, []), [], [], [])
/-- X3_number -/
def zm_543 : zC := (cX3_number, 3, zc_543, (zfl_RX3, zwl_RX3), (zk1_RX3, zk2_RX3, []), [], [], [])
/-- X3_number -/
def zm_544 : zC := (cX3_number, 3, zc_544, (zfl_RX3, zwl_RX3), (zk1_RX3, zk2_RX3, []), [], [], [])
/-- X3_number -/
def zm_545 : zC := (cX3_number, 3, zc_545, (zfl_RX3, zwl_RX3), (zk1_RX3, zk2_RX3, []), [], [], [])
/-- X3_number -/
def zm_546 : zC := (cX3_number, 3, zc_546, (zfl_RX3, zwl_RX3), (zk1_RX3, zk2_RX3, []), [], [], [])
/-- X3_number -/
def zm_547 : zC := (cX3_number, 3, zc_547, (zfl_RX3, zwl_RX3), (zk1_RX3, zk2_RX3, []), [], [], [])
/-- X3_number -/
def zm_548 : zC := (cX3_number, 3, zc_548, (zfl_RX3, zwl_RX3), (zk1_RX3, zk2_RX3, []), [], [], [])
/-- X3_number -/
def zm_549 : zC := (cX3_number, 3, zc_549, (zfl_RX3, zwl_RX3), (zk1_RX3, zk2_RX3, []), [], [], [])
/-- X3_number -/
def zm_550 : zC := (cX3_number, 3, zc_550, (zfl_RX3, zwl_RX3), (zk1_RX3, zk2_RX3, []), [], [], [])
/-- X3_number -/
def zm_551 : zC := (cX3_number, 3, zc_551, (zfl_RX3, zwl_RX3), (zk1_RX3, zk2_RX3, []), [], [], [])
/-- X3_number -/
def zm_552 : zC := (cX3_number, 3, zc_552, (zfl_RX3, zwl_RX3), (zk1_RX3, zk2_RX3, []), [], [], [])
/-- X3_number -/
def zm_553 : zC := (cX3_number, 3, zc_553, (zfl_RX3, zwl_RX3), (zk1_RX3, zk2_RX3, []), [], [], [])
/-- X3_number -/
def zm_554 : zC := (cX3_number, 3, zc_554, (zfl_RX3, zwl_RX3), (zk1_RX3, zk2_RX3, []), [], [], [])
/-- X3_number -/
def zm_555 : zC := (cX3_number, 3, zc_555, (zfl_RX3, zwl_RX3), (zk1_RX3, zk2_RX3, []), [], [], [])
/-- X3_number -/
def zm_556 : zC := (cX3_number, 3, zc_556, (zfl_RX3, zwl_RX3), (zk1_RX3, zk2_RX3, []), [], [], [])
/-- X3_number -/
def zm_557 : zC := (cX3_number, 3, zc_557, (zfl_RX3, zwl_RX3), (zk1_RX3, zk2_RX3, []), [], [], [])
/-- X3_number -/
def zm_558 : zC := (cX3_number, 3, zc_558, (zfl_RX3, zwl_RX3), (zk1_RX3, zk2_RX3, []), [], [], [])
/-- X3_number -/
def zm_559 : zC := (cX3_number, 3, zc_559, (zfl_RX3, zwl_RX3), (zk1_RX3, zk2_RX3, []), [], [], [])
/-- X3_number -/
def zm_560 : zC := (cX3_number, 3, zc_560, (zfl_RX3, zwl_RX3), (zk1_RX3, zk2_RX3, []), [], [], [])
/-- X3_number -/
def zm_561 : zC := (cX3_number, 3, zc_561, (zfl_RX3, zwl_RX3), (zk1_RX3, zk2_RX3, []), [], [], [])
/-- X3_number -/
def zm_562 : zC := (cX3_number, 3, zc_562, (zfl_RX3, zwl_RX3), (zk1_RX3, zk2_RX3, []), [], [], [])
/-- X3_number -/
def zm_563 : zC := (cX3_number, 3, zc_563, (zfl_RX3, zwl_RX3), (zk1_RX3, zk2_RX3, []), [], [], [])
/-- X3_number -/
def zm_564 : zC := (cX3_number, 3, zc_564, (zfl_RX3, zwl_RX3), (zk1_RX3, zk2_RX3, []), [], [], [])
/-- X3_number -/
def zm_565 : zC := (cX3_number, 3, zc_565, (zfl_RX3, zwl_RX3), (zk1_RX3, zk2_RX3, []), [], [], [])
/-- X3_number -/
def zm_566 : zC := (cX3_number, 3, zc_566, (zfl_RX3, zwl_RX3), (zk1_RX3, zk2_RX3, []), [], [], [])
/-- X3_number -/
def zm_567 : zC := (cX3_number, 3, zc_567, (zfl_RX3, zwl_RX3), (zk1_RX3, zk2_RX3, []), [], [], [])
/-- X3_number -/
def zm_568 : zC := (cX3_number, 3, zc_568, (zfl_RX3, zwl_RX3), (zk1_RX3, zk2_RX3, []), [], [], [])
/-- X3_number -/
def zm_569 : zC := (cX3_number, 3, zc_569, (zfl_RX3, zwl_RX3), (zk1_RX3, zk2_RX3, []), [], [], [])
/-- X3_number -/
def zm_570 : zC := (cX3_number, 3, zc_570, (zfl_RX3, zwl_RX3), (zk1_RX3, zk2_RX3, []), [], [], [])
/-- X3_number -/
def zm_571 : zC := (cX3_number, 3, zc_571, (zfl_RX3, zwl_RX3), (zk1_RX3, zk2_RX3, []), [], [], [])
/-- X3_number -/
def zm_572 : zC := (cX3_number, 3, zc_572, (zfl_RX3, zwl_RX3), (zk1_RX3, zk2_RX3, []), [], [], [])
/-- X3_number -/
def zm_573 : zC := (cX3_number, 3, zc_573, (zfl_RX3, zwl_RX3), (zk1_RX3, zk2_RX3, []), [], [], [])
/-- X3_number -/
def zm_574 : zC := (cX3_number, 3, zc_574, (zfl_RX3, zwl_RX3), (zk1_RX3, zk2_RX3, []), [], [], [])
/-- X3_number -/
def zm_575 : zC := (cX3_number, 3, zc_575, (zfl_RX3, zwl_RX3), (zk1_RX3, zk2_RX3, []), [], [], [])
/-- X3_number -/
def zm_576 : zC := (cX3_number, 3, zc_576, (zfl_RX3, zwl_RX3), (zk1_RX3, zk2_RX3, []), [], [], [])
/-- X3_number -/
def zm_577 : zC := (cX3_number, 3, zc_577, (zfl_RX3, zwl_RX3), (zk1_RX3, zk2_RX3, []), [], [], [])
/-- X3_number -/
def zm_578 : zC := (cX3_number, 3, zc_578, (zfl_RX3, zwl_RX3), (zk1_RX3, zk2_RX3, []), [], [], [])
/-- X3_number -/
def zm_579 : zC := (cX3_number, 3, zc_579, (zfl_RX3, zwl_RX3), (zk1_RX3, zk2_RX3, []), [], [], [])
/-- X3_number -/
def zm_580 : zC := (cX3_number, 3, zc_580, (zfl_RX3, zwl_RX3), (zk1_RX3, zk2_RX3, []), [], [], [])
/-- X3_number -/
def zm_581 : zC := (cX3_number, 3, zc_581, (zfl_RX3, zwl_RX3), (zk1_RX3, zk2_RX3, []), [], [], [])
/-- X3_number -/
def zm_582 : zC := (cX3_number, 3, zc_582, (zfl_RX3, zwl_RX3), (zk1_RX3, zk2_RX3, []), [], [], [])
/-- X3_number -/
def zm_583 : zC := (cX3_number, 3, zc_583, (zfl_RX3, zwl_RX3), (zk1_RX3, zk2_RX3, []), [], [], [])
/-- X3_number -/
def zm_584 : zC := (cX3_number, 3, zc_584, (zfl_RX3, zwl_RX3), (zk1_RX3, zk2_RX3, []), [], [], [])
/-- X3_number -/
def zm_585 : zC := (cX3_number, 3, zc_585, (zfl_RX3, zwl_RX3), (zk1_RX3, zk2_RX3, []), [], [], [])
/-- X3_number -/
def zm_586 : zC := (cX3_number, 3, zc_586, (zfl_RX3, zwl_RX3), (zk1_RX3, zk2_RX3, []), [], [], [])
/-- X3_number -/
def zm_587 : zC := (cX3_number, 3, zc_587, (zfl_RX3, zwl_RX3), (zk1_RX3, zk2_RX3, []), [], [], [])
/-- X3_number -/
def zm_588 : zC := (cX3_number, 3, zc_588, (zfl_RX3, zwl_RX3), (zk1_RX3, zk2_RX3, []), [], [], [])
/-- X3_number -/
def zm_589 : zC := (cX3_number, 3, zc_589, (zfl_RX3, zwl_RX3), (zk1_RX3, zk2_RX3, []), [], [], [])
/-- X3_number -/
def zm_590 : zC := (cX3_number, 3, zc_590, (zfl_RX3, zwl_RX3), (zk1_RX3, zk2_RX3, []), [], [], [])
/-- X3_number -/
def zm_591 : zC := (cX3_number, 3, zc_591, (zfl_RX3, zwl_RX3), (zk1_RX3, zk2_RX3, []), [], [], [])
/-- X3_number -/
def zm_592 : zC := (cX3_number, 3, zc_592, (zfl_RX3, zwl_RX3), (zk1_RX3, zk2_RX3, []), [], [], [])
/-- X3_number -/
def zm_593 : zC := (cX3_number, 3, zc_593, (zfl_RX3, zwl_RX3), (zk1_RX3, zk2_RX3, []), [], [], [])
/-- X3_number -/
def zm_594 : zC := (cX3_number, 3, zc_594, (zfl_RX3, zwl_RX3), (zk1_RX3, zk2_RX3, []), [], [], [])
/-- X3_number -/
def zm_595 : zC := (cX3_number, 3, zc_595, (zfl_RX3, zwl_RX3), (zk1_RX3, zk2_RX3, []), [], [], [])
/-- X3_number -/
def zm_596 : zC := (cX3_number, 3, zc_596, (zfl_RX3, zwl_RX3), (zk1_RX3, zk2_RX3, []), [], [], [])
/-- X3_number -/
def zm_597 : zC := (cX3_number, 3, zc_597, (zfl_RX3, zwl_RX3), (zk1_RX3, zk2_RX3, []), [], [], [])
/-- X3_number -/
def zm_598 : zC := (cX3_number, 3, zc_598, (zfl_RX3, zwl_RX3), (zk1_RX3, zk2_RX3, []), [], [], [])
/-- X3_number -/
def zm_599 : zC := (cX3_number, 3, zc_599, (zfl_RX3, zwl_RX3), (zk1_RX3, zk2_RX3, []), [], [], [])
/-- X3_size -/
def zm_601 : zC := (cX3_size, 2, zc_601, (zfl_RX3, zwl_RX3), (zk1_RX3, zk2_RX3, []), [], [], [])
/-- X3_size -/
def zm_602 : zC := (cX3_size, 2, zc_602, (zfl_RX3, zwl_RX3), (zk1_RX3, zk2_RX3, []), [], [], [])
/-- X3_size -/
def zm_603 : zC := (cX3_size, 2, zc_603, (zfl_RX3, zwl_RX3), (zk1_RX3, zk2_RX3, []), [], [], [])
/-- X3_size -/
def zm_604 : zC := (cX3_size, 2, zc_604, (zfl_RX3, zwl_RX3), (zk1_RX3, zk2_RX3, []), [], [], [])
/-- X3_size -/
def zm_605 : zC := (cX3_size, 2, zc_605, (zfl_RX3, zwl_RX3), (zk1_RX3, zk2_RX3, []), [], [], [])
/-- X4_append -/
def zm_606 : zC := (cX4_append, 3, zc_606, (zfl_RX4, zwl_RX4), (zk1_RX4, zk2_RX4, []), [], [(3, ([(0, 0), (0, 0), ((-2147483648), 2147483647), ((-8), 24)], [(0, (6, 0, 0)), (1, (0, 2, 0)), (2, (0, 3, 0))], [], [], []), 8, [0, 0, 0, 1])], [])
/-- X4_hasRoom -/
def zm_607 : zC := (cX4_hasRoom, 1, zc_607, (zfl_RX4, zwl_RX4), (zk1_RX4, zk2_RX4, []), [], [], [])
/-- X4_kindOf -/
def zm_609 : zC := (cX4_kindOf, 1, zc_609, (zfl_RX4, zwl_RX4), (zk1_RX4, zk2_RX4, []), [], [], [])
/-- X4_nameOf -/
def zm_610 : zC := (cX4_nameOf, 1, zc_610, (zfl_RX4, zwl_RX4), (zk1_RX4, zk2_RX4, [(132, 54), (133, 54), (134, 54), (136, 54), (138, 54), (140, 54), (142, 54)]), [], [], [])
/-- X4_notes -/
def zm_611 : zC := (cX4_notes, 2, zc_611, (zfl_RX4, zwl_RX4), (zk1_RX4, zk2_RX4, []), [], [], [])
/-- X5_end -/
def zm_657 : zC := (cX5_end, 2, zc_657, (zfl_RX5, zwl_RX5), (zk1_RX5, zk2_RX5, []), [], [], [])
/-- X5_fault -/
def zm_665 : zC := (cX5_fault, 2, zc_665, (zfl_RX5, zwl_RX5), (zk1_RX5, zk2_RX5, []), [], [], [])
/-- X5_hasBit -/
def zm_674 : zC := (cX5_hasBit, 2, zc_674, (zfl_RX5, zwl_RX5), (zk1_RX5, zk2_RX5, []), [], [], [])
/-- X6_bestFirst -/
def zm_843 : zC := (cX6_bestFirst, 3, zc_843, (zfl_RX6, zwl_RX6), (zk1_RX6, zk2_RX6, []), [], [(4, ([(0, 0), (0, 0), ((-1), 9), (0, 10)], [(0, (8, 0, 0)), (1, (0, 2, 0)), (2, (0, 3, 0))], [], [], []), 10, [0, 0, 0, (-1)])], [])
/-- X6_changes -/
def zm_849 : zC := (cX6_changes, 4, zc_849, (zfl_RX6, zwl_RX6), (zk1_RX6, zk2_RX6, []), [], [], [])
/-- X6_cut -/
def zm_869 : zC := (cX6_cut, 3, zc_869, (zfl_RX6, zwl_RX6), (zk1_RX6, zk2_RX6, []), [], [], [])
/-- X6_fails -/
def zm_880 : zC := (cX6_fails, 2, zc_880, (zfl_RX6, zwl_RX6), (zk1_RX6, zk2_RX6, []), [], [], [])
/-- X6_far -/
def zm_882 : zC := (cX6_far, 2, zc_882, (zfl_RX6, zwl_RX6), (zk1_RX6, zk2_RX6, []), [], [], [])
/-- X6_fault -/
def zm_883 : zC := (cX6_fault, 2, zc_883, (zfl_RX6, zwl_RX6), (zk1_RX6, zk2_RX6, []), [], [], [])
/-- X6_four -/
def zm_887 : zC := (cX6_four, 3, zc_887, (zfl_RX6, zwl_RX6), (zk1_RX6, zk2_RX6, []), [], [], [])
/-- X6_hasRead -/
def zm_897 : zC := (cX6_hasRead, 2, zc_897, (zfl_RX6, zwl_RX6), (zk1_RX6, zk2_RX6, []), [], [], [])
/-- X6_hasRead -/
def zm_898 : zC := (cX6_hasRead, 2, zc_898, (zfl_RX6, zwl_RX6), (zk1_RX6, zk2_RX6, []), [], [], [])
/-- X6_hasRead -/
def zm_899 : zC := (cX6_hasRead, 2, zc_899, (zfl_RX6, zwl_RX6), (zk1_RX6, zk2_RX6, []), [], [], [])
/-- X6_hasRead -/
def zm_900 : zC := (cX6_hasRead, 2, zc_900, (zfl_RX6, zwl_RX6), (zk1_RX6, zk2_RX6, []), [], [], [])
/-- X6_hours -/
def zm_902 : zC := (cX6_hours, 1, zc_902, (zfl_RX6, zwl_RX6), (zk1_RX6, zk2_RX6, []), [], [], [])
/-- X6_in -/
def zm_904 : zC := (cX6_in, 6, zc_904, (zfl_RX6, zwl_RX6), (zk1_RX6, zk2_RX6, []), [], [], [])
/-- X6_in -/
def zm_905 : zC := (cX6_in, 6, zc_905, (zfl_RX6, zwl_RX6), (zk1_RX6, zk2_RX6, []), [], [], [])
/-- X6_in -/
def zm_906 : zC := (cX6_in, 6, zc_906, (zfl_RX6, zwl_RX6), (zk1_RX6, zk2_RX6, []), [], [], [])
/-- X6_in -/
def zm_907 : zC := (cX6_in, 6, zc_907, (zfl_RX6, zwl_RX6), (zk1_RX6, zk2_RX6, []), [], [], [])
/-- X6_in -/
def zm_908 : zC := (cX6_in, 6, zc_908, (zfl_RX6, zwl_RX6), (zk1_RX6, zk2_RX6, []), [], [], [])
/-- X6_in -/
def zm_909 : zC := (cX6_in, 6, zc_909, (zfl_RX6, zwl_RX6), (zk1_RX6, zk2_RX6, []), [], [], [])
/-- X6_in -/
def zm_910 : zC := (cX6_in, 6, zc_910, (zfl_RX6, zwl_RX6), (zk1_RX6, zk2_RX6, []), [], [], [])
/-- X6_in -/
def zm_911 : zC := (cX6_in, 6, zc_911, (zfl_RX6, zwl_RX6), (zk1_RX6, zk2_RX6, []), [], [], [])
/-- X6_in -/
def zm_912 : zC := (cX6_in, 6, zc_912, (zfl_RX6, zwl_RX6), (zk1_RX6, zk2_RX6, []), [], [], [])
/-- X6_in -/
def zm_913 : zC := (cX6_in, 6, zc_913, (zfl_RX6, zwl_RX6), (zk1_RX6, zk2_RX6, []), [], [], [])
/-- X6_in -/
def zm_914 : zC := (cX6_in, 6, zc_914, (zfl_RX6, zwl_RX6), (zk1_RX6, zk2_RX6, []), [], [], [])
/-- X6_in -/
def zm_915 : zC := (cX6_in, 6, zc_915, (zfl_RX6, zwl_RX6), (zk1_RX6, zk2_RX6, []), [], [], [])
/-- X6_in -/
def zm_916 : zC := (cX6_in, 6, zc_916, (zfl_RX6, zwl_RX6), (zk1_RX6, zk2_RX6, []), [], [], [])
/-- X6_in -/
def zm_917 : zC := (cX6_in, 6, zc_917, (zfl_RX6, zwl_RX6), (zk1_RX6, zk2_RX6, []), [], [], [])
/-- X6_in -/
def zm_918 : zC := (cX6_in, 6, zc_918, (zfl_RX6, zwl_RX6), (zk1_RX6, zk2_RX6, []), [], [], [])
/-- X6_in -/
def zm_919 : zC := (cX6_in, 6, zc_919, (zfl_RX6, zwl_RX6), (zk1_RX6, zk2_RX6, []), [], [], [])
/-- X6_in -/
def zm_920 : zC := (cX6_in, 6, zc_920, (zfl_RX6, zwl_RX6), (zk1_RX6, zk2_RX6, []), [], [], [])
/-- X6_in -/
def zm_921 : zC := (cX6_in, 6, zc_921, (zfl_RX6, zwl_RX6), (zk1_RX6, zk2_RX6, []), [], [], [])
/-- X6_in -/
def zm_922 : zC := (cX6_in, 6, zc_922, (zfl_RX6, zwl_RX6), (zk1_RX6, zk2_RX6, []), [], [], [])
/-- X6_in -/
def zm_923 : zC := (cX6_in, 6, zc_923, (zfl_RX6, zwl_RX6), (zk1_RX6, zk2_RX6, []), [], [], [])
/-- X6_is -/
def zm_924 : zC := (cX6_is, 3, zc_924, (zfl_RX6, zwl_RX6), (zk1_RX6, zk2_RX6, []), [], [], [])
/-- X6_isBit -/
def zm_925 : zC := (cX6_isBit, 2, zc_925, (zfl_RX6, zwl_RX6), (zk1_RX6, zk2_RX6, []), [], [], [])
/-- X6_isByte -/
def zm_926 : zC := (cX6_isByte, 4, zc_926, (zfl_RX6, zwl_RX6), (zk1_RX6, zk2_RX6, []), [], [], [])
/-- X6_isCity -/
def zm_927 : zC := (cX6_isCity, 1, zc_927, (zfl_RX6, zwl_RX6), (zk1_RX6, zk2_RX6, []), [], [], [])
/-- X6_isFull -/
def zm_928 : zC := (cX6_isFull, 1, zc_928, (zfl_RX6, zwl_RX6), (zk1_RX6, zk2_RX6, []), [], [], [])
/-- X6_isGood -/
def zm_930 : zC := (cX6_isGood, 1, zc_930, (zfl_RX6, zwl_RX6), (zk1_RX6, zk2_RX6, []), [], [], [])
/-- X6_isOver -/
def zm_933 : zC := (cX6_isOver, 1, zc_933, (zfl_RX6, zwl_RX6), (zk1_RX6, zk2_RX6, []), [], [], [])
/-- X6_mayBe -/
def zm_1039 : zC := (cX6_mayBe, 4, zc_1039, (zfl_RX6, zwl_RX6), (zk1_RX6, zk2_RX6, []), [], [], [])
/-- X6_people -/
def zm_1065 : zC := (cX6_people, 1, zc_1065, (zfl_RX6, zwl_RX6), (zk1_RX6, zk2_RX6, []), [], [], [])
/-- X6_placeOf -/
def zm_1067 : zC := (cX6_placeOf, 3, zc_1067, (zfl_RX6, zwl_RX6), (zk1_RX6, zk2_RX6, []), [], [], [])
/-- X6_tells -/
def zm_1132 : zC := (cX6_tells, 3, zc_1132, (zfl_RX6, zwl_RX6), (zk1_RX6, zk2_RX6, []), [], [], [])
/-- X6_tells -/
def zm_1133 : zC := (cX6_tells, 3, zc_1133, (zfl_RX6, zwl_RX6), (zk1_RX6, zk2_RX6, []), [], [], [])
/-- X6_tells -/
def zm_1134 : zC := (cX6_tells, 3, zc_1134, (zfl_RX6, zwl_RX6), (zk1_RX6, zk2_RX6, []), [], [], [])
/-- X6_tells -/
def zm_1135 : zC := (cX6_tells, 3, zc_1135, (zfl_RX6, zwl_RX6), (zk1_RX6, zk2_RX6, []), [], [], [])
/-- X6_tells -/
def zm_1136 : zC := (cX6_tells, 3, zc_1136, (zfl_RX6, zwl_RX6), (zk1_RX6, zk2_RX6, []), [], [], [])
/-- X6_tells -/
def zm_1137 : zC := (cX6_tells, 3, zc_1137, (zfl_RX6, zwl_RX6), (zk1_RX6, zk2_RX6, []), [], [], [])
/-- X6_tells -/
def zm_1138 : zC := (cX6_tells, 3, zc_1138, (zfl_RX6, zwl_RX6), (zk1_RX6, zk2_RX6, []), [], [], [])
/-- X6_tells -/
def zm_1139 : zC := (cX6_tells, 3, zc_1139, (zfl_RX6, zwl_RX6), (zk1_RX6, zk2_RX6, []), [], [], [])
/-- X6_tells -/
def zm_1140 : zC := (cX6_tells, 3, zc_1140, (zfl_RX6, zwl_RX6), (zk1_RX6, zk2_RX6, []), [], [], [])
/-- X6_tells -/
def zm_1141 : zC := (cX6_tells, 3, zc_1141, (zfl_RX6, zwl_RX6), (zk1_RX6, zk2_RX6, []), [], [], [])
/-- X6_tells -/
def zm_1142 : zC := (cX6_tells, 3, zc_1142, (zfl_RX6, zwl_RX6), (zk1_RX6, zk2_RX6, []), [], [], [])
/-- X6_tells -/
def zm_1143 : zC := (cX6_tells, 3, zc_1143, (zfl_RX6, zwl_RX6), (zk1_RX6, zk2_RX6, []), [], [], [])
/-- X6_tells -/
def zm_1144 : zC := (cX6_tells, 3, zc_1144, (zfl_RX6, zwl_RX6), (zk1_RX6, zk2_RX6, []), [], [], [])
/-- X6_tells -/
def zm_1145 : zC := (cX6_tells, 3, zc_1145, (zfl_RX6, zwl_RX6), (zk1_RX6, zk2_RX6, []), [], [], [])
/-- X6_tells -/
def zm_1146 : zC := (cX6_tells, 3, zc_1146, (zfl_RX6, zwl_RX6), (zk1_RX6, zk2_RX6, []), [], [], [])
/-- X6_tells -/
def zm_1147 : zC := (cX6_tells, 3, zc_1147, (zfl_RX6, zwl_RX6), (zk1_RX6, zk2_RX6, []), [], [], [])
/-- X6_tells -/
def zm_1148 : zC := (cX6_tells, 3, zc_1148, (zfl_RX6, zwl_RX6), (zk1_RX6, zk2_RX6, []), [], [], [])
/-- X6_tells -/
def zm_1149 : zC := (cX6_tells, 3, zc_1149, (zfl_RX6, zwl_RX6), (zk1_RX6, zk2_RX6, []), [], [], [])
/-- X6_tells -/
def zm_1150 : zC := (cX6_tells, 3, zc_1150, (zfl_RX6, zwl_RX6), (zk1_RX6, zk2_RX6, []), [], [], [])
/-- X6_tells -/
def zm_1151 : zC := (cX6_tells, 3, zc_1151, (zfl_RX6, zwl_RX6), (zk1_RX6, zk2_RX6, []), [], [], [])
/-- X6_tells -/
def zm_1152 : zC := (cX6_tells, 3, zc_1152, (zfl_RX6, zwl_RX6), (zk1_RX6, zk2_RX6, []), [], [], [])
/-- X6_tells -/
def zm_1153 : zC := (cX6_tells, 3, zc_1153, (zfl_RX6, zwl_RX6), (zk1_RX6, zk2_RX6, []), [], [], [])
/-- X6_tells -/
def zm_1154 : zC := (cX6_tells, 3, zc_1154, (zfl_RX6, zwl_RX6), (zk1_RX6, zk2_RX6, []), [], [], [])
/-- X6_tells -/
def zm_1155 : zC := (cX6_tells, 3, zc_1155, (zfl_RX6, zwl_RX6), (zk1_RX6, zk2_RX6, []), [], [], [])
/-- X6_tells -/
def zm_1156 : zC := (cX6_tells, 3, zc_1156, (zfl_RX6, zwl_RX6), (zk1_RX6, zk2_RX6, []), [], [], [])
/-- X6_tells -/
def zm_1157 : zC := (cX6_tells, 3, zc_1157, (zfl_RX6, zwl_RX6), (zk1_RX6, zk2_RX6, []), [], [], [])
/-- X6_tells -/
def zm_1158 : zC := (cX6_tells, 3, zc_1158, (zfl_RX6, zwl_RX6), (zk1_RX6, zk2_RX6, []), [], [], [])
/-- X6_tells -/
def zm_1159 : zC := (cX6_tells, 3, zc_1159, (zfl_RX6, zwl_RX6), (zk1_RX6, zk2_RX6, []), [], [], [])
/-- X0_allHours -/
def zm_280 : zC := (cX0_allHours, 1, zc_280, (zfl_RX0, zwl_RX0), (zk1_RX0, zk2_RX0, []), [(0, 76, zc_298)], [], [])
/-- X0_chainFrom -/
def zm_282 : zC := (cX0_chainFrom, 5, zc_282, (zfl_RX0, zwl_RX0), (zk1_RX0, zk2_RX0, []), [(0, 72, zc_303), (1, 98, zc_674)], [(7, ([(0, 0), (0, 0), (0, 6), ((-2147483648), 2147483647), ((-1), 6), (0, 7)], [(0, (2, 0, 0)), (1, (0, 2, 0)), (2, (0, 3, 0)), (3, (0, 4, 0)), (4, (0, 5, 0))], [], [], []), 7, [0, 0, 0, 0, 0, (-1)])], [])
/-- X0_fogFrom -/
def zm_289 : zC := (cX0_fogFrom, 6, zc_289, (zfl_RX0, zwl_RX0), (zk1_RX0, zk2_RX0, []), [(0, 76, zc_298)], [(9, ([(0, 0), (0, 0), (0, 2147483646), (0, 2147483647), ((-2147483648), 2147483647), (0, 12)], [(0, (2, 0, 0)), (1, (0, 2, 0)), (2, (1, 3, 0)), (4, (0, 4, 0)), (5, (0, 5, 0))], [], [], []), 12, [0, 0, 0, 0, 0, (-1)])], [])
/-- X0_hoursSeen -/
def zm_299 : zC := (cX0_hoursSeen, 3, zc_299, (zfl_RX0, zwl_RX0), (zk1_RX0, zk2_RX0, []), [(0, 95, zc_316), (1, 101, zc_0)], [], [])
/-- X0_isHour -/
def zm_301 : zC := (cX0_isHour, 3, zc_301, (zfl_RX0, zwl_RX0), (zk1_RX0, zk2_RX0, []), [(0, 76, zc_298)], [], [])
/-- X0_isPair -/
def zm_302 : zC := (cX0_isPair, 5, zc_302, (zfl_RX0, zwl_RX0), (zk1_RX0, zk2_RX0, []), [(0, 72, zc_303)], [], [])
/-- X0_isPlace -/
def zm_304 : zC := (cX0_isPlace, 3, zc_304, (zfl_RX0, zwl_RX0), (zk1_RX0, zk2_RX0, []), [(0, 80, zc_313)], [], [])
/-- X0_manyIn -/
def zm_309 : zC := (cX0_manyIn, 5, zc_309, (zfl_RX0, zwl_RX0), (zk1_RX0, zk2_RX0, []), [(0, 65, zc_312)], [(5, ([(0, 0), (0, 0), (0, 9), (0, 11), ((-2147483648), 2147483647), (0, 7)], [(0, (2, 0, 0)), (1, (0, 2, 0)), (2, (0, 3, 0)), (3, (0, 4, 0)), (4, (0, 5, 0))], [], [], []), 7, [0, 0, 0, 0, 0, (-1)])], [])
/-- X0_nearBits -/
def zm_311 : zC := (cX0_nearBits, 5, zc_311, (zfl_RX0, zwl_RX0), (zk1_RX0, zk2_RX0, []), [(0, 65, zc_312), (0, 76, zc_298), (1, 147, zc_1)], [(5, ([(0, 0), (0, 0), (0, 6), ((-2147483648), 2147483647), ((-2147483648), 2147483647), (0, 12)], [(0, (2, 0, 0)), (1, (0, 2, 0)), (2, (0, 3, 0)), (3, (0, 4, 0)), (4, (0, 5, 0))], [], [], []), 12, [0, 0, 0, 0, 0, (-1)])], [])
/-- X0_reaches -/
def zm_314 : zC := (cX0_reaches, 6, zc_314, (zfl_RX0, zwl_RX0), (zk1_RX0, zk2_RX0, []), [(1, 83, zc_264), (1, 88, zc_256)], [], [])
/-- X0_seenByAny -/
def zm_318 : zC := (cX0_seenByAny, 5, zc_318, (zfl_RX0, zwl_RX0), (zk1_RX0, zk2_RX0, []), [(0, 95, zc_316), (1, 98, zc_674)], [(5, ([(0, 0), (0, 0), (0, 2147483646), (0, 6), ((-2147483648), 2147483647), (0, 7)], [(0, (2, 0, 0)), (1, (0, 2, 0)), (2, (0, 3, 0)), (3, (0, 4, 0)), (4, (0, 5, 0))], [], [], []), 7, [0, 0, 0, 0, 0, (-1)])], [])
/-- X0_seesIn -/
def zm_319 : zC := (cX0_seesIn, 4, zc_319, (zfl_RX0, zwl_RX0), (zk1_RX0, zk2_RX0, []), [(0, 95, zc_316), (1, 98, zc_674)], [], [])
/-- X1_firstFrom -/
def zm_329 : zC := (cX1_firstFrom, 6, zc_329, (zfl_RX1, zwl_RX1), (zk1_RX1, zk2_RX1, []), [(1, 63, zc_11)], [(3, ([(0, 0), (0, 0), (0, 11), ((-2147483648), 2147483647), (0, 9), (0, 10), (0, 10)], [(0, (3, 0, 0)), (1, (0, 2, 0)), (2, (0, 3, 0)), (3, (0, 4, 0)), (4, (0, 5, 0)), (5, (0, 6, 0))], [], [], []), 10, (List.replicate 6 0 ++ [(-1)]))], [])
/-- X1_most -/
def zm_331 : zC := (cX1_most, 3, zc_331, (zfl_RX1, zwl_RX1), (zk1_RX1, zk2_RX1, []), [(1, 73, zc_100)], [(4, ([(0, 0), (0, 0), ((-1), 2147483647), (0, 10)], [(0, (3, 0, 0)), (1, (0, 2, 0)), (2, (0, 3, 0))], [], [], []), 10, [0, 0, 0, (-1)])], [])
/-- X1_planFrom -/
def zm_333 : zC := (cX1_planFrom, 7, zc_333, (zfl_RX1, zwl_RX1), (zk1_RX1, zk2_RX1, []), [(1, 63, zc_11), (0, 69, zc_330)], [(57, ([(0, 0), (0, 0), (0, 10), (0, 9), (2, 12), (0, 109), (0, 10)], [(0, (3, 0, 0)), (1, (0, 2, 0)), (2, (0, 3, 0)), (3, (0, 5, 0)), (4, (0, 6, 0))], [], [(1, 0, (0, 4, 0))], [([], 4, 2, 1)]), 10, (List.replicate 6 0 ++ [(-1)]))], [(1, [])])
/-- X2_begin -/
def zm_341 : zC := (cX2_begin, 4, zc_341, (zfl_RX2, zwl_RX2), (zk1_RX2, zk2_RX2, []), [(0, 111, zc_316), (0, 114, zc_348)], [(30, ([(0, 0), (0, 0), (0, 0), (0, 7), (0, 7), (0, 3), (0, 0), (0, 0)], [(0, (4, 0, 0)), (1, (2, 0, 0)), (2, (0, 3, 0))], [], [(2, 0, (0, 4, 0)), (2, 1, (0, 5, 0)), (2, 2, (0, 6, 0)), (2, 3, (0, 7, 0))], []), 71, [0, 0, 0, (-9)]), (54, ([(0, 0), (0, 0), (0, 0), (0, 6), (0, 7), (1, 7), (0, 3), (0, 0), (0, 0)], [(0, (4, 0, 0)), (1, (2, 0, 0)), (2, (0, 3, 0)), (3, (0, 4, 0))], [], [(2, 0, (0, 5, 0)), (2, 1, (0, 6, 0)), (2, 2, (0, 7, 0)), (2, 3, (0, 8, 0))], []), 70, [0, 0, 0, (-9), (-1)])], [])
/-- X2_fits -/
def zm_346 : zC := (cX2_fits, 3, zc_346, (zfl_RX2, zwl_RX2), (zk1_RX2, zk2_RX2, []), [(1, 125, zc_674)], [], [])
/-- X2_weigh -/
def zm_350 : zC := (cX2_weigh, 5, zc_350, (zfl_RX2, zwl_RX2), (zk1_RX2, zk2_RX2, []), [(1, 84, zc_157), (1, 89, zc_277)], [(6, ([(0, 0), (0, 0), (0, 6), ((-2147483648), 2147483647), (0, 12), (0, 7)], [(0, (4, 0, 0)), (1, (0, 3, 0)), (2, (0, 4, 0)), (3, (0, 5, 0))], [], [(21, 1000, (0, 2, 0))], [([], 2, 0, 0)]), 7, [0, 0, 0, 0, 0, (-1)])], [(19, [])])
/-- X3_put -/
def zm_600 : zC := (cX3_put, 5, zc_600, (zfl_RX3, zwl_RX3), (zk1_RX3, zk2_RX3, []), [(1, 24, zc_351)], [], [])
/-- X4_numberLookedAt -/
def zm_612 : zC := (cX4_numberLookedAt, 3, zc_612, (zfl_RX4, zwl_RX4), (zk1_RX4, zk2_RX4, []), [(1, 159, zc_269)], [(7, ([(0, 0), (0, 0), ((-2147483648), 1000000), (0, 1200), (0, 1200)], [(0, (6, 0, 0)), (1, (0, 2, 0)), (2, (0, 3, 0))], [], [(4, 5, (0, 4, 0))], []), 1200, [0, 0, 0, (-1)])], [])
/-- X4_toNextToken -/
def zm_632 : zC := (cX4_toNextToken, 1, zc_632, (zfl_RX4, zwl_RX4), (zk1_RX4, zk2_RX4, []), [(1, 165, zc_609)], [(8, ([(0, 0), (0, 0), (0, 1200), (0, 1200)], [(0, (6, 0, 0))], [], [(4, 5, (0, 2, 0)), (4, 6, (0, 3, 0))], []), 2400, [0, 0, (-1)]), (116, ([(0, 0), (0, 0), (1, 1200), (2, 3), (0, 1199), (1, 1200)], [(0, (6, 0, 0))], [], [(4, 1, (0, 2, 0)), (4, 4, (0, 3, 0)), (4, 5, (0, 4, 0)), (4, 6, (0, 5, 0))], []), 1200, [0, 0, 0, 0, 0, (-1)])], [])
/-- X5_count -/
def zm_652 : zC := (cX5_count, 2, zc_652, (zfl_RX5, zwl_RX5), (zk1_RX5, zk2_RX5, []), [(0, 314, zc_359)], [], [])
/-- X5_feed -/
def zm_666 : zC := (cX5_feed, 6, zc_666, (zfl_RX5, zwl_RX5), (zk1_RX5, zk2_RX5, []), [(0, 55, zc_607), (0, 59, zc_606)], [], [])
/-- X5_gapOdds -/
def zm_669 : zC := (cX5_gapOdds, 4, zc_669, (zfl_RX5, zwl_RX5), (zk1_RX5, zk2_RX5, []), [(1, 128, zc_674)], [], [])
/-- X5_mutual -/
def zm_767 : zC := (cX5_mutual, 4, zc_767, (zfl_RX5, zwl_RX5), (zk1_RX5, zk2_RX5, []), [(0, 115, zc_287)], [(17, ([(0, 0), (0, 0), ((-2147483648), 2147483647), (0, 7)], [(0, (7, 0, 0)), (1, (0, 2, 0)), (2, (0, 3, 0))], [], [], []), 7, [0, 0, 0, (-1)])], [])
/-- X5_refuseRow -/
def zm_782 : zC := (cX5_refuseRow, 3, zc_782, (zfl_RX5, zwl_RX5), (zk1_RX5, zk2_RX5, []), [(0, 321, zc_357)], [], [(51, [])])
/-- X5_refuseRow -/
def zm_783 : zC := (cX5_refuseRow, 3, zc_783, (zfl_RX5, zwl_RX5), (zk1_RX5, zk2_RX5, []), [(0, 321, zc_357)], [], [(51, [])])
/-- X5_refuseRow -/
def zm_784 : zC := (cX5_refuseRow, 3, zc_784, (zfl_RX5, zwl_RX5), (zk1_RX5, zk2_RX5, []), [(0, 115, zc_287), (0, 250, zc_601), (0, 321, zc_357), (0, 328, zc_352)], [], [(51, [])])
/-- X5_refuseRow -/
def zm_785 : zC := (cX5_refuseRow, 3, zc_785, (zfl_RX5, zwl_RX5), (zk1_RX5, zk2_RX5, []), [(0, 115, zc_287), (0, 250, zc_601), (0, 321, zc_357), (0, 328, zc_352)], [], [(51, [])])
/-- X5_refuseRow -/
def zm_786 : zC := (cX5_refuseRow, 3, zc_786, (zfl_RX5, zwl_RX5), (zk1_RX5, zk2_RX5, []), [(0, 115, zc_287), (0, 250, zc_603), (0, 321, zc_357), (0, 328, zc_354)], [], [(51, [])])
/-- X5_refuseRow -/
def zm_787 : zC := (cX5_refuseRow, 3, zc_787, (zfl_RX5, zwl_RX5), (zk1_RX5, zk2_RX5, []), [(0, 115, zc_287), (0, 250, zc_603), (0, 321, zc_357), (0, 328, zc_354)], [], [(51, [])])
/-- X5_refuseRow -/
def zm_788 : zC := (cX5_refuseRow, 3, zc_788, (zfl_RX5, zwl_RX5), (zk1_RX5, zk2_RX5, []), [(0, 115, zc_287), (0, 250, zc_604), (0, 321, zc_357), (0, 328, zc_355)], [], [(51, [])])
/-- X5_refuseRow -/
def zm_789 : zC := (cX5_refuseRow, 3, zc_789, (zfl_RX5, zwl_RX5), (zk1_RX5, zk2_RX5, []), [(0, 115, zc_287), (0, 250, zc_604), (0, 321, zc_357), (0, 328, zc_355)], [], [(51, [])])
/-- X5_refuseRow -/
def zm_790 : zC := (cX5_refuseRow, 3, zc_790, (zfl_RX5, zwl_RX5), (zk1_RX5, zk2_RX5, []), [(0, 115, zc_287), (0, 250, zc_605), (0, 321, zc_357), (0, 328, zc_356)], [], [(51, [])])
/-- X5_refuseRow -/
def zm_791 : zC := (cX5_refuseRow, 3, zc_791, (zfl_RX5, zwl_RX5), (zk1_RX5, zk2_RX5, []), [(0, 115, zc_287), (0, 250, zc_605), (0, 321, zc_357), (0, 328, zc_356)], [], [(51, [])])
/-- X5_refuseRow -/
def zm_792 : zC := (cX5_refuseRow, 3, zc_792, (zfl_RX5, zwl_RX5), (zk1_RX5, zk2_RX5, []), [(0, 321, zc_357)], [], [(51, [])])
/-- X5_refuseRow -/
def zm_793 : zC := (cX5_refuseRow, 3, zc_793, (zfl_RX5, zwl_RX5), (zk1_RX5, zk2_RX5, []), [(0, 321, zc_357)], [], [(51, [])])
/-- X5_row -/
def zm_803 : zC := (cX5_row, 4, zc_803, (zfl_RX5, zwl_RX5), (zk1_RX5, zk2_RX5, []), [(0, 321, zc_357), (0, 324, zc_358)], [], [])
/-- X5_swears -/
def zm_815 : zC := (cX5_swears, 2, zc_815, (zfl_RX5, zwl_RX5), (zk1_RX5, zk2_RX5, []), [(0, 83, zc_303)], [], [])
/-- X5_sworn -/
def zm_816 : zC := (cX5_sworn, 2, zc_816, (zfl_RX5, zwl_RX5), (zk1_RX5, zk2_RX5, []), [(0, 83, zc_303), (0, 105, zc_324)], [], [])
/-- X5_unsworn -/
def zm_822 : zC := (cX5_unsworn, 3, zc_822, (zfl_RX5, zwl_RX5), (zk1_RX5, zk2_RX5, []), [(0, 105, zc_324), (0, 115, zc_287)], [(17, ([(0, 0), (0, 0), ((-2147483648), 2147483647), (0, 7)], [(0, (7, 0, 0)), (1, (0, 2, 0)), (2, (0, 3, 0))], [], [], []), 7, [0, 0, 0, (-1)])], [])
/-- X6_anew -/
def zm_835 : zC := (cX6_anew, 2, zc_835, (zfl_RX6, zwl_RX6), (zk1_RX6, zk2_RX6, []), [(0, 276, zc_927)], [], [])
/-- X6_clears -/
def zm_853 : zC := (cX6_clears, 2, zc_853, (zfl_RX6, zwl_RX6), (zk1_RX6, zk2_RX6, []), [(0, 164, zc_1143)], [(9, ([(0, 0), (0, 0), (0, 10)], [(0, (8, 0, 0)), (1, (0, 2, 0))], [], [], []), 10, [0, 0, (-1)])], [])
/-- X6_count -/
def zm_867 : zC := (cX6_count, 4, zc_867, (zfl_RX6, zwl_RX6), (zk1_RX6, zk2_RX6, []), [(1, 76, zc_912)], [(66, ([(0, 0), (0, 0), (11, 11), ((-2147483648), 2147483647), (0, 4), (0, 0)], [(0, (8, 0, 0)), (1, (0, 2, 0)), (2, (0, 3, 0)), (3, (0, 4, 0))], [], [(6, 0, (0, 5, 0))], []), 4, [0, 0, 0, 0, (-1)])], [])
/-- X6_draws -/
def zm_874 : zC := (cX6_draws, 7, zc_874, (zfl_RX6, zwl_RX6), (zk1_RX6, zk2_RX6, []), [(0, 231, zc_902)], [(8, ([(0, 0), (0, 0), (0, 2147483646), (0, 2147483647), ((-2147483648), 2147483647), (0, 12)], [(0, (8, 0, 0)), (1, (1, 2, 0)), (3, (1, 3, 0)), (5, (0, 4, 0)), (6, (0, 5, 0))], [], [], []), 12, [0, 0, 0, 0, 0, (-1)])], [])
/-- X6_end -/
def zm_875 : zC := (cX6_end, 2, zc_875, (zfl_RX6, zwl_RX6), (zk1_RX6, zk2_RX6, []), [(1, 76, zc_906)], [], [])
/-- X6_feed -/
def zm_884 : zC := (cX6_feed, 6, zc_884, (zfl_RX6, zwl_RX6), (zk1_RX6, zk2_RX6, []), [(0, 91, zc_887)], [], [])
/-- X6_isHalf -/
def zm_931 : zC := (cX6_isHalf, 1, zc_931, (zfl_RX6, zwl_RX6), (zk1_RX6, zk2_RX6, []), [(1, 76, zc_923)], [], [])
/-- X6_isHour -/
def zm_932 : zC := (cX6_isHour, 3, zc_932, (zfl_RX6, zwl_RX6), (zk1_RX6, zk2_RX6, []), [(1, 76, zc_920), (0, 231, zc_902)], [], [])
/-- X6_isPerson -/
def zm_934 : zC := (cX6_isPerson, 3, zc_934, (zfl_RX6, zwl_RX6), (zk1_RX6, zk2_RX6, []), [(1, 76, zc_921), (0, 227, zc_1065)], [], [])
/-- X6_isPlace -/
def zm_935 : zC := (cX6_isPlace, 3, zc_935, (zfl_RX6, zwl_RX6), (zk1_RX6, zk2_RX6, []), [(1, 76, zc_922)], [], [])
/-- X6_isSeed -/
def zm_936 : zC := (cX6_isSeed, 2, zc_936, (zfl_RX6, zwl_RX6), (zk1_RX6, zk2_RX6, []), [(1, 76, zc_909), (0, 276, zc_927)], [], [])
/-- X6_isSlot -/
def zm_939 : zC := (cX6_isSlot, 1, zc_939, (zfl_RX6, zwl_RX6), (zk1_RX6, zk2_RX6, []), [(1, 76, zc_910)], [], [])
/-- X6_next -/
def zm_1042 : zC := (cX6_next, 2, zc_1042, (zfl_RX6, zwl_RX6), (zk1_RX6, zk2_RX6, []), [(0, 98, zc_926)], [(0, ([(0, 0), (0, 0), (0, 1199), (1, 1200), (1, 1200)], [(0, (8, 0, 0))], [], [(6, 6, (0, 3, 0)), (6, 7, (0, 4, 0))], [([], 3, 4, 0), ([], 4, 2, 0), ([], 3, 2, 0)]), 3602, [0, 0, 0, 0, (-1)]), (102, ([(0, 0), (0, 0), (0, 1199), (1, 1200), ((-2147483648), 2147483647), (0, 1200), (1, 1), (0, 1199), (0, 0), ((-9223372036854775808), 9223372036854775807)], [(0, (8, 0, 0)), (1, (0, 4, 0))], [], [(6, 6, (0, 3, 0)), (6, 7, (0, 5, 0)), (6, 8, (0, 6, 0)), (6, 9, (0, 7, 0)), (6, 10, (0, 8, 0)), (6, 11, (1, 9, 0))], [([], 3, 5, 0), ([], 5, 2, 0), ([], 3, 2, 0)]), 1200, [0, 0, 0, 0, 0, (-1)]), (208, ([(0, 0), (0, 0), (0, 1199), (1, 1200), (0, 1200), (2, 2), (0, 1199), ((-2147483648), 2147483647), (0, 0)], [(0, (8, 0, 0))], [], (zmrun 6 6 1 0 3 5 ++ [(6, 11, (1, 8, 0))]), [([], 3, 4, 0), ([], 4, 2, 0), ([], 3, 2, 0)]), 2401, [0, 0, 0, 0, (-1)])], [])
/-- X6_seesTo -/
def zm_1121 : zC := (cX6_seesTo, 4, zc_1121, (zfl_RX6, zwl_RX6), (zk1_RX6, zk2_RX6, []), [(1, 237, zc_882), (1, 240, zc_925)], [(34, ([(0, 0), (0, 0), ((-1), 9), ((-1), 9), ((-1), 9), (0, 9)], [(0, (8, 0, 0)), (1, (0, 2, 0)), (2, (0, 3, 0)), (3, (0, 4, 0))], [], [(42, 1002, (0, 5, 0))], []), 9, [0, 0, 0, 0, (-1)])], [])
/-- X6_swornTo -/
def zm_1129 : zC := (cX6_swornTo, 4, zc_1129, (zfl_RX6, zwl_RX6), (zk1_RX6, zk2_RX6, []), [(0, 227, zc_1065)], [(4, ([(0, 0), (0, 0), (0, 6), ((-2147483648), 2147483647), (0, 7)], [(0, (8, 0, 0)), (1, (0, 2, 0)), (2, (0, 3, 0)), (3, (0, 4, 0))], [], [], []), 7, [0, 0, 0, 0, (-1)])], [])
/-- X6_tell -/
def zm_1131 : zC := (cX6_tell, 4, zc_1131, (zfl_RX6, zwl_RX6), (zk1_RX6, zk2_RX6, []), [(1, 76, zc_910), (1, 76, zc_913), (1, 76, zc_914), (1, 76, zc_919), (0, 276, zc_927)], [], [])
/-- X6_undo -/
def zm_1163 : zC := (cX6_undo, 1, zc_1163, (zfl_RX6, zwl_RX6), (zk1_RX6, zk2_RX6, []), [(0, 276, zc_927)], [], [])
/-- X0_envies -/
def zm_286 : zC := (cX0_envies, 5, zc_286, (zfl_RX0, zwl_RX0), (zk1_RX0, zk2_RX0, []), [(0, 144, zc_299)], [], [])
/-- X0_fogGapBits -/
def zm_290 : zC := (cX0_fogGapBits, 5, zc_290, (zfl_RX0, zwl_RX0), (zk1_RX0, zk2_RX0, []), [(0, 65, zc_312), (0, 76, zc_298), (0, 111, zc_280)], [(7, ([(0, 0), (0, 0), (0, 6), ((-2147483648), 2147483647), (0, 7)], [(0, (2, 0, 0)), (1, (0, 2, 0)), (2, (0, 3, 0)), (3, (0, 4, 0))], [], [], []), 111, [0, 0, 0, 0, (-14)]), (18, ([(0, 0), (0, 0), (0, 6), ((-2147483648), 2147483647), (0, 6), (0, 12)], [(0, (2, 0, 0)), (1, (0, 2, 0)), (2, (0, 3, 0)), (3, (0, 4, 0)), (4, (0, 5, 0))], [], [], []), 110, [0, 0, 0, 0, (-14), (-1)])], [])
/-- X0_gapBits -/
def zm_292 : zC := (cX0_gapBits, 4, zc_292, (zfl_RX0, zwl_RX0), (zk1_RX0, zk2_RX0, []), [(0, 95, zc_316), (0, 111, zc_280)], [(7, ([(0, 0), (0, 0), (0, 6), ((-2147483648), 2147483647), (0, 7)], [(0, (2, 0, 0)), (1, (0, 2, 0)), (2, (0, 3, 0)), (3, (0, 4, 0))], [], [], []), 7, [0, 0, 0, 0, (-1)])], [])
/-- X0_inSight -/
def zm_300 : zC := (cX0_inSight, 5, zc_300, (zfl_RX0, zwl_RX0), (zk1_RX0, zk2_RX0, []), [(0, 107, zc_319)], [(5, ([(0, 0), (0, 0), (0, 6), ((-2147483648), 2147483647), ((-2147483648), 2147483647), (0, 7)], [(0, (2, 0, 0)), (1, (0, 2, 0)), (2, (0, 3, 0)), (3, (0, 4, 0)), (4, (0, 5, 0))], [], [], []), 7, [0, 0, 0, 0, 0, (-1)])], [])
/-- X0_look -/
def zm_308 : zC := (cX0_look, 5, zc_308, (zfl_RX0, zwl_RX0), (zk1_RX0, zk2_RX0, []), [(0, 65, zc_312), (0, 76, zc_298), (0, 91, zc_314)], [(2, ([(0, 0), (0, 0), (0, 7)], [(0, (2, 0, 0)), (1, (0, 2, 0))], [], [], []), 903, [0, 0, (-113)]), (12, ([(0, 0), (0, 0), (0, 6), (0, 7)], [(0, (2, 0, 0)), (1, (0, 2, 0)), (2, (0, 3, 0))], [], [], []), 902, [0, 0, (-113), (-14)]), (25, ([(0, 0), (0, 0), (0, 6), (0, 6), ((-2147483648), 2147483647), (0, 12)], [(0, (2, 0, 0)), (1, (0, 2, 0)), (2, (0, 3, 0)), (3, (0, 4, 0)), (4, (0, 5, 0))], [], [], []), 901, [0, 0, (-113), (-14), 0, (-1)])], [])
/-- X0_ringOf -/
def zm_315 : zC := (cX0_ringOf, 4, zc_315, (zfl_RX0, zwl_RX0), (zk1_RX0, zk2_RX0, []), [(0, 72, zc_303), (0, 141, zc_282)], [(9, ([(0, 0), (0, 0), (0, 6), ((-1), 6), (0, 7)], [(0, (2, 0, 0)), (1, (0, 2, 0)), (2, (0, 3, 0)), (3, (0, 4, 0))], [], [], []), 7, [0, 0, 0, 0, (-1)])], [])
/-- X0_seenBitsIfHome -/
def zm_317 : zC := (cX0_seenBitsIfHome, 7, zc_317, (zfl_RX0, zwl_RX0), (zk1_RX0, zk2_RX0, []), [(0, 65, zc_312), (0, 76, zc_298), (0, 91, zc_314), (0, 95, zc_316)], [(35, ([(0, 0), (0, 0), (0, 6), (0, 6), (0, 6), (0, 6), ((-2147483648), 2147483647), (0, 12)], [(0, (2, 0, 0)), (1, (0, 2, 0)), (2, (0, 3, 0)), (3, (0, 4, 0)), (4, (0, 5, 0)), (5, (0, 6, 0)), (6, (0, 7, 0))], [], [], []), 12, (List.replicate 7 0 ++ [(-1)]))], [])
/-- X0_watchers -/
def zm_326 : zC := (cX0_watchers, 5, zc_326, (zfl_RX0, zwl_RX0), (zk1_RX0, zk2_RX0, []), [(0, 65, zc_312), (0, 91, zc_314)], [(5, ([(0, 0), (0, 0), (0, 9), (0, 11), ((-2147483648), 2147483647), (0, 7)], [(0, (2, 0, 0)), (1, (0, 2, 0)), (2, (0, 3, 0)), (3, (0, 4, 0)), (4, (0, 5, 0))], [], [], []), 7, [0, 0, 0, 0, 0, (-1)])], [])
/-- X1_fewestSteps -/
def zm_327 : zC := (cX1_fewestSteps, 4, zc_327, (zfl_RX1, zwl_RX1), (zk1_RX1, zk2_RX1, []), [(0, 76, zc_331)], [(9, ([(0, 0), (0, 0), ((-1), 2147483647), ((-2147483648), 2147483647), (0, 10)], [(0, (3, 0, 0)), (1, (0, 2, 0)), (2, (0, 3, 0)), (3, (0, 4, 0))], [], [], []), 10, [0, 0, 0, 0, (-1)])], [])
/-- X1_firstDayAt -/
def zm_328 : zC := (cX1_firstDayAt, 5, zc_328, (zfl_RX1, zwl_RX1), (zk1_RX1, zk2_RX1, []), [(0, 76, zc_331), (0, 79, zc_329)], [(27, ([(0, 0), (0, 0), (0, 11), ((-2147483648), 2147483647), ((-1), 9), (0, 11), (0, 10)], [(0, (3, 0, 0)), (1, (0, 2, 0)), (2, (0, 3, 0)), (3, (0, 4, 0)), (4, (0, 5, 0))], [], [(1, 1, (0, 6, 0))], []), 11, [0, 0, 0, 0, 0, (-1)])], [])
/-- X1_plan -/
def zm_332 : zC := (cX1_plan, 7, zc_332, (zfl_RX1, zwl_RX1), (zk1_RX1, zk2_RX1, []), [(0, 25, zc_298), (0, 34, zc_313), (1, 48, zc_674), (0, 52, zc_312), (0, 56, zc_314), (0, 59, zc_333)], [(34, ([(0, 0), (0, 0), (0, 0), (0, 6), (0, 6), ((-1), 11), (0, 12), (0, 10), (0, 9)], [(0, (3, 0, 0)), (1, (2, 0, 0)), (2, (0, 3, 0)), (3, (0, 4, 0)), (4, (0, 5, 0))], [], [(1, 0, (0, 6, 0)), (1, 1, (0, 7, 0)), (1, 2, (0, 8, 0))], [([], 6, 5, 1)]), 23, [0, 0, 0, 0, 0, 12]), (42, ([(0, 0), (0, 0), (0, 0), (0, 6), (0, 6), (0, 11), (0, 10), (1, 12), (0, 10), (0, 9)], [(0, (3, 0, 0)), (1, (2, 0, 0)), (2, (0, 3, 0)), (3, (0, 4, 0)), (4, (0, 5, 0)), (5, (0, 6, 0))], [], [(1, 0, (0, 7, 0)), (1, 1, (0, 8, 0)), (1, 2, (0, 9, 0))], [([], 7, 5, 1)]), 22, [0, 0, 0, 0, 0, 12, (-1)])], [])
/-- X2_advances -/
def zm_334 : zC := (cX2_advances, 4, zc_334, (zfl_RX2, zwl_RX2), (zk1_RX2, zk2_RX2, []), [(0, 122, zc_346)], [(30, ([(0, 0), (0, 0), (0, 0), ((-1), 6), (0, 7), ((-1), 6)], [(0, (4, 0, 0)), (1, (0, 2, 0)), (2, (0, 3, 0)), (3, (0, 4, 0))], [], [(21, 1000, (0, 5, 0))], []), 7, [0, 0, 0, 0, (-1)])], [])
/-- X2_advances -/
def zm_335 : zC := (cX2_advances, 4, zc_335, (zfl_RX2, zwl_RX2), (zk1_RX2, zk2_RX2, []), [(0, 122, zc_346)], [(30, ([(0, 0), (0, 0), (1, 1), ((-1), 6), (0, 7), ((-1), 6)], [(0, (4, 0, 0)), (1, (0, 2, 0)), (2, (0, 3, 0)), (3, (0, 4, 0))], [], [(21, 1001, (0, 5, 0))], []), 7, [0, 0, 0, 0, (-1)])], [])
/-- X2_advances -/
def zm_336 : zC := (cX2_advances, 4, zc_336, (zfl_RX2, zwl_RX2), (zk1_RX2, zk2_RX2, []), [(0, 122, zc_346)], [(30, ([(0, 0), (0, 0), (2, 2), ((-1), 6), (0, 7), ((-1), 6)], [(0, (4, 0, 0)), (1, (0, 2, 0)), (2, (0, 3, 0)), (3, (0, 4, 0))], [], [(21, 1002, (0, 5, 0))], []), 7, [0, 0, 0, 0, (-1)])], [])
/-- X2_advances -/
def zm_337 : zC := (cX2_advances, 4, zc_337, (zfl_RX2, zwl_RX2), (zk1_RX2, zk2_RX2, []), [(0, 122, zc_346)], [(30, ([(0, 0), (0, 0), (3, 3), ((-1), 6), (0, 7), ((-1), 6)], [(0, (4, 0, 0)), (1, (0, 2, 0)), (2, (0, 3, 0)), (3, (0, 4, 0))], [], [(21, 1003, (0, 5, 0))], []), 7, [0, 0, 0, 0, (-1)])], [])
/-- X2_advances -/
def zm_338 : zC := (cX2_advances, 4, zc_338, (zfl_RX2, zwl_RX2), (zk1_RX2, zk2_RX2, []), [(0, 122, zc_346)], [(30, ([(0, 0), (0, 0), (4, 4), ((-1), 6), (0, 7), ((-1), 6)], [(0, (4, 0, 0)), (1, (0, 2, 0)), (2, (0, 3, 0)), (3, (0, 4, 0))], [], [(21, 1004, (0, 5, 0))], []), 7, [0, 0, 0, 0, (-1)])], [])
/-- X2_advances -/
def zm_339 : zC := (cX2_advances, 4, zc_339, (zfl_RX2, zwl_RX2), (zk1_RX2, zk2_RX2, []), [(0, 122, zc_346)], [(30, ([(0, 0), (0, 0), (5, 5), ((-1), 6), (0, 7), ((-1), 6)], [(0, (4, 0, 0)), (1, (0, 2, 0)), (2, (0, 3, 0)), (3, (0, 4, 0))], [], [(21, 1005, (0, 5, 0))], []), 7, [0, 0, 0, 0, (-1)])], [])
/-- X2_advances -/
def zm_340 : zC := (cX2_advances, 4, zc_340, (zfl_RX2, zwl_RX2), (zk1_RX2, zk2_RX2, []), [(0, 122, zc_346)], [(30, ([(0, 0), (0, 0), (6, 6), ((-1), 6), (0, 7), ((-1), 6)], [(0, (4, 0, 0)), (1, (0, 2, 0)), (2, (0, 3, 0)), (3, (0, 4, 0))], [], [(21, 1006, (0, 5, 0))], []), 7, [0, 0, 0, 0, (-1)])], [])
/-- X2_countMissed -/
def zm_342 : zC := (cX2_countMissed, 4, zc_342, (zfl_RX2, zwl_RX2), (zk1_RX2, zk2_RX2, []), [(0, 74, zc_298), (0, 80, zc_299)], [(2, ([(0, 0), (0, 0), (0, 0), (0, 7)], [(0, (4, 0, 0)), (1, (2, 0, 0)), (2, (0, 3, 0))], [], [], []), 71, [0, 0, 0, (-9)]), (12, ([(0, 0), (0, 0), (0, 0), (0, 6), (0, 7), (1, 7)], [(0, (4, 0, 0)), (1, (2, 0, 0)), (2, (0, 3, 0)), (3, (0, 4, 0))], [], [(2, 0, (0, 5, 0))], []), 70, [0, 0, 0, (-9), (-1)])], [])
/-- X4_takeNumber -/
def zm_617 : zC := (cX4_takeNumber, 4, zc_617, (zfl_RX4, zwl_RX4), (zk1_RX4, zk2_RX4, []), [(0, 33, zc_632), (0, 109, zc_611), (0, 144, zc_612)], [], [])
/-- X4_takeNumber -/
def zm_618 : zC := (cX4_takeNumber, 4, zc_618, (zfl_RX4, zwl_RX4), (zk1_RX4, zk2_RX4, []), [(0, 33, zc_632), (0, 109, zc_611), (0, 144, zc_612)], [], [])
/-- X4_takeNumber -/
def zm_619 : zC := (cX4_takeNumber, 4, zc_619, (zfl_RX4, zwl_RX4), (zk1_RX4, zk2_RX4, []), [(0, 33, zc_632), (0, 109, zc_611), (0, 144, zc_612)], [], [])
/-- X4_takeNumber -/
def zm_620 : zC := (cX4_takeNumber, 4, zc_620, (zfl_RX4, zwl_RX4), (zk1_RX4, zk2_RX4, []), [(0, 33, zc_632), (0, 109, zc_611), (0, 144, zc_612)], [], [])
/-- X4_takeNumber -/
def zm_621 : zC := (cX4_takeNumber, 4, zc_621, (zfl_RX4, zwl_RX4), (zk1_RX4, zk2_RX4, []), [(0, 33, zc_632), (0, 109, zc_611), (0, 144, zc_612)], [], [])
/-- X4_takeNumber -/
def zm_622 : zC := (cX4_takeNumber, 4, zc_622, (zfl_RX4, zwl_RX4), (zk1_RX4, zk2_RX4, []), [(0, 33, zc_632), (0, 109, zc_611), (0, 144, zc_612)], [], [])
/-- X4_takeNumber -/
def zm_623 : zC := (cX4_takeNumber, 4, zc_623, (zfl_RX4, zwl_RX4), (zk1_RX4, zk2_RX4, []), [(0, 33, zc_632), (0, 109, zc_611), (0, 144, zc_612)], [], [])
/-- X4_takeNumber -/
def zm_624 : zC := (cX4_takeNumber, 4, zc_624, (zfl_RX4, zwl_RX4), (zk1_RX4, zk2_RX4, []), [(0, 33, zc_632), (0, 109, zc_611), (0, 144, zc_612)], [], [])
/-- X4_takeNumber -/
def zm_625 : zC := (cX4_takeNumber, 4, zc_625, (zfl_RX4, zwl_RX4), (zk1_RX4, zk2_RX4, []), [(0, 33, zc_632), (0, 109, zc_611), (0, 144, zc_612)], [], [])
/-- X4_takeNumber -/
def zm_626 : zC := (cX4_takeNumber, 4, zc_626, (zfl_RX4, zwl_RX4), (zk1_RX4, zk2_RX4, []), [(0, 33, zc_632), (0, 109, zc_611), (0, 144, zc_612)], [], [])
/-- X4_takeNumber -/
def zm_627 : zC := (cX4_takeNumber, 4, zc_627, (zfl_RX4, zwl_RX4), (zk1_RX4, zk2_RX4, []), [(0, 33, zc_632), (0, 109, zc_611), (0, 144, zc_612)], [], [])
/-- X4_takeStop -/
def zm_629 : zC := (cX4_takeStop, 1, zc_629, (zfl_RX4, zwl_RX4), (zk1_RX4, zk2_RX4, []), [(0, 33, zc_632), (0, 109, zc_611)], [], [])
/-- X5_at -/
def zm_637 : zC := (cX5_at, 3, zc_637, (zfl_RX5, zwl_RX5), (zk1_RX5, zk2_RX5, []), [(0, 83, zc_303), (0, 87, zc_301), (0, 90, zc_312)], [], [])
/-- X5_chain -/
def zm_646 : zC := (cX5_chain, 2, zc_646, (zfl_RX5, zwl_RX5), (zk1_RX5, zk2_RX5, []), [(0, 83, zc_303), (0, 146, zc_282), (1, 149, zc_0)], [], [])
/-- X5_crowd -/
def zm_653 : zC := (cX5_crowd, 6, zc_653, (zfl_RX5, zwl_RX5), (zk1_RX5, zk2_RX5, []), [(0, 87, zc_301), (0, 192, zc_313), (0, 195, zc_309)], [(22, ([(0, 0), (0, 0), (0, 11), ((-1), 9), (0, 2147483647), (0, 10)], [(0, (7, 0, 0)), (1, (0, 2, 0)), (2, (0, 3, 0)), (3, (0, 4, 0)), (4, (0, 5, 0))], [], [], []), 23622320127, [0, 0, 0, 0, (-11), (-1)])], [])
/-- X5_friend -/
def zm_668 : zC := (cX5_friend, 5, zc_668, (zfl_RX5, zwl_RX5), (zk1_RX5, zk2_RX5, []), [(0, 83, zc_303), (0, 183, zc_299)], [(22, ([(0, 0), (0, 0), (0, 6), ((-1), 6), ((-1), 63), (0, 7)], [(0, (7, 0, 0)), (1, (0, 2, 0)), (2, (0, 3, 0)), (3, (0, 4, 0)), (4, (0, 5, 0))], [], [], []), 7, [0, 0, 0, 0, 0, (-1)])], [])
/-- X5_isTrueOath -/
def zm_677 : zC := (cX5_isTrueOath, 3, zc_677, (zfl_RX5, zwl_RX5), (zk1_RX5, zk2_RX5, []), [(0, 94, zc_319), (0, 239, zc_360), (0, 239, zc_361), (0, 239, zc_372)], [], [])
/-- X5_isTrueOath -/
def zm_678 : zC := (cX5_isTrueOath, 3, zc_678, (zfl_RX5, zwl_RX5), (zk1_RX5, zk2_RX5, []), [(0, 94, zc_319), (0, 239, zc_364), (0, 239, zc_365), (0, 239, zc_366)], [], [])
/-- X5_isTrueOath -/
def zm_679 : zC := (cX5_isTrueOath, 3, zc_679, (zfl_RX5, zwl_RX5), (zk1_RX5, zk2_RX5, []), [(0, 94, zc_319), (0, 239, zc_367), (0, 239, zc_368), (0, 239, zc_369)], [], [])
/-- X5_isTrueOath -/
def zm_680 : zC := (cX5_isTrueOath, 3, zc_680, (zfl_RX5, zwl_RX5), (zk1_RX5, zk2_RX5, []), [(0, 94, zc_319), (0, 239, zc_370), (0, 239, zc_371), (0, 239, zc_373)], [], [])
/-- X5_isTrueOath -/
def zm_681 : zC := (cX5_isTrueOath, 3, zc_681, (zfl_RX5, zwl_RX5), (zk1_RX5, zk2_RX5, []), [(0, 94, zc_319), (0, 239, zc_374), (0, 239, zc_375), (0, 239, zc_376)], [], [])
/-- X5_isTrueOath -/
def zm_682 : zC := (cX5_isTrueOath, 3, zc_682, (zfl_RX5, zwl_RX5), (zk1_RX5, zk2_RX5, []), [(0, 94, zc_319), (0, 239, zc_377), (0, 239, zc_378), (0, 239, zc_379)], [], [])
/-- X5_isTrueOath -/
def zm_683 : zC := (cX5_isTrueOath, 3, zc_683, (zfl_RX5, zwl_RX5), (zk1_RX5, zk2_RX5, []), [(0, 94, zc_319), (0, 239, zc_380), (0, 239, zc_381), (0, 239, zc_382)], [], [])
/-- X5_isTrueOath -/
def zm_684 : zC := (cX5_isTrueOath, 3, zc_684, (zfl_RX5, zwl_RX5), (zk1_RX5, zk2_RX5, []), [(0, 94, zc_319), (0, 239, zc_383), (0, 239, zc_394), (0, 239, zc_405)], [], [])
/-- X5_isTrueOath -/
def zm_685 : zC := (cX5_isTrueOath, 3, zc_685, (zfl_RX5, zwl_RX5), (zk1_RX5, zk2_RX5, []), [(0, 94, zc_319), (0, 239, zc_384), (0, 239, zc_385), (0, 239, zc_386)], [], [])
/-- X5_isTrueOath -/
def zm_686 : zC := (cX5_isTrueOath, 3, zc_686, (zfl_RX5, zwl_RX5), (zk1_RX5, zk2_RX5, []), [(0, 94, zc_319), (0, 239, zc_387), (0, 239, zc_388), (0, 239, zc_389)], [], [])
/-- X5_isTrueOath -/
def zm_687 : zC := (cX5_isTrueOath, 3, zc_687, (zfl_RX5, zwl_RX5), (zk1_RX5, zk2_RX5, []), [(0, 94, zc_319), (0, 239, zc_390), (0, 239, zc_391), (0, 239, zc_392)], [], [])
/-- X5_isTrueOath -/
def zm_688 : zC := (cX5_isTrueOath, 3, zc_688, (zfl_RX5, zwl_RX5), (zk1_RX5, zk2_RX5, []), [(0, 94, zc_319), (0, 239, zc_393), (0, 239, zc_395), (0, 239, zc_396)], [], [])
/-- X5_isTrueOath -/
def zm_689 : zC := (cX5_isTrueOath, 3, zc_689, (zfl_RX5, zwl_RX5), (zk1_RX5, zk2_RX5, []), [(0, 94, zc_319), (0, 239, zc_397), (0, 239, zc_398), (0, 239, zc_399)], [], [])
/-- X5_isTrueOath -/
def zm_690 : zC := (cX5_isTrueOath, 3, zc_690, (zfl_RX5, zwl_RX5), (zk1_RX5, zk2_RX5, []), [(0, 94, zc_319), (0, 239, zc_400), (0, 239, zc_401), (0, 239, zc_402)], [], [])
/-- X5_isTrueOath -/
def zm_691 : zC := (cX5_isTrueOath, 3, zc_691, (zfl_RX5, zwl_RX5), (zk1_RX5, zk2_RX5, []), [(0, 94, zc_319), (0, 239, zc_403), (0, 239, zc_404), (0, 239, zc_406)], [], [])
/-- X5_isTrueOath -/
def zm_692 : zC := (cX5_isTrueOath, 3, zc_692, (zfl_RX5, zwl_RX5), (zk1_RX5, zk2_RX5, []), [(0, 94, zc_319), (0, 239, zc_407), (0, 239, zc_408), (0, 239, zc_409)], [], [])
/-- X5_isTrueOath -/
def zm_693 : zC := (cX5_isTrueOath, 3, zc_693, (zfl_RX5, zwl_RX5), (zk1_RX5, zk2_RX5, []), [(0, 94, zc_319), (0, 239, zc_410), (0, 239, zc_411), (0, 239, zc_412)], [], [])
/-- X5_isTrueOath -/
def zm_694 : zC := (cX5_isTrueOath, 3, zc_694, (zfl_RX5, zwl_RX5), (zk1_RX5, zk2_RX5, []), [(0, 94, zc_319), (0, 239, zc_413), (0, 239, zc_414), (0, 239, zc_415)], [], [])
/-- X5_isTrueOath -/
def zm_695 : zC := (cX5_isTrueOath, 3, zc_695, (zfl_RX5, zwl_RX5), (zk1_RX5, zk2_RX5, []), [(0, 94, zc_319), (0, 239, zc_416), (0, 239, zc_417), (0, 239, zc_418)], [], [])
/-- X5_isTrueOath -/
def zm_696 : zC := (cX5_isTrueOath, 3, zc_696, (zfl_RX5, zwl_RX5), (zk1_RX5, zk2_RX5, []), [(0, 94, zc_319), (0, 239, zc_362), (0, 239, zc_363), (0, 239, zc_419)], [], [])
/-- X5_isTrueOath -/
def zm_697 : zC := (cX5_isTrueOath, 3, zc_697, (zfl_RX5, zwl_RX5), (zk1_RX5, zk2_RX5, []), [(0, 94, zc_319), (0, 239, zc_420), (0, 239, zc_421), (0, 239, zc_432)], [], [])
/-- X5_isTrueOath -/
def zm_698 : zC := (cX5_isTrueOath, 3, zc_698, (zfl_RX5, zwl_RX5), (zk1_RX5, zk2_RX5, []), [(0, 94, zc_319), (0, 239, zc_424), (0, 239, zc_425), (0, 239, zc_426)], [], [])
/-- X5_isTrueOath -/
def zm_699 : zC := (cX5_isTrueOath, 3, zc_699, (zfl_RX5, zwl_RX5), (zk1_RX5, zk2_RX5, []), [(0, 94, zc_319), (0, 239, zc_427), (0, 239, zc_428), (0, 239, zc_429)], [], [])
/-- X5_isTrueOath -/
def zm_700 : zC := (cX5_isTrueOath, 3, zc_700, (zfl_RX5, zwl_RX5), (zk1_RX5, zk2_RX5, []), [(0, 94, zc_319), (0, 239, zc_430), (0, 239, zc_431), (0, 239, zc_433)], [], [])
/-- X5_isTrueOath -/
def zm_701 : zC := (cX5_isTrueOath, 3, zc_701, (zfl_RX5, zwl_RX5), (zk1_RX5, zk2_RX5, []), [(0, 94, zc_319), (0, 239, zc_434), (0, 239, zc_435), (0, 239, zc_436)], [], [])
/-- X5_isTrueOath -/
def zm_702 : zC := (cX5_isTrueOath, 3, zc_702, (zfl_RX5, zwl_RX5), (zk1_RX5, zk2_RX5, []), [(0, 94, zc_319), (0, 239, zc_437), (0, 239, zc_438), (0, 239, zc_439)], [], [])
/-- X5_isTrueOath -/
def zm_703 : zC := (cX5_isTrueOath, 3, zc_703, (zfl_RX5, zwl_RX5), (zk1_RX5, zk2_RX5, []), [(0, 94, zc_319), (0, 239, zc_440), (0, 239, zc_441), (0, 239, zc_442)], [], [])
/-- X5_isTrueOath -/
def zm_704 : zC := (cX5_isTrueOath, 3, zc_704, (zfl_RX5, zwl_RX5), (zk1_RX5, zk2_RX5, []), [(0, 94, zc_319), (0, 239, zc_443), (0, 239, zc_454), (0, 239, zc_465)], [], [])
/-- X5_isTrueOath -/
def zm_705 : zC := (cX5_isTrueOath, 3, zc_705, (zfl_RX5, zwl_RX5), (zk1_RX5, zk2_RX5, []), [(0, 94, zc_319), (0, 239, zc_444), (0, 239, zc_445), (0, 239, zc_446)], [], [])
/-- X5_isTrueOath -/
def zm_706 : zC := (cX5_isTrueOath, 3, zc_706, (zfl_RX5, zwl_RX5), (zk1_RX5, zk2_RX5, []), [(0, 94, zc_319), (0, 239, zc_447), (0, 239, zc_448), (0, 239, zc_449)], [], [])
/-- X5_isTrueOath -/
def zm_707 : zC := (cX5_isTrueOath, 3, zc_707, (zfl_RX5, zwl_RX5), (zk1_RX5, zk2_RX5, []), [(0, 94, zc_319), (0, 239, zc_450), (0, 239, zc_451), (0, 239, zc_452)], [], [])
/-- X5_isTrueOath -/
def zm_708 : zC := (cX5_isTrueOath, 3, zc_708, (zfl_RX5, zwl_RX5), (zk1_RX5, zk2_RX5, []), [(0, 94, zc_319), (0, 239, zc_453), (0, 239, zc_455), (0, 239, zc_456)], [], [])
/-- X5_isTrueOath -/
def zm_709 : zC := (cX5_isTrueOath, 3, zc_709, (zfl_RX5, zwl_RX5), (zk1_RX5, zk2_RX5, []), [(0, 94, zc_319), (0, 239, zc_457), (0, 239, zc_458), (0, 239, zc_459)], [], [])
/-- X5_isTrueOath -/
def zm_710 : zC := (cX5_isTrueOath, 3, zc_710, (zfl_RX5, zwl_RX5), (zk1_RX5, zk2_RX5, []), [(0, 94, zc_319), (0, 239, zc_460), (0, 239, zc_461), (0, 239, zc_462)], [], [])
/-- X5_isTrueOath -/
def zm_711 : zC := (cX5_isTrueOath, 3, zc_711, (zfl_RX5, zwl_RX5), (zk1_RX5, zk2_RX5, []), [(0, 94, zc_319), (0, 239, zc_463), (0, 239, zc_464), (0, 239, zc_466)], [], [])
/-- X5_isTrueOath -/
def zm_712 : zC := (cX5_isTrueOath, 3, zc_712, (zfl_RX5, zwl_RX5), (zk1_RX5, zk2_RX5, []), [(0, 94, zc_319), (0, 239, zc_467), (0, 239, zc_468), (0, 239, zc_469)], [], [])
/-- X5_isTrueOath -/
def zm_713 : zC := (cX5_isTrueOath, 3, zc_713, (zfl_RX5, zwl_RX5), (zk1_RX5, zk2_RX5, []), [(0, 94, zc_319), (0, 239, zc_470), (0, 239, zc_471), (0, 239, zc_472)], [], [])
/-- X5_isTrueOath -/
def zm_714 : zC := (cX5_isTrueOath, 3, zc_714, (zfl_RX5, zwl_RX5), (zk1_RX5, zk2_RX5, []), [(0, 94, zc_319), (0, 239, zc_473), (0, 239, zc_474), (0, 239, zc_475)], [], [])
/-- X5_isTrueOath -/
def zm_715 : zC := (cX5_isTrueOath, 3, zc_715, (zfl_RX5, zwl_RX5), (zk1_RX5, zk2_RX5, []), [(0, 94, zc_319), (0, 239, zc_476), (0, 239, zc_477), (0, 239, zc_478)], [], [])
/-- X5_isTrueOath -/
def zm_716 : zC := (cX5_isTrueOath, 3, zc_716, (zfl_RX5, zwl_RX5), (zk1_RX5, zk2_RX5, []), [(0, 94, zc_319), (0, 239, zc_422), (0, 239, zc_423), (0, 239, zc_479)], [], [])
/-- X5_isTrueOath -/
def zm_717 : zC := (cX5_isTrueOath, 3, zc_717, (zfl_RX5, zwl_RX5), (zk1_RX5, zk2_RX5, []), [(0, 94, zc_319), (0, 239, zc_480), (0, 239, zc_481), (0, 239, zc_492)], [], [])
/-- X5_isTrueOath -/
def zm_718 : zC := (cX5_isTrueOath, 3, zc_718, (zfl_RX5, zwl_RX5), (zk1_RX5, zk2_RX5, []), [(0, 94, zc_319), (0, 239, zc_484), (0, 239, zc_485), (0, 239, zc_486)], [], [])
/-- X5_isTrueOath -/
def zm_719 : zC := (cX5_isTrueOath, 3, zc_719, (zfl_RX5, zwl_RX5), (zk1_RX5, zk2_RX5, []), [(0, 94, zc_319), (0, 239, zc_487), (0, 239, zc_488), (0, 239, zc_489)], [], [])
/-- X5_isTrueOath -/
def zm_720 : zC := (cX5_isTrueOath, 3, zc_720, (zfl_RX5, zwl_RX5), (zk1_RX5, zk2_RX5, []), [(0, 94, zc_319), (0, 239, zc_490), (0, 239, zc_491), (0, 239, zc_493)], [], [])
/-- X5_isTrueOath -/
def zm_721 : zC := (cX5_isTrueOath, 3, zc_721, (zfl_RX5, zwl_RX5), (zk1_RX5, zk2_RX5, []), [(0, 94, zc_319), (0, 239, zc_494), (0, 239, zc_495), (0, 239, zc_496)], [], [])
/-- X5_isTrueOath -/
def zm_722 : zC := (cX5_isTrueOath, 3, zc_722, (zfl_RX5, zwl_RX5), (zk1_RX5, zk2_RX5, []), [(0, 94, zc_319), (0, 239, zc_497), (0, 239, zc_498), (0, 239, zc_499)], [], [])
/-- X5_isTrueOath -/
def zm_723 : zC := (cX5_isTrueOath, 3, zc_723, (zfl_RX5, zwl_RX5), (zk1_RX5, zk2_RX5, []), [(0, 94, zc_319), (0, 239, zc_500), (0, 239, zc_501), (0, 239, zc_502)], [], [])
/-- X5_isTrueOath -/
def zm_724 : zC := (cX5_isTrueOath, 3, zc_724, (zfl_RX5, zwl_RX5), (zk1_RX5, zk2_RX5, []), [(0, 94, zc_319), (0, 239, zc_503), (0, 239, zc_514), (0, 239, zc_525)], [], [])
/-- X5_isTrueOath -/
def zm_725 : zC := (cX5_isTrueOath, 3, zc_725, (zfl_RX5, zwl_RX5), (zk1_RX5, zk2_RX5, []), [(0, 94, zc_319), (0, 239, zc_504), (0, 239, zc_505), (0, 239, zc_506)], [], [])
/-- X5_isTrueOath -/
def zm_726 : zC := (cX5_isTrueOath, 3, zc_726, (zfl_RX5, zwl_RX5), (zk1_RX5, zk2_RX5, []), [(0, 94, zc_319), (0, 239, zc_507), (0, 239, zc_508), (0, 239, zc_509)], [], [])
/-- X5_isTrueOath -/
def zm_727 : zC := (cX5_isTrueOath, 3, zc_727, (zfl_RX5, zwl_RX5), (zk1_RX5, zk2_RX5, []), [(0, 94, zc_319), (0, 239, zc_510), (0, 239, zc_511), (0, 239, zc_512)], [], [])
/-- X5_isTrueOath -/
def zm_728 : zC := (cX5_isTrueOath, 3, zc_728, (zfl_RX5, zwl_RX5), (zk1_RX5, zk2_RX5, []), [(0, 94, zc_319), (0, 239, zc_513), (0, 239, zc_515), (0, 239, zc_516)], [], [])
/-- X5_isTrueOath -/
def zm_729 : zC := (cX5_isTrueOath, 3, zc_729, (zfl_RX5, zwl_RX5), (zk1_RX5, zk2_RX5, []), [(0, 94, zc_319), (0, 239, zc_517), (0, 239, zc_518), (0, 239, zc_519)], [], [])
/-- X5_isTrueOath -/
def zm_730 : zC := (cX5_isTrueOath, 3, zc_730, (zfl_RX5, zwl_RX5), (zk1_RX5, zk2_RX5, []), [(0, 94, zc_319), (0, 239, zc_520), (0, 239, zc_521), (0, 239, zc_522)], [], [])
/-- X5_isTrueOath -/
def zm_731 : zC := (cX5_isTrueOath, 3, zc_731, (zfl_RX5, zwl_RX5), (zk1_RX5, zk2_RX5, []), [(0, 94, zc_319), (0, 239, zc_523), (0, 239, zc_524), (0, 239, zc_526)], [], [])
/-- X5_isTrueOath -/
def zm_732 : zC := (cX5_isTrueOath, 3, zc_732, (zfl_RX5, zwl_RX5), (zk1_RX5, zk2_RX5, []), [(0, 94, zc_319), (0, 239, zc_527), (0, 239, zc_528), (0, 239, zc_529)], [], [])
/-- X5_isTrueOath -/
def zm_733 : zC := (cX5_isTrueOath, 3, zc_733, (zfl_RX5, zwl_RX5), (zk1_RX5, zk2_RX5, []), [(0, 94, zc_319), (0, 239, zc_530), (0, 239, zc_531), (0, 239, zc_532)], [], [])
/-- X5_isTrueOath -/
def zm_734 : zC := (cX5_isTrueOath, 3, zc_734, (zfl_RX5, zwl_RX5), (zk1_RX5, zk2_RX5, []), [(0, 94, zc_319), (0, 239, zc_533), (0, 239, zc_534), (0, 239, zc_535)], [], [])
/-- X5_isTrueOath -/
def zm_735 : zC := (cX5_isTrueOath, 3, zc_735, (zfl_RX5, zwl_RX5), (zk1_RX5, zk2_RX5, []), [(0, 94, zc_319), (0, 239, zc_536), (0, 239, zc_537), (0, 239, zc_538)], [], [])
/-- X5_isTrueOath -/
def zm_736 : zC := (cX5_isTrueOath, 3, zc_736, (zfl_RX5, zwl_RX5), (zk1_RX5, zk2_RX5, []), [(0, 94, zc_319), (0, 239, zc_482), (0, 239, zc_483), (0, 239, zc_539)], [], [])
/-- X5_isTrueOath -/
def zm_737 : zC := (cX5_isTrueOath, 3, zc_737, (zfl_RX5, zwl_RX5), (zk1_RX5, zk2_RX5, []), [(0, 94, zc_319), (0, 239, zc_540), (0, 239, zc_541), (0, 239, zc_552)], [], [])
/-- X5_isTrueOath -/
def zm_738 : zC := (cX5_isTrueOath, 3, zc_738, (zfl_RX5, zwl_RX5), (zk1_RX5, zk2_RX5, []), [(0, 94, zc_319), (0, 239, zc_544), (0, 239, zc_545), (0, 239, zc_546)], [], [])
/-- X5_isTrueOath -/
def zm_739 : zC := (cX5_isTrueOath, 3, zc_739, (zfl_RX5, zwl_RX5), (zk1_RX5, zk2_RX5, []), [(0, 94, zc_319), (0, 239, zc_547), (0, 239, zc_548), (0, 239, zc_549)], [], [])
/-- X5_isTrueOath -/
def zm_740 : zC := (cX5_isTrueOath, 3, zc_740, (zfl_RX5, zwl_RX5), (zk1_RX5, zk2_RX5, []), [(0, 94, zc_319), (0, 239, zc_550), (0, 239, zc_551), (0, 239, zc_553)], [], [])
/-- X5_isTrueOath -/
def zm_741 : zC := (cX5_isTrueOath, 3, zc_741, (zfl_RX5, zwl_RX5), (zk1_RX5, zk2_RX5, []), [(0, 94, zc_319), (0, 239, zc_554), (0, 239, zc_555), (0, 239, zc_556)], [], [])
/-- X5_isTrueOath -/
def zm_742 : zC := (cX5_isTrueOath, 3, zc_742, (zfl_RX5, zwl_RX5), (zk1_RX5, zk2_RX5, []), [(0, 94, zc_319), (0, 239, zc_557), (0, 239, zc_558), (0, 239, zc_559)], [], [])
/-- X5_isTrueOath -/
def zm_743 : zC := (cX5_isTrueOath, 3, zc_743, (zfl_RX5, zwl_RX5), (zk1_RX5, zk2_RX5, []), [(0, 94, zc_319), (0, 239, zc_560), (0, 239, zc_561), (0, 239, zc_562)], [], [])
/-- X5_isTrueOath -/
def zm_744 : zC := (cX5_isTrueOath, 3, zc_744, (zfl_RX5, zwl_RX5), (zk1_RX5, zk2_RX5, []), [(0, 94, zc_319), (0, 239, zc_563), (0, 239, zc_574), (0, 239, zc_585)], [], [])
/-- X5_isTrueOath -/
def zm_745 : zC := (cX5_isTrueOath, 3, zc_745, (zfl_RX5, zwl_RX5), (zk1_RX5, zk2_RX5, []), [(0, 94, zc_319), (0, 239, zc_564), (0, 239, zc_565), (0, 239, zc_566)], [], [])
/-- X5_isTrueOath -/
def zm_746 : zC := (cX5_isTrueOath, 3, zc_746, (zfl_RX5, zwl_RX5), (zk1_RX5, zk2_RX5, []), [(0, 94, zc_319), (0, 239, zc_567), (0, 239, zc_568), (0, 239, zc_569)], [], [])
/-- X5_isTrueOath -/
def zm_747 : zC := (cX5_isTrueOath, 3, zc_747, (zfl_RX5, zwl_RX5), (zk1_RX5, zk2_RX5, []), [(0, 94, zc_319), (0, 239, zc_570), (0, 239, zc_571), (0, 239, zc_572)], [], [])
/-- X5_isTrueOath -/
def zm_748 : zC := (cX5_isTrueOath, 3, zc_748, (zfl_RX5, zwl_RX5), (zk1_RX5, zk2_RX5, []), [(0, 94, zc_319), (0, 239, zc_573), (0, 239, zc_575), (0, 239, zc_576)], [], [])
/-- X5_isTrueOath -/
def zm_749 : zC := (cX5_isTrueOath, 3, zc_749, (zfl_RX5, zwl_RX5), (zk1_RX5, zk2_RX5, []), [(0, 94, zc_319), (0, 239, zc_577), (0, 239, zc_578), (0, 239, zc_579)], [], [])
/-- X5_isTrueOath -/
def zm_750 : zC := (cX5_isTrueOath, 3, zc_750, (zfl_RX5, zwl_RX5), (zk1_RX5, zk2_RX5, []), [(0, 94, zc_319), (0, 239, zc_580), (0, 239, zc_581), (0, 239, zc_582)], [], [])
/-- X5_isTrueOath -/
def zm_751 : zC := (cX5_isTrueOath, 3, zc_751, (zfl_RX5, zwl_RX5), (zk1_RX5, zk2_RX5, []), [(0, 94, zc_319), (0, 239, zc_583), (0, 239, zc_584), (0, 239, zc_586)], [], [])
/-- X5_isTrueOath -/
def zm_752 : zC := (cX5_isTrueOath, 3, zc_752, (zfl_RX5, zwl_RX5), (zk1_RX5, zk2_RX5, []), [(0, 94, zc_319), (0, 239, zc_587), (0, 239, zc_588), (0, 239, zc_589)], [], [])
/-- X5_isTrueOath -/
def zm_753 : zC := (cX5_isTrueOath, 3, zc_753, (zfl_RX5, zwl_RX5), (zk1_RX5, zk2_RX5, []), [(0, 94, zc_319), (0, 239, zc_590), (0, 239, zc_591), (0, 239, zc_592)], [], [])
/-- X5_isTrueOath -/
def zm_754 : zC := (cX5_isTrueOath, 3, zc_754, (zfl_RX5, zwl_RX5), (zk1_RX5, zk2_RX5, []), [(0, 94, zc_319), (0, 239, zc_593), (0, 239, zc_594), (0, 239, zc_595)], [], [])
/-- X5_isTrueOath -/
def zm_755 : zC := (cX5_isTrueOath, 3, zc_755, (zfl_RX5, zwl_RX5), (zk1_RX5, zk2_RX5, []), [(0, 94, zc_319), (0, 239, zc_596), (0, 239, zc_597), (0, 239, zc_598)], [], [])
/-- X5_isTrueOath -/
def zm_756 : zC := (cX5_isTrueOath, 3, zc_756, (zfl_RX5, zwl_RX5), (zk1_RX5, zk2_RX5, []), [(0, 94, zc_319), (0, 239, zc_542), (0, 239, zc_543), (0, 239, zc_599)], [], [])
/-- X5_often -/
def zm_768 : zC := (cX5_often, 3, zc_768, (zfl_RX5, zwl_RX5), (zk1_RX5, zk2_RX5, []), [(0, 179, zc_302), (0, 183, zc_299)], [], [])
/-- X5_refuseDeeds -/
def zm_770 : zC := (cX5_refuseDeeds, 4, zc_770, (zfl_RX5, zwl_RX5), (zk1_RX5, zk2_RX5, []), [(0, 355, zc_782)], [], [])
/-- X5_refuseDeeds -/
def zfm_771 : zmem := ([(31, 1000, (0, 3, 0))] ++ zmrun 32 1000 2 1 4 30)
def zt_771_0 : zcut := (15, (([(0, 0), (0, 0), (0, 0), (0, 60)] ++ List.replicate 30 ((-9223372036854775808), 9223372036854775807) ++ [(0, 0), (0, 0)]), [(0, (7, 0, 0)), (1, (0, 2, 0)), (2, (0, 34, 0)), (3, (0, 35, 0))], [], zfm_771, [([(3, 100)], 3, 0, 2)]), 30, [])
def zt_771_1 : zcut := (15, (([(0, 0), (0, 0), (0, 0), (2, 60), (0, 11)] ++ List.replicate 29 ((-9223372036854775808), 9223372036854775807) ++ [(0, 0), (2, 2), (0, 9)]), [(0, (7, 0, 0)), (1, (0, 2, 0)), (2, (0, 34, 0)), (3, (0, 35, 0))], [], (zfm_771 ++ [(32, 1001, (1, 36, 0))]), [([(3, 100)], 3, 0, 2)]), 29, [])
def zt_771_2 : zcut := (15, (([(0, 0), (0, 0), (0, 0), (4, 60), (0, 11), (0, 11)] ++ List.replicate 28 ((-9223372036854775808), 9223372036854775807) ++ [(0, 0), (4, 4), (0, 9), (0, 9)]), [(0, (7, 0, 0)), (1, (0, 2, 0)), (2, (0, 34, 0)), (3, (0, 35, 0))], [], (zfm_771 ++ [(32, 1001, (1, 36, 0)), (32, 1003, (1, 37, 0))]), [([(3, 100)], 3, 0, 2)]), 28, [])
def zt_771_3 : zcut := (15, (([(0, 0), (0, 0), (0, 0), (6, 60), (0, 11), (0, 11), (0, 11)] ++ List.replicate 27 ((-9223372036854775808), 9223372036854775807) ++ [(0, 0), (6, 6), (0, 9), (0, 9), (0, 9)]), [(0, (7, 0, 0)), (1, (0, 2, 0)), (2, (0, 34, 0)), (3, (0, 35, 0))], [], (zfm_771 ++ [(32, 1001, (1, 36, 0)), (32, 1003, (1, 37, 0)), (32, 1005, (1, 38, 0))]), [([(3, 100)], 3, 0, 2)]), 27, [])
def zt_771_4 : zcut := (15, (([(0, 0), (0, 0), (0, 0), (8, 60), (0, 11), (0, 11), (0, 11), (0, 11)] ++ List.replicate 26 ((-9223372036854775808), 9223372036854775807) ++ [(0, 0), (8, 8), (0, 9), (0, 9), (0, 9), (0, 9)]), [(0, (7, 0, 0)), (1, (0, 2, 0)), (2, (0, 34, 0)), (3, (0, 35, 0))], [], (zfm_771 ++ [(32, 1001, (1, 36, 0)), (32, 1003, (1, 37, 0)), (32, 1005, (1, 38, 0)), (32, 1007, (1, 39, 0))]), [([(3, 100)], 3, 0, 2)]), 26, [])
def zt_771_5 : zcut := (15, (([(0, 0), (0, 0), (0, 0), (10, 60), (0, 11), (0, 11), (0, 11), (0, 11), (0, 11)] ++ List.replicate 25 ((-9223372036854775808), 9223372036854775807) ++ [(0, 0), (10, 10), (0, 9), (0, 9), (0, 9), (0, 9), (0, 9)]), [(0, (7, 0, 0)), (1, (0, 2, 0)), (2, (0, 34, 0)), (3, (0, 35, 0))], [], (zfm_771 ++ zmrun 32 1001 2 1 36 5), [([(3, 100)], 3, 0, 2)]), 25, [])
def zt_771_6 : zcut := (15, (([(0, 0), (0, 0), (0, 0), (12, 60)] ++ List.replicate 6 (0, 11) ++ List.replicate 24 ((-9223372036854775808), 9223372036854775807) ++ [(0, 0), (12, 12)] ++ List.replicate 6 (0, 9)), [(0, (7, 0, 0)), (1, (0, 2, 0)), (2, (0, 34, 0)), (3, (0, 35, 0))], [], (zfm_771 ++ zmrun 32 1001 2 1 36 6), [([(3, 100)], 3, 0, 2)]), 24, [])
def zt_771_7 : zcut := (15, (([(0, 0), (0, 0), (0, 0), (14, 60)] ++ List.replicate 7 (0, 11) ++ List.replicate 23 ((-9223372036854775808), 9223372036854775807) ++ [(0, 0), (14, 14)] ++ List.replicate 7 (0, 9)), [(0, (7, 0, 0)), (1, (0, 2, 0)), (2, (0, 34, 0)), (3, (0, 35, 0))], [], (zfm_771 ++ zmrun 32 1001 2 1 36 7), [([(3, 100)], 3, 0, 2)]), 23, [])
def zt_771_8 : zcut := (15, (([(0, 0), (0, 0), (0, 0), (16, 60)] ++ List.replicate 8 (0, 11) ++ List.replicate 22 ((-9223372036854775808), 9223372036854775807) ++ [(0, 0), (16, 16)] ++ List.replicate 8 (0, 9)), [(0, (7, 0, 0)), (1, (0, 2, 0)), (2, (0, 34, 0)), (3, (0, 35, 0))], [], (zfm_771 ++ zmrun 32 1001 2 1 36 8), [([(3, 100)], 3, 0, 2)]), 22, [])
def zt_771_9 : zcut := (15, (([(0, 0), (0, 0), (0, 0), (18, 60)] ++ List.replicate 9 (0, 11) ++ List.replicate 21 ((-9223372036854775808), 9223372036854775807) ++ [(0, 0), (18, 18)] ++ List.replicate 9 (0, 9)), [(0, (7, 0, 0)), (1, (0, 2, 0)), (2, (0, 34, 0)), (3, (0, 35, 0))], [], (zfm_771 ++ zmrun 32 1001 2 1 36 9), [([(3, 100)], 3, 0, 2)]), 21, [])
def zt_771_10 : zcut := (15, (([(0, 0), (0, 0), (0, 0), (20, 60)] ++ List.replicate 10 (0, 11) ++ List.replicate 20 ((-9223372036854775808), 9223372036854775807) ++ [(0, 0), (20, 20)] ++ List.replicate 10 (0, 9)), [(0, (7, 0, 0)), (1, (0, 2, 0)), (2, (0, 34, 0)), (3, (0, 35, 0))], [], (zfm_771 ++ zmrun 32 1001 2 1 36 10), [([(3, 100)], 3, 0, 2)]), 20, [])
def zt_771_11 : zcut := (15, (([(0, 0), (0, 0), (0, 0), (22, 60)] ++ List.replicate 11 (0, 11) ++ List.replicate 19 ((-9223372036854775808), 9223372036854775807) ++ [(0, 0), (22, 22)] ++ List.replicate 11 (0, 9)), [(0, (7, 0, 0)), (1, (0, 2, 0)), (2, (0, 34, 0)), (3, (0, 35, 0))], [], (zfm_771 ++ zmrun 32 1001 2 1 36 11), [([(3, 100)], 3, 0, 2)]), 19, [])
def zt_771_12 : zcut := (15, (([(0, 0), (0, 0), (0, 0), (24, 60)] ++ List.replicate 12 (0, 11) ++ List.replicate 18 ((-9223372036854775808), 9223372036854775807) ++ [(0, 0), (24, 24)] ++ List.replicate 12 (0, 9)), [(0, (7, 0, 0)), (1, (0, 2, 0)), (2, (0, 34, 0)), (3, (0, 35, 0))], [], (zfm_771 ++ zmrun 32 1001 2 1 36 12), [([(3, 100)], 3, 0, 2)]), 18, [])
def zt_771_13 : zcut := (15, (([(0, 0), (0, 0), (0, 0), (26, 60)] ++ List.replicate 13 (0, 11) ++ List.replicate 17 ((-9223372036854775808), 9223372036854775807) ++ [(0, 0), (26, 26)] ++ List.replicate 13 (0, 9)), [(0, (7, 0, 0)), (1, (0, 2, 0)), (2, (0, 34, 0)), (3, (0, 35, 0))], [], (zfm_771 ++ zmrun 32 1001 2 1 36 13), [([(3, 100)], 3, 0, 2)]), 17, [])
def zt_771_14 : zcut := (15, (([(0, 0), (0, 0), (0, 0), (28, 60)] ++ List.replicate 14 (0, 11) ++ List.replicate 16 ((-9223372036854775808), 9223372036854775807) ++ [(0, 0), (28, 28)] ++ List.replicate 14 (0, 9)), [(0, (7, 0, 0)), (1, (0, 2, 0)), (2, (0, 34, 0)), (3, (0, 35, 0))], [], (zfm_771 ++ zmrun 32 1001 2 1 36 14), [([(3, 100)], 3, 0, 2)]), 16, [])
def zt_771_15 : zcut := (15, (([(0, 0), (0, 0), (0, 0), (30, 60)] ++ List.replicate 15 (0, 11) ++ List.replicate 15 ((-9223372036854775808), 9223372036854775807) ++ [(0, 0), (30, 30)] ++ List.replicate 15 (0, 9)), [(0, (7, 0, 0)), (1, (0, 2, 0)), (2, (0, 34, 0)), (3, (0, 35, 0))], [], (zfm_771 ++ zmrun 32 1001 2 1 36 15), [([(3, 100)], 3, 0, 2)]), 15, [])
def zt_771_16 : zcut := (15, (([(0, 0), (0, 0), (0, 0), (32, 60)] ++ List.replicate 16 (0, 11) ++ List.replicate 14 ((-9223372036854775808), 9223372036854775807) ++ [(0, 0), (32, 32)] ++ List.replicate 16 (0, 9)), [(0, (7, 0, 0)), (1, (0, 2, 0)), (2, (0, 34, 0)), (3, (0, 35, 0))], [], (zfm_771 ++ zmrun 32 1001 2 1 36 16), [([(3, 100)], 3, 0, 2)]), 14, [])
def zt_771_17 : zcut := (15, (([(0, 0), (0, 0), (0, 0), (34, 60)] ++ List.replicate 17 (0, 11) ++ List.replicate 13 ((-9223372036854775808), 9223372036854775807) ++ [(0, 0), (34, 34)] ++ List.replicate 17 (0, 9)), [(0, (7, 0, 0)), (1, (0, 2, 0)), (2, (0, 34, 0)), (3, (0, 35, 0))], [], (zfm_771 ++ zmrun 32 1001 2 1 36 17), [([(3, 100)], 3, 0, 2)]), 13, [])
def zt_771_18 : zcut := (15, (([(0, 0), (0, 0), (0, 0), (36, 60)] ++ List.replicate 18 (0, 11) ++ List.replicate 12 ((-9223372036854775808), 9223372036854775807) ++ [(0, 0), (36, 36)] ++ List.replicate 18 (0, 9)), [(0, (7, 0, 0)), (1, (0, 2, 0)), (2, (0, 34, 0)), (3, (0, 35, 0))], [], (zfm_771 ++ zmrun 32 1001 2 1 36 18), [([(3, 100)], 3, 0, 2)]), 12, [])
def zt_771_19 : zcut := (15, (([(0, 0), (0, 0), (0, 0), (38, 60)] ++ List.replicate 19 (0, 11) ++ List.replicate 11 ((-9223372036854775808), 9223372036854775807) ++ [(0, 0), (38, 38)] ++ List.replicate 19 (0, 9)), [(0, (7, 0, 0)), (1, (0, 2, 0)), (2, (0, 34, 0)), (3, (0, 35, 0))], [], (zfm_771 ++ zmrun 32 1001 2 1 36 19), [([(3, 100)], 3, 0, 2)]), 11, [])
def zt_771_20 : zcut := (15, (([(0, 0), (0, 0), (0, 0), (40, 60)] ++ List.replicate 20 (0, 11) ++ List.replicate 10 ((-9223372036854775808), 9223372036854775807) ++ [(0, 0), (40, 40)] ++ List.replicate 20 (0, 9)), [(0, (7, 0, 0)), (1, (0, 2, 0)), (2, (0, 34, 0)), (3, (0, 35, 0))], [], (zfm_771 ++ zmrun 32 1001 2 1 36 20), [([(3, 100)], 3, 0, 2)]), 10, [])
def zt_771_21 : zcut := (15, (([(0, 0), (0, 0), (0, 0), (42, 60)] ++ List.replicate 21 (0, 11) ++ List.replicate 9 ((-9223372036854775808), 9223372036854775807) ++ [(0, 0), (42, 42)] ++ List.replicate 21 (0, 9)), [(0, (7, 0, 0)), (1, (0, 2, 0)), (2, (0, 34, 0)), (3, (0, 35, 0))], [], (zfm_771 ++ zmrun 32 1001 2 1 36 21), [([(3, 100)], 3, 0, 2)]), 9, [])
def zt_771_22 : zcut := (15, (([(0, 0), (0, 0), (0, 0), (44, 60)] ++ List.replicate 22 (0, 11) ++ List.replicate 8 ((-9223372036854775808), 9223372036854775807) ++ [(0, 0), (44, 44)] ++ List.replicate 22 (0, 9)), [(0, (7, 0, 0)), (1, (0, 2, 0)), (2, (0, 34, 0)), (3, (0, 35, 0))], [], (zfm_771 ++ zmrun 32 1001 2 1 36 22), [([(3, 100)], 3, 0, 2)]), 8, [])
def zt_771_23 : zcut := (15, (([(0, 0), (0, 0), (0, 0), (46, 60)] ++ List.replicate 23 (0, 11) ++ List.replicate 7 ((-9223372036854775808), 9223372036854775807) ++ [(0, 0), (46, 46)] ++ List.replicate 23 (0, 9)), [(0, (7, 0, 0)), (1, (0, 2, 0)), (2, (0, 34, 0)), (3, (0, 35, 0))], [], (zfm_771 ++ zmrun 32 1001 2 1 36 23), [([(3, 100)], 3, 0, 2)]), 7, [])
def zt_771_24 : zcut := (15, (([(0, 0), (0, 0), (0, 0), (48, 60)] ++ List.replicate 24 (0, 11) ++ List.replicate 6 ((-9223372036854775808), 9223372036854775807) ++ [(0, 0), (48, 48)] ++ List.replicate 24 (0, 9)), [(0, (7, 0, 0)), (1, (0, 2, 0)), (2, (0, 34, 0)), (3, (0, 35, 0))], [], (zfm_771 ++ zmrun 32 1001 2 1 36 24), [([(3, 100)], 3, 0, 2)]), 6, [])
def zt_771_25 : zcut := (15, (([(0, 0), (0, 0), (0, 0), (50, 60)] ++ List.replicate 25 (0, 11) ++ [((-9223372036854775808), 9223372036854775807), ((-9223372036854775808), 9223372036854775807), ((-9223372036854775808), 9223372036854775807), ((-9223372036854775808), 9223372036854775807), ((-9223372036854775808), 9223372036854775807), (0, 0), (50, 50)] ++ List.replicate 25 (0, 9)), [(0, (7, 0, 0)), (1, (0, 2, 0)), (2, (0, 34, 0)), (3, (0, 35, 0))], [], (zfm_771 ++ zmrun 32 1001 2 1 36 25), [([(3, 100)], 3, 0, 2)]), 5, [])
def zt_771_26 : zcut := (15, (([(0, 0), (0, 0), (0, 0), (52, 60)] ++ List.replicate 26 (0, 11) ++ [((-9223372036854775808), 9223372036854775807), ((-9223372036854775808), 9223372036854775807), ((-9223372036854775808), 9223372036854775807), ((-9223372036854775808), 9223372036854775807), (0, 0), (52, 52)] ++ List.replicate 26 (0, 9)), [(0, (7, 0, 0)), (1, (0, 2, 0)), (2, (0, 34, 0)), (3, (0, 35, 0))], [], (zfm_771 ++ zmrun 32 1001 2 1 36 26), [([(3, 100)], 3, 0, 2)]), 4, [])
def zt_771_27 : zcut := (15, (([(0, 0), (0, 0), (0, 0), (54, 60)] ++ List.replicate 27 (0, 11) ++ [((-9223372036854775808), 9223372036854775807), ((-9223372036854775808), 9223372036854775807), ((-9223372036854775808), 9223372036854775807), (0, 0), (54, 54)] ++ List.replicate 27 (0, 9)), [(0, (7, 0, 0)), (1, (0, 2, 0)), (2, (0, 34, 0)), (3, (0, 35, 0))], [], (zfm_771 ++ zmrun 32 1001 2 1 36 27), [([(3, 100)], 3, 0, 2)]), 3, [])
def zt_771_28 : zcut := (15, (([(0, 0), (0, 0), (0, 0), (56, 60)] ++ List.replicate 28 (0, 11) ++ [((-9223372036854775808), 9223372036854775807), ((-9223372036854775808), 9223372036854775807), (0, 0), (56, 56)] ++ List.replicate 28 (0, 9)), [(0, (7, 0, 0)), (1, (0, 2, 0)), (2, (0, 34, 0)), (3, (0, 35, 0))], [], (zfm_771 ++ zmrun 32 1001 2 1 36 28), [([(3, 100)], 3, 0, 2)]), 2, [])
def zt_771_29 : zcut := (15, (([(0, 0), (0, 0), (0, 0), (58, 60)] ++ List.replicate 29 (0, 11) ++ [((-9223372036854775808), 9223372036854775807), (0, 0), (58, 58)] ++ List.replicate 29 (0, 9)), [(0, (7, 0, 0)), (1, (0, 2, 0)), (2, (0, 34, 0)), (3, (0, 35, 0))], [], (zfm_771 ++ zmrun 32 1001 2 1 36 29), [([(3, 100)], 3, 0, 2)]), 1, [])
def zt_771_30 : zcut := (15, (([(0, 0), (0, 0), (0, 0), (60, 60)] ++ List.replicate 30 (0, 11) ++ [(0, 0), (60, 60)] ++ List.replicate 30 (0, 9)), [(0, (7, 0, 0)), (1, (0, 2, 0)), (2, (0, 34, 0)), (3, (0, 35, 0))], [], (zfm_771 ++ zmrun 32 1001 2 1 36 30), [([(3, 100)], 3, 0, 2)]), 0, [])
def zm_771 : zC := (cX5_refuseDeeds, 4, zc_771, (zfl_RX5, zwl_RX5), (zk1_RX5, zk2_RX5, []), [(0, 87, zc_301), (0, 186, zc_304), (0, 239, zc_360), (0, 239, zc_361), (0, 239, zc_362), (0, 239, zc_363), (0, 239, zc_364), (0, 239, zc_365), (0, 239, zc_366), (0, 239, zc_367), (0, 239, zc_368), (0, 239, zc_369), (0, 239, zc_370), (0, 239, zc_371), (0, 239, zc_372), (0, 239, zc_373), (0, 239, zc_374), (0, 239, zc_375), (0, 239, zc_376), (0, 239, zc_377), (0, 239, zc_378), (0, 239, zc_379), (0, 239, zc_380), (0, 239, zc_381), (0, 239, zc_382), (0, 239, zc_383), (0, 239, zc_384), (0, 239, zc_385), (0, 239, zc_386), (0, 239, zc_387), (0, 239, zc_388), (0, 239, zc_389), (0, 239, zc_390), (0, 239, zc_391), (0, 239, zc_392), (0, 239, zc_393), (0, 239, zc_394), (0, 239, zc_395), (0, 239, zc_396), (0, 239, zc_397), (0, 239, zc_398), (0, 239, zc_399), (0, 239, zc_400), (0, 239, zc_401), (0, 239, zc_402), (0, 239, zc_403), (0, 239, zc_404), (0, 239, zc_405), (0, 239, zc_406), (0, 239, zc_407), (0, 239, zc_408), (0, 239, zc_409), (0, 239, zc_410), (0, 239, zc_411), (0, 239, zc_412), (0, 239, zc_413), (0, 239, zc_414), (0, 239, zc_415), (0, 239, zc_416), (0, 239, zc_417), (0, 239, zc_418), (0, 239, zc_419), (0, 250, zc_601), (0, 355, zc_784)], [zt_771_0, zt_771_1, zt_771_2, zt_771_3, zt_771_4, zt_771_5, zt_771_6, zt_771_7, zt_771_8, zt_771_9, zt_771_10, zt_771_11, zt_771_12, zt_771_13, zt_771_14, zt_771_15, zt_771_16, zt_771_17, zt_771_18, zt_771_19, zt_771_20, zt_771_21, zt_771_22, zt_771_23, zt_771_24, zt_771_25, zt_771_26, zt_771_27, zt_771_28, zt_771_29, zt_771_30], [])
/-- X5_refuseDeeds -/
def zfm_772 : zmem := ([(31, 1001, (0, 3, 0))] ++ zmrun 32 1060 2 1 4 30)
def zt_772_0 : zcut := (15, (([(0, 0), (0, 0), (1, 1), (0, 60)] ++ List.replicate 30 ((-9223372036854775808), 9223372036854775807) ++ [(0, 0), (0, 0)]), [(0, (7, 0, 0)), (1, (0, 2, 0)), (2, (0, 34, 0)), (3, (0, 35, 0))], [], zfm_772, [([(3, 100)], 3, 0, 2)]), 30, [])
def zt_772_1 : zcut := (15, (([(0, 0), (0, 0), (1, 1), (2, 60), (0, 11)] ++ List.replicate 29 ((-9223372036854775808), 9223372036854775807) ++ [(0, 0), (2, 2), (0, 9)]), [(0, (7, 0, 0)), (1, (0, 2, 0)), (2, (0, 34, 0)), (3, (0, 35, 0))], [], (zfm_772 ++ [(32, 1061, (1, 36, 0))]), [([(3, 100)], 3, 0, 2)]), 29, [])
def zt_772_2 : zcut := (15, (([(0, 0), (0, 0), (1, 1), (4, 60), (0, 11), (0, 11)] ++ List.replicate 28 ((-9223372036854775808), 9223372036854775807) ++ [(0, 0), (4, 4), (0, 9), (0, 9)]), [(0, (7, 0, 0)), (1, (0, 2, 0)), (2, (0, 34, 0)), (3, (0, 35, 0))], [], (zfm_772 ++ [(32, 1061, (1, 36, 0)), (32, 1063, (1, 37, 0))]), [([(3, 100)], 3, 0, 2)]), 28, [])
def zt_772_3 : zcut := (15, (([(0, 0), (0, 0), (1, 1), (6, 60), (0, 11), (0, 11), (0, 11)] ++ List.replicate 27 ((-9223372036854775808), 9223372036854775807) ++ [(0, 0), (6, 6), (0, 9), (0, 9), (0, 9)]), [(0, (7, 0, 0)), (1, (0, 2, 0)), (2, (0, 34, 0)), (3, (0, 35, 0))], [], (zfm_772 ++ [(32, 1061, (1, 36, 0)), (32, 1063, (1, 37, 0)), (32, 1065, (1, 38, 0))]), [([(3, 100)], 3, 0, 2)]), 27, [])
def zt_772_4 : zcut := (15, (([(0, 0), (0, 0), (1, 1), (8, 60), (0, 11), (0, 11), (0, 11), (0, 11)] ++ List.replicate 26 ((-9223372036854775808), 9223372036854775807) ++ [(0, 0), (8, 8), (0, 9), (0, 9), (0, 9), (0, 9)]), [(0, (7, 0, 0)), (1, (0, 2, 0)), (2, (0, 34, 0)), (3, (0, 35, 0))], [], (zfm_772 ++ [(32, 1061, (1, 36, 0)), (32, 1063, (1, 37, 0)), (32, 1065, (1, 38, 0)), (32, 1067, (1, 39, 0))]), [([(3, 100)], 3, 0, 2)]), 26, [])
def zt_772_5 : zcut := (15, (([(0, 0), (0, 0), (1, 1), (10, 60), (0, 11), (0, 11), (0, 11), (0, 11), (0, 11)] ++ List.replicate 25 ((-9223372036854775808), 9223372036854775807) ++ [(0, 0), (10, 10), (0, 9), (0, 9), (0, 9), (0, 9), (0, 9)]), [(0, (7, 0, 0)), (1, (0, 2, 0)), (2, (0, 34, 0)), (3, (0, 35, 0))], [], (zfm_772 ++ zmrun 32 1061 2 1 36 5), [([(3, 100)], 3, 0, 2)]), 25, [])
def zt_772_6 : zcut := (15, (([(0, 0), (0, 0), (1, 1), (12, 60)] ++ List.replicate 6 (0, 11) ++ List.replicate 24 ((-9223372036854775808), 9223372036854775807) ++ [(0, 0), (12, 12)] ++ List.replicate 6 (0, 9)), [(0, (7, 0, 0)), (1, (0, 2, 0)), (2, (0, 34, 0)), (3, (0, 35, 0))], [], (zfm_772 ++ zmrun 32 1061 2 1 36 6), [([(3, 100)], 3, 0, 2)]), 24, [])
def zt_772_7 : zcut := (15, (([(0, 0), (0, 0), (1, 1), (14, 60)] ++ List.replicate 7 (0, 11) ++ List.replicate 23 ((-9223372036854775808), 9223372036854775807) ++ [(0, 0), (14, 14)] ++ List.replicate 7 (0, 9)), [(0, (7, 0, 0)), (1, (0, 2, 0)), (2, (0, 34, 0)), (3, (0, 35, 0))], [], (zfm_772 ++ zmrun 32 1061 2 1 36 7), [([(3, 100)], 3, 0, 2)]), 23, [])
def zt_772_8 : zcut := (15, (([(0, 0), (0, 0), (1, 1), (16, 60)] ++ List.replicate 8 (0, 11) ++ List.replicate 22 ((-9223372036854775808), 9223372036854775807) ++ [(0, 0), (16, 16)] ++ List.replicate 8 (0, 9)), [(0, (7, 0, 0)), (1, (0, 2, 0)), (2, (0, 34, 0)), (3, (0, 35, 0))], [], (zfm_772 ++ zmrun 32 1061 2 1 36 8), [([(3, 100)], 3, 0, 2)]), 22, [])
def zt_772_9 : zcut := (15, (([(0, 0), (0, 0), (1, 1), (18, 60)] ++ List.replicate 9 (0, 11) ++ List.replicate 21 ((-9223372036854775808), 9223372036854775807) ++ [(0, 0), (18, 18)] ++ List.replicate 9 (0, 9)), [(0, (7, 0, 0)), (1, (0, 2, 0)), (2, (0, 34, 0)), (3, (0, 35, 0))], [], (zfm_772 ++ zmrun 32 1061 2 1 36 9), [([(3, 100)], 3, 0, 2)]), 21, [])
def zt_772_10 : zcut := (15, (([(0, 0), (0, 0), (1, 1), (20, 60)] ++ List.replicate 10 (0, 11) ++ List.replicate 20 ((-9223372036854775808), 9223372036854775807) ++ [(0, 0), (20, 20)] ++ List.replicate 10 (0, 9)), [(0, (7, 0, 0)), (1, (0, 2, 0)), (2, (0, 34, 0)), (3, (0, 35, 0))], [], (zfm_772 ++ zmrun 32 1061 2 1 36 10), [([(3, 100)], 3, 0, 2)]), 20, [])
def zt_772_11 : zcut := (15, (([(0, 0), (0, 0), (1, 1), (22, 60)] ++ List.replicate 11 (0, 11) ++ List.replicate 19 ((-9223372036854775808), 9223372036854775807) ++ [(0, 0), (22, 22)] ++ List.replicate 11 (0, 9)), [(0, (7, 0, 0)), (1, (0, 2, 0)), (2, (0, 34, 0)), (3, (0, 35, 0))], [], (zfm_772 ++ zmrun 32 1061 2 1 36 11), [([(3, 100)], 3, 0, 2)]), 19, [])
def zt_772_12 : zcut := (15, (([(0, 0), (0, 0), (1, 1), (24, 60)] ++ List.replicate 12 (0, 11) ++ List.replicate 18 ((-9223372036854775808), 9223372036854775807) ++ [(0, 0), (24, 24)] ++ List.replicate 12 (0, 9)), [(0, (7, 0, 0)), (1, (0, 2, 0)), (2, (0, 34, 0)), (3, (0, 35, 0))], [], (zfm_772 ++ zmrun 32 1061 2 1 36 12), [([(3, 100)], 3, 0, 2)]), 18, [])
def zt_772_13 : zcut := (15, (([(0, 0), (0, 0), (1, 1), (26, 60)] ++ List.replicate 13 (0, 11) ++ List.replicate 17 ((-9223372036854775808), 9223372036854775807) ++ [(0, 0), (26, 26)] ++ List.replicate 13 (0, 9)), [(0, (7, 0, 0)), (1, (0, 2, 0)), (2, (0, 34, 0)), (3, (0, 35, 0))], [], (zfm_772 ++ zmrun 32 1061 2 1 36 13), [([(3, 100)], 3, 0, 2)]), 17, [])
def zt_772_14 : zcut := (15, (([(0, 0), (0, 0), (1, 1), (28, 60)] ++ List.replicate 14 (0, 11) ++ List.replicate 16 ((-9223372036854775808), 9223372036854775807) ++ [(0, 0), (28, 28)] ++ List.replicate 14 (0, 9)), [(0, (7, 0, 0)), (1, (0, 2, 0)), (2, (0, 34, 0)), (3, (0, 35, 0))], [], (zfm_772 ++ zmrun 32 1061 2 1 36 14), [([(3, 100)], 3, 0, 2)]), 16, [])
def zt_772_15 : zcut := (15, (([(0, 0), (0, 0), (1, 1), (30, 60)] ++ List.replicate 15 (0, 11) ++ List.replicate 15 ((-9223372036854775808), 9223372036854775807) ++ [(0, 0), (30, 30)] ++ List.replicate 15 (0, 9)), [(0, (7, 0, 0)), (1, (0, 2, 0)), (2, (0, 34, 0)), (3, (0, 35, 0))], [], (zfm_772 ++ zmrun 32 1061 2 1 36 15), [([(3, 100)], 3, 0, 2)]), 15, [])
def zt_772_16 : zcut := (15, (([(0, 0), (0, 0), (1, 1), (32, 60)] ++ List.replicate 16 (0, 11) ++ List.replicate 14 ((-9223372036854775808), 9223372036854775807) ++ [(0, 0), (32, 32)] ++ List.replicate 16 (0, 9)), [(0, (7, 0, 0)), (1, (0, 2, 0)), (2, (0, 34, 0)), (3, (0, 35, 0))], [], (zfm_772 ++ zmrun 32 1061 2 1 36 16), [([(3, 100)], 3, 0, 2)]), 14, [])
def zt_772_17 : zcut := (15, (([(0, 0), (0, 0), (1, 1), (34, 60)] ++ List.replicate 17 (0, 11) ++ List.replicate 13 ((-9223372036854775808), 9223372036854775807) ++ [(0, 0), (34, 34)] ++ List.replicate 17 (0, 9)), [(0, (7, 0, 0)), (1, (0, 2, 0)), (2, (0, 34, 0)), (3, (0, 35, 0))], [], (zfm_772 ++ zmrun 32 1061 2 1 36 17), [([(3, 100)], 3, 0, 2)]), 13, [])
def zt_772_18 : zcut := (15, (([(0, 0), (0, 0), (1, 1), (36, 60)] ++ List.replicate 18 (0, 11) ++ List.replicate 12 ((-9223372036854775808), 9223372036854775807) ++ [(0, 0), (36, 36)] ++ List.replicate 18 (0, 9)), [(0, (7, 0, 0)), (1, (0, 2, 0)), (2, (0, 34, 0)), (3, (0, 35, 0))], [], (zfm_772 ++ zmrun 32 1061 2 1 36 18), [([(3, 100)], 3, 0, 2)]), 12, [])
def zt_772_19 : zcut := (15, (([(0, 0), (0, 0), (1, 1), (38, 60)] ++ List.replicate 19 (0, 11) ++ List.replicate 11 ((-9223372036854775808), 9223372036854775807) ++ [(0, 0), (38, 38)] ++ List.replicate 19 (0, 9)), [(0, (7, 0, 0)), (1, (0, 2, 0)), (2, (0, 34, 0)), (3, (0, 35, 0))], [], (zfm_772 ++ zmrun 32 1061 2 1 36 19), [([(3, 100)], 3, 0, 2)]), 11, [])
def zt_772_20 : zcut := (15, (([(0, 0), (0, 0), (1, 1), (40, 60)] ++ List.replicate 20 (0, 11) ++ List.replicate 10 ((-9223372036854775808), 9223372036854775807) ++ [(0, 0), (40, 40)] ++ List.replicate 20 (0, 9)), [(0, (7, 0, 0)), (1, (0, 2, 0)), (2, (0, 34, 0)), (3, (0, 35, 0))], [], (zfm_772 ++ zmrun 32 1061 2 1 36 20), [([(3, 100)], 3, 0, 2)]), 10, [])
def zt_772_21 : zcut := (15, (([(0, 0), (0, 0), (1, 1), (42, 60)] ++ List.replicate 21 (0, 11) ++ List.replicate 9 ((-9223372036854775808), 9223372036854775807) ++ [(0, 0), (42, 42)] ++ List.replicate 21 (0, 9)), [(0, (7, 0, 0)), (1, (0, 2, 0)), (2, (0, 34, 0)), (3, (0, 35, 0))], [], (zfm_772 ++ zmrun 32 1061 2 1 36 21), [([(3, 100)], 3, 0, 2)]), 9, [])
def zt_772_22 : zcut := (15, (([(0, 0), (0, 0), (1, 1), (44, 60)] ++ List.replicate 22 (0, 11) ++ List.replicate 8 ((-9223372036854775808), 9223372036854775807) ++ [(0, 0), (44, 44)] ++ List.replicate 22 (0, 9)), [(0, (7, 0, 0)), (1, (0, 2, 0)), (2, (0, 34, 0)), (3, (0, 35, 0))], [], (zfm_772 ++ zmrun 32 1061 2 1 36 22), [([(3, 100)], 3, 0, 2)]), 8, [])
def zt_772_23 : zcut := (15, (([(0, 0), (0, 0), (1, 1), (46, 60)] ++ List.replicate 23 (0, 11) ++ List.replicate 7 ((-9223372036854775808), 9223372036854775807) ++ [(0, 0), (46, 46)] ++ List.replicate 23 (0, 9)), [(0, (7, 0, 0)), (1, (0, 2, 0)), (2, (0, 34, 0)), (3, (0, 35, 0))], [], (zfm_772 ++ zmrun 32 1061 2 1 36 23), [([(3, 100)], 3, 0, 2)]), 7, [])
def zt_772_24 : zcut := (15, (([(0, 0), (0, 0), (1, 1), (48, 60)] ++ List.replicate 24 (0, 11) ++ List.replicate 6 ((-9223372036854775808), 9223372036854775807) ++ [(0, 0), (48, 48)] ++ List.replicate 24 (0, 9)), [(0, (7, 0, 0)), (1, (0, 2, 0)), (2, (0, 34, 0)), (3, (0, 35, 0))], [], (zfm_772 ++ zmrun 32 1061 2 1 36 24), [([(3, 100)], 3, 0, 2)]), 6, [])
def zt_772_25 : zcut := (15, (([(0, 0), (0, 0), (1, 1), (50, 60)] ++ List.replicate 25 (0, 11) ++ [((-9223372036854775808), 9223372036854775807), ((-9223372036854775808), 9223372036854775807), ((-9223372036854775808), 9223372036854775807), ((-9223372036854775808), 9223372036854775807), ((-9223372036854775808), 9223372036854775807), (0, 0), (50, 50)] ++ List.replicate 25 (0, 9)), [(0, (7, 0, 0)), (1, (0, 2, 0)), (2, (0, 34, 0)), (3, (0, 35, 0))], [], (zfm_772 ++ zmrun 32 1061 2 1 36 25), [([(3, 100)], 3, 0, 2)]), 5, [])
def zt_772_26 : zcut := (15, (([(0, 0), (0, 0), (1, 1), (52, 60)] ++ List.replicate 26 (0, 11) ++ [((-9223372036854775808), 9223372036854775807), ((-9223372036854775808), 9223372036854775807), ((-9223372036854775808), 9223372036854775807), ((-9223372036854775808), 9223372036854775807), (0, 0), (52, 52)] ++ List.replicate 26 (0, 9)), [(0, (7, 0, 0)), (1, (0, 2, 0)), (2, (0, 34, 0)), (3, (0, 35, 0))], [], (zfm_772 ++ zmrun 32 1061 2 1 36 26), [([(3, 100)], 3, 0, 2)]), 4, [])
def zt_772_27 : zcut := (15, (([(0, 0), (0, 0), (1, 1), (54, 60)] ++ List.replicate 27 (0, 11) ++ [((-9223372036854775808), 9223372036854775807), ((-9223372036854775808), 9223372036854775807), ((-9223372036854775808), 9223372036854775807), (0, 0), (54, 54)] ++ List.replicate 27 (0, 9)), [(0, (7, 0, 0)), (1, (0, 2, 0)), (2, (0, 34, 0)), (3, (0, 35, 0))], [], (zfm_772 ++ zmrun 32 1061 2 1 36 27), [([(3, 100)], 3, 0, 2)]), 3, [])
def zt_772_28 : zcut := (15, (([(0, 0), (0, 0), (1, 1), (56, 60)] ++ List.replicate 28 (0, 11) ++ [((-9223372036854775808), 9223372036854775807), ((-9223372036854775808), 9223372036854775807), (0, 0), (56, 56)] ++ List.replicate 28 (0, 9)), [(0, (7, 0, 0)), (1, (0, 2, 0)), (2, (0, 34, 0)), (3, (0, 35, 0))], [], (zfm_772 ++ zmrun 32 1061 2 1 36 28), [([(3, 100)], 3, 0, 2)]), 2, [])
def zt_772_29 : zcut := (15, (([(0, 0), (0, 0), (1, 1), (58, 60)] ++ List.replicate 29 (0, 11) ++ [((-9223372036854775808), 9223372036854775807), (0, 0), (58, 58)] ++ List.replicate 29 (0, 9)), [(0, (7, 0, 0)), (1, (0, 2, 0)), (2, (0, 34, 0)), (3, (0, 35, 0))], [], (zfm_772 ++ zmrun 32 1061 2 1 36 29), [([(3, 100)], 3, 0, 2)]), 1, [])
def zt_772_30 : zcut := (15, (([(0, 0), (0, 0), (1, 1), (60, 60)] ++ List.replicate 30 (0, 11) ++ [(0, 0), (60, 60)] ++ List.replicate 30 (0, 9)), [(0, (7, 0, 0)), (1, (0, 2, 0)), (2, (0, 34, 0)), (3, (0, 35, 0))], [], (zfm_772 ++ zmrun 32 1061 2 1 36 30), [([(3, 100)], 3, 0, 2)]), 0, [])
def zm_772 : zC := (cX5_refuseDeeds, 4, zc_772, (zfl_RX5, zwl_RX5), (zk1_RX5, zk2_RX5, []), [(0, 87, zc_301), (0, 186, zc_304), (0, 239, zc_420), (0, 239, zc_421), (0, 239, zc_422), (0, 239, zc_423), (0, 239, zc_424), (0, 239, zc_425), (0, 239, zc_426), (0, 239, zc_427), (0, 239, zc_428), (0, 239, zc_429), (0, 239, zc_430), (0, 239, zc_431), (0, 239, zc_432), (0, 239, zc_433), (0, 239, zc_434), (0, 239, zc_435), (0, 239, zc_436), (0, 239, zc_437), (0, 239, zc_438), (0, 239, zc_439), (0, 239, zc_440), (0, 239, zc_441), (0, 239, zc_442), (0, 239, zc_443), (0, 239, zc_444), (0, 239, zc_445), (0, 239, zc_446), (0, 239, zc_447), (0, 239, zc_448), (0, 239, zc_449), (0, 239, zc_450), (0, 239, zc_451), (0, 239, zc_452), (0, 239, zc_453), (0, 239, zc_454), (0, 239, zc_455), (0, 239, zc_456), (0, 239, zc_457), (0, 239, zc_458), (0, 239, zc_459), (0, 239, zc_460), (0, 239, zc_461), (0, 239, zc_462), (0, 239, zc_463), (0, 239, zc_464), (0, 239, zc_465), (0, 239, zc_466), (0, 239, zc_467), (0, 239, zc_468), (0, 239, zc_469), (0, 239, zc_470), (0, 239, zc_471), (0, 239, zc_472), (0, 239, zc_473), (0, 239, zc_474), (0, 239, zc_475), (0, 239, zc_476), (0, 239, zc_477), (0, 239, zc_478), (0, 239, zc_479), (0, 250, zc_603), (0, 355, zc_786)], [zt_772_0, zt_772_1, zt_772_2, zt_772_3, zt_772_4, zt_772_5, zt_772_6, zt_772_7, zt_772_8, zt_772_9, zt_772_10, zt_772_11, zt_772_12, zt_772_13, zt_772_14, zt_772_15, zt_772_16, zt_772_17, zt_772_18, zt_772_19, zt_772_20, zt_772_21, zt_772_22, zt_772_23, zt_772_24, zt_772_25, zt_772_26, zt_772_27, zt_772_28, zt_772_29, zt_772_30], [])
/-- X5_refuseDeeds -/
def zfm_773 : zmem := ([(31, 1002, (0, 3, 0))] ++ zmrun 32 1120 2 1 4 30)
def zt_773_0 : zcut := (15, (([(0, 0), (0, 0), (2, 2), (0, 60)] ++ List.replicate 30 ((-9223372036854775808), 9223372036854775807) ++ [(0, 0), (0, 0)]), [(0, (7, 0, 0)), (1, (0, 2, 0)), (2, (0, 34, 0)), (3, (0, 35, 0))], [], zfm_773, [([(3, 100)], 3, 0, 2)]), 30, [])
def zt_773_1 : zcut := (15, (([(0, 0), (0, 0), (2, 2), (2, 60), (0, 11)] ++ List.replicate 29 ((-9223372036854775808), 9223372036854775807) ++ [(0, 0), (2, 2), (0, 9)]), [(0, (7, 0, 0)), (1, (0, 2, 0)), (2, (0, 34, 0)), (3, (0, 35, 0))], [], (zfm_773 ++ [(32, 1121, (1, 36, 0))]), [([(3, 100)], 3, 0, 2)]), 29, [])
def zt_773_2 : zcut := (15, (([(0, 0), (0, 0), (2, 2), (4, 60), (0, 11), (0, 11)] ++ List.replicate 28 ((-9223372036854775808), 9223372036854775807) ++ [(0, 0), (4, 4), (0, 9), (0, 9)]), [(0, (7, 0, 0)), (1, (0, 2, 0)), (2, (0, 34, 0)), (3, (0, 35, 0))], [], (zfm_773 ++ [(32, 1121, (1, 36, 0)), (32, 1123, (1, 37, 0))]), [([(3, 100)], 3, 0, 2)]), 28, [])
def zt_773_3 : zcut := (15, (([(0, 0), (0, 0), (2, 2), (6, 60), (0, 11), (0, 11), (0, 11)] ++ List.replicate 27 ((-9223372036854775808), 9223372036854775807) ++ [(0, 0), (6, 6), (0, 9), (0, 9), (0, 9)]), [(0, (7, 0, 0)), (1, (0, 2, 0)), (2, (0, 34, 0)), (3, (0, 35, 0))], [], (zfm_773 ++ [(32, 1121, (1, 36, 0)), (32, 1123, (1, 37, 0)), (32, 1125, (1, 38, 0))]), [([(3, 100)], 3, 0, 2)]), 27, [])
def zt_773_4 : zcut := (15, (([(0, 0), (0, 0), (2, 2), (8, 60), (0, 11), (0, 11), (0, 11), (0, 11)] ++ List.replicate 26 ((-9223372036854775808), 9223372036854775807) ++ [(0, 0), (8, 8), (0, 9), (0, 9), (0, 9), (0, 9)]), [(0, (7, 0, 0)), (1, (0, 2, 0)), (2, (0, 34, 0)), (3, (0, 35, 0))], [], (zfm_773 ++ [(32, 1121, (1, 36, 0)), (32, 1123, (1, 37, 0)), (32, 1125, (1, 38, 0)), (32, 1127, (1, 39, 0))]), [([(3, 100)], 3, 0, 2)]), 26, [])
def zt_773_5 : zcut := (15, (([(0, 0), (0, 0), (2, 2), (10, 60), (0, 11), (0, 11), (0, 11), (0, 11), (0, 11)] ++ List.replicate 25 ((-9223372036854775808), 9223372036854775807) ++ [(0, 0), (10, 10), (0, 9), (0, 9), (0, 9), (0, 9), (0, 9)]), [(0, (7, 0, 0)), (1, (0, 2, 0)), (2, (0, 34, 0)), (3, (0, 35, 0))], [], (zfm_773 ++ zmrun 32 1121 2 1 36 5), [([(3, 100)], 3, 0, 2)]), 25, [])
def zt_773_6 : zcut := (15, (([(0, 0), (0, 0), (2, 2), (12, 60)] ++ List.replicate 6 (0, 11) ++ List.replicate 24 ((-9223372036854775808), 9223372036854775807) ++ [(0, 0), (12, 12)] ++ List.replicate 6 (0, 9)), [(0, (7, 0, 0)), (1, (0, 2, 0)), (2, (0, 34, 0)), (3, (0, 35, 0))], [], (zfm_773 ++ zmrun 32 1121 2 1 36 6), [([(3, 100)], 3, 0, 2)]), 24, [])
def zt_773_7 : zcut := (15, (([(0, 0), (0, 0), (2, 2), (14, 60)] ++ List.replicate 7 (0, 11) ++ List.replicate 23 ((-9223372036854775808), 9223372036854775807) ++ [(0, 0), (14, 14)] ++ List.replicate 7 (0, 9)), [(0, (7, 0, 0)), (1, (0, 2, 0)), (2, (0, 34, 0)), (3, (0, 35, 0))], [], (zfm_773 ++ zmrun 32 1121 2 1 36 7), [([(3, 100)], 3, 0, 2)]), 23, [])
def zt_773_8 : zcut := (15, (([(0, 0), (0, 0), (2, 2), (16, 60)] ++ List.replicate 8 (0, 11) ++ List.replicate 22 ((-9223372036854775808), 9223372036854775807) ++ [(0, 0), (16, 16)] ++ List.replicate 8 (0, 9)), [(0, (7, 0, 0)), (1, (0, 2, 0)), (2, (0, 34, 0)), (3, (0, 35, 0))], [], (zfm_773 ++ zmrun 32 1121 2 1 36 8), [([(3, 100)], 3, 0, 2)]), 22, [])
def zt_773_9 : zcut := (15, (([(0, 0), (0, 0), (2, 2), (18, 60)] ++ List.replicate 9 (0, 11) ++ List.replicate 21 ((-9223372036854775808), 9223372036854775807) ++ [(0, 0), (18, 18)] ++ List.replicate 9 (0, 9)), [(0, (7, 0, 0)), (1, (0, 2, 0)), (2, (0, 34, 0)), (3, (0, 35, 0))], [], (zfm_773 ++ zmrun 32 1121 2 1 36 9), [([(3, 100)], 3, 0, 2)]), 21, [])
def zt_773_10 : zcut := (15, (([(0, 0), (0, 0), (2, 2), (20, 60)] ++ List.replicate 10 (0, 11) ++ List.replicate 20 ((-9223372036854775808), 9223372036854775807) ++ [(0, 0), (20, 20)] ++ List.replicate 10 (0, 9)), [(0, (7, 0, 0)), (1, (0, 2, 0)), (2, (0, 34, 0)), (3, (0, 35, 0))], [], (zfm_773 ++ zmrun 32 1121 2 1 36 10), [([(3, 100)], 3, 0, 2)]), 20, [])
def zt_773_11 : zcut := (15, (([(0, 0), (0, 0), (2, 2), (22, 60)] ++ List.replicate 11 (0, 11) ++ List.replicate 19 ((-9223372036854775808), 9223372036854775807) ++ [(0, 0), (22, 22)] ++ List.replicate 11 (0, 9)), [(0, (7, 0, 0)), (1, (0, 2, 0)), (2, (0, 34, 0)), (3, (0, 35, 0))], [], (zfm_773 ++ zmrun 32 1121 2 1 36 11), [([(3, 100)], 3, 0, 2)]), 19, [])
def zt_773_12 : zcut := (15, (([(0, 0), (0, 0), (2, 2), (24, 60)] ++ List.replicate 12 (0, 11) ++ List.replicate 18 ((-9223372036854775808), 9223372036854775807) ++ [(0, 0), (24, 24)] ++ List.replicate 12 (0, 9)), [(0, (7, 0, 0)), (1, (0, 2, 0)), (2, (0, 34, 0)), (3, (0, 35, 0))], [], (zfm_773 ++ zmrun 32 1121 2 1 36 12), [([(3, 100)], 3, 0, 2)]), 18, [])
def zt_773_13 : zcut := (15, (([(0, 0), (0, 0), (2, 2), (26, 60)] ++ List.replicate 13 (0, 11) ++ List.replicate 17 ((-9223372036854775808), 9223372036854775807) ++ [(0, 0), (26, 26)] ++ List.replicate 13 (0, 9)), [(0, (7, 0, 0)), (1, (0, 2, 0)), (2, (0, 34, 0)), (3, (0, 35, 0))], [], (zfm_773 ++ zmrun 32 1121 2 1 36 13), [([(3, 100)], 3, 0, 2)]), 17, [])
def zt_773_14 : zcut := (15, (([(0, 0), (0, 0), (2, 2), (28, 60)] ++ List.replicate 14 (0, 11) ++ List.replicate 16 ((-9223372036854775808), 9223372036854775807) ++ [(0, 0), (28, 28)] ++ List.replicate 14 (0, 9)), [(0, (7, 0, 0)), (1, (0, 2, 0)), (2, (0, 34, 0)), (3, (0, 35, 0))], [], (zfm_773 ++ zmrun 32 1121 2 1 36 14), [([(3, 100)], 3, 0, 2)]), 16, [])
def zt_773_15 : zcut := (15, (([(0, 0), (0, 0), (2, 2), (30, 60)] ++ List.replicate 15 (0, 11) ++ List.replicate 15 ((-9223372036854775808), 9223372036854775807) ++ [(0, 0), (30, 30)] ++ List.replicate 15 (0, 9)), [(0, (7, 0, 0)), (1, (0, 2, 0)), (2, (0, 34, 0)), (3, (0, 35, 0))], [], (zfm_773 ++ zmrun 32 1121 2 1 36 15), [([(3, 100)], 3, 0, 2)]), 15, [])
def zt_773_16 : zcut := (15, (([(0, 0), (0, 0), (2, 2), (32, 60)] ++ List.replicate 16 (0, 11) ++ List.replicate 14 ((-9223372036854775808), 9223372036854775807) ++ [(0, 0), (32, 32)] ++ List.replicate 16 (0, 9)), [(0, (7, 0, 0)), (1, (0, 2, 0)), (2, (0, 34, 0)), (3, (0, 35, 0))], [], (zfm_773 ++ zmrun 32 1121 2 1 36 16), [([(3, 100)], 3, 0, 2)]), 14, [])
def zt_773_17 : zcut := (15, (([(0, 0), (0, 0), (2, 2), (34, 60)] ++ List.replicate 17 (0, 11) ++ List.replicate 13 ((-9223372036854775808), 9223372036854775807) ++ [(0, 0), (34, 34)] ++ List.replicate 17 (0, 9)), [(0, (7, 0, 0)), (1, (0, 2, 0)), (2, (0, 34, 0)), (3, (0, 35, 0))], [], (zfm_773 ++ zmrun 32 1121 2 1 36 17), [([(3, 100)], 3, 0, 2)]), 13, [])
def zt_773_18 : zcut := (15, (([(0, 0), (0, 0), (2, 2), (36, 60)] ++ List.replicate 18 (0, 11) ++ List.replicate 12 ((-9223372036854775808), 9223372036854775807) ++ [(0, 0), (36, 36)] ++ List.replicate 18 (0, 9)), [(0, (7, 0, 0)), (1, (0, 2, 0)), (2, (0, 34, 0)), (3, (0, 35, 0))], [], (zfm_773 ++ zmrun 32 1121 2 1 36 18), [([(3, 100)], 3, 0, 2)]), 12, [])
def zt_773_19 : zcut := (15, (([(0, 0), (0, 0), (2, 2), (38, 60)] ++ List.replicate 19 (0, 11) ++ List.replicate 11 ((-9223372036854775808), 9223372036854775807) ++ [(0, 0), (38, 38)] ++ List.replicate 19 (0, 9)), [(0, (7, 0, 0)), (1, (0, 2, 0)), (2, (0, 34, 0)), (3, (0, 35, 0))], [], (zfm_773 ++ zmrun 32 1121 2 1 36 19), [([(3, 100)], 3, 0, 2)]), 11, [])
def zt_773_20 : zcut := (15, (([(0, 0), (0, 0), (2, 2), (40, 60)] ++ List.replicate 20 (0, 11) ++ List.replicate 10 ((-9223372036854775808), 9223372036854775807) ++ [(0, 0), (40, 40)] ++ List.replicate 20 (0, 9)), [(0, (7, 0, 0)), (1, (0, 2, 0)), (2, (0, 34, 0)), (3, (0, 35, 0))], [], (zfm_773 ++ zmrun 32 1121 2 1 36 20), [([(3, 100)], 3, 0, 2)]), 10, [])
def zt_773_21 : zcut := (15, (([(0, 0), (0, 0), (2, 2), (42, 60)] ++ List.replicate 21 (0, 11) ++ List.replicate 9 ((-9223372036854775808), 9223372036854775807) ++ [(0, 0), (42, 42)] ++ List.replicate 21 (0, 9)), [(0, (7, 0, 0)), (1, (0, 2, 0)), (2, (0, 34, 0)), (3, (0, 35, 0))], [], (zfm_773 ++ zmrun 32 1121 2 1 36 21), [([(3, 100)], 3, 0, 2)]), 9, [])
def zt_773_22 : zcut := (15, (([(0, 0), (0, 0), (2, 2), (44, 60)] ++ List.replicate 22 (0, 11) ++ List.replicate 8 ((-9223372036854775808), 9223372036854775807) ++ [(0, 0), (44, 44)] ++ List.replicate 22 (0, 9)), [(0, (7, 0, 0)), (1, (0, 2, 0)), (2, (0, 34, 0)), (3, (0, 35, 0))], [], (zfm_773 ++ zmrun 32 1121 2 1 36 22), [([(3, 100)], 3, 0, 2)]), 8, [])
def zt_773_23 : zcut := (15, (([(0, 0), (0, 0), (2, 2), (46, 60)] ++ List.replicate 23 (0, 11) ++ List.replicate 7 ((-9223372036854775808), 9223372036854775807) ++ [(0, 0), (46, 46)] ++ List.replicate 23 (0, 9)), [(0, (7, 0, 0)), (1, (0, 2, 0)), (2, (0, 34, 0)), (3, (0, 35, 0))], [], (zfm_773 ++ zmrun 32 1121 2 1 36 23), [([(3, 100)], 3, 0, 2)]), 7, [])
def zt_773_24 : zcut := (15, (([(0, 0), (0, 0), (2, 2), (48, 60)] ++ List.replicate 24 (0, 11) ++ List.replicate 6 ((-9223372036854775808), 9223372036854775807) ++ [(0, 0), (48, 48)] ++ List.replicate 24 (0, 9)), [(0, (7, 0, 0)), (1, (0, 2, 0)), (2, (0, 34, 0)), (3, (0, 35, 0))], [], (zfm_773 ++ zmrun 32 1121 2 1 36 24), [([(3, 100)], 3, 0, 2)]), 6, [])
def zt_773_25 : zcut := (15, (([(0, 0), (0, 0), (2, 2), (50, 60)] ++ List.replicate 25 (0, 11) ++ [((-9223372036854775808), 9223372036854775807), ((-9223372036854775808), 9223372036854775807), ((-9223372036854775808), 9223372036854775807), ((-9223372036854775808), 9223372036854775807), ((-9223372036854775808), 9223372036854775807), (0, 0), (50, 50)] ++ List.replicate 25 (0, 9)), [(0, (7, 0, 0)), (1, (0, 2, 0)), (2, (0, 34, 0)), (3, (0, 35, 0))], [], (zfm_773 ++ zmrun 32 1121 2 1 36 25), [([(3, 100)], 3, 0, 2)]), 5, [])
def zt_773_26 : zcut := (15, (([(0, 0), (0, 0), (2, 2), (52, 60)] ++ List.replicate 26 (0, 11) ++ [((-9223372036854775808), 9223372036854775807), ((-9223372036854775808), 9223372036854775807), ((-9223372036854775808), 9223372036854775807), ((-9223372036854775808), 9223372036854775807), (0, 0), (52, 52)] ++ List.replicate 26 (0, 9)), [(0, (7, 0, 0)), (1, (0, 2, 0)), (2, (0, 34, 0)), (3, (0, 35, 0))], [], (zfm_773 ++ zmrun 32 1121 2 1 36 26), [([(3, 100)], 3, 0, 2)]), 4, [])
def zt_773_27 : zcut := (15, (([(0, 0), (0, 0), (2, 2), (54, 60)] ++ List.replicate 27 (0, 11) ++ [((-9223372036854775808), 9223372036854775807), ((-9223372036854775808), 9223372036854775807), ((-9223372036854775808), 9223372036854775807), (0, 0), (54, 54)] ++ List.replicate 27 (0, 9)), [(0, (7, 0, 0)), (1, (0, 2, 0)), (2, (0, 34, 0)), (3, (0, 35, 0))], [], (zfm_773 ++ zmrun 32 1121 2 1 36 27), [([(3, 100)], 3, 0, 2)]), 3, [])
def zt_773_28 : zcut := (15, (([(0, 0), (0, 0), (2, 2), (56, 60)] ++ List.replicate 28 (0, 11) ++ [((-9223372036854775808), 9223372036854775807), ((-9223372036854775808), 9223372036854775807), (0, 0), (56, 56)] ++ List.replicate 28 (0, 9)), [(0, (7, 0, 0)), (1, (0, 2, 0)), (2, (0, 34, 0)), (3, (0, 35, 0))], [], (zfm_773 ++ zmrun 32 1121 2 1 36 28), [([(3, 100)], 3, 0, 2)]), 2, [])
def zt_773_29 : zcut := (15, (([(0, 0), (0, 0), (2, 2), (58, 60)] ++ List.replicate 29 (0, 11) ++ [((-9223372036854775808), 9223372036854775807), (0, 0), (58, 58)] ++ List.replicate 29 (0, 9)), [(0, (7, 0, 0)), (1, (0, 2, 0)), (2, (0, 34, 0)), (3, (0, 35, 0))], [], (zfm_773 ++ zmrun 32 1121 2 1 36 29), [([(3, 100)], 3, 0, 2)]), 1, [])
def zt_773_30 : zcut := (15, (([(0, 0), (0, 0), (2, 2), (60, 60)] ++ List.replicate 30 (0, 11) ++ [(0, 0), (60, 60)] ++ List.replicate 30 (0, 9)), [(0, (7, 0, 0)), (1, (0, 2, 0)), (2, (0, 34, 0)), (3, (0, 35, 0))], [], (zfm_773 ++ zmrun 32 1121 2 1 36 30), [([(3, 100)], 3, 0, 2)]), 0, [])
def zm_773 : zC := (cX5_refuseDeeds, 4, zc_773, (zfl_RX5, zwl_RX5), (zk1_RX5, zk2_RX5, []), [(0, 87, zc_301), (0, 186, zc_304), (0, 239, zc_480), (0, 239, zc_481), (0, 239, zc_482), (0, 239, zc_483), (0, 239, zc_484), (0, 239, zc_485), (0, 239, zc_486), (0, 239, zc_487), (0, 239, zc_488), (0, 239, zc_489), (0, 239, zc_490), (0, 239, zc_491), (0, 239, zc_492), (0, 239, zc_493), (0, 239, zc_494), (0, 239, zc_495), (0, 239, zc_496), (0, 239, zc_497), (0, 239, zc_498), (0, 239, zc_499), (0, 239, zc_500), (0, 239, zc_501), (0, 239, zc_502), (0, 239, zc_503), (0, 239, zc_504), (0, 239, zc_505), (0, 239, zc_506), (0, 239, zc_507), (0, 239, zc_508), (0, 239, zc_509), (0, 239, zc_510), (0, 239, zc_511), (0, 239, zc_512), (0, 239, zc_513), (0, 239, zc_514), (0, 239, zc_515), (0, 239, zc_516), (0, 239, zc_517), (0, 239, zc_518), (0, 239, zc_519), (0, 239, zc_520), (0, 239, zc_521), (0, 239, zc_522), (0, 239, zc_523), (0, 239, zc_524), (0, 239, zc_525), (0, 239, zc_526), (0, 239, zc_527), (0, 239, zc_528), (0, 239, zc_529), (0, 239, zc_530), (0, 239, zc_531), (0, 239, zc_532), (0, 239, zc_533), (0, 239, zc_534), (0, 239, zc_535), (0, 239, zc_536), (0, 239, zc_537), (0, 239, zc_538), (0, 239, zc_539), (0, 250, zc_604), (0, 355, zc_788)], [zt_773_0, zt_773_1, zt_773_2, zt_773_3, zt_773_4, zt_773_5, zt_773_6, zt_773_7, zt_773_8, zt_773_9, zt_773_10, zt_773_11, zt_773_12, zt_773_13, zt_773_14, zt_773_15, zt_773_16, zt_773_17, zt_773_18, zt_773_19, zt_773_20, zt_773_21, zt_773_22, zt_773_23, zt_773_24, zt_773_25, zt_773_26, zt_773_27, zt_773_28, zt_773_29, zt_773_30], [])
/-- X5_refuseDeeds -/
def zfm_774 : zmem := ([(31, 1003, (0, 3, 0))] ++ zmrun 32 1180 2 1 4 30)
def zt_774_0 : zcut := (15, (([(0, 0), (0, 0), (3, 3), (0, 60)] ++ List.replicate 30 ((-9223372036854775808), 9223372036854775807) ++ [(0, 0), (0, 0)]), [(0, (7, 0, 0)), (1, (0, 2, 0)), (2, (0, 34, 0)), (3, (0, 35, 0))], [], zfm_774, [([(3, 100)], 3, 0, 2)]), 30, [])
def zt_774_1 : zcut := (15, (([(0, 0), (0, 0), (3, 3), (2, 60), (0, 11)] ++ List.replicate 29 ((-9223372036854775808), 9223372036854775807) ++ [(0, 0), (2, 2), (0, 9)]), [(0, (7, 0, 0)), (1, (0, 2, 0)), (2, (0, 34, 0)), (3, (0, 35, 0))], [], (zfm_774 ++ [(32, 1181, (1, 36, 0))]), [([(3, 100)], 3, 0, 2)]), 29, [])
def zt_774_2 : zcut := (15, (([(0, 0), (0, 0), (3, 3), (4, 60), (0, 11), (0, 11)] ++ List.replicate 28 ((-9223372036854775808), 9223372036854775807) ++ [(0, 0), (4, 4), (0, 9), (0, 9)]), [(0, (7, 0, 0)), (1, (0, 2, 0)), (2, (0, 34, 0)), (3, (0, 35, 0))], [], (zfm_774 ++ [(32, 1181, (1, 36, 0)), (32, 1183, (1, 37, 0))]), [([(3, 100)], 3, 0, 2)]), 28, [])
def zt_774_3 : zcut := (15, (([(0, 0), (0, 0), (3, 3), (6, 60), (0, 11), (0, 11), (0, 11)] ++ List.replicate 27 ((-9223372036854775808), 9223372036854775807) ++ [(0, 0), (6, 6), (0, 9), (0, 9), (0, 9)]), [(0, (7, 0, 0)), (1, (0, 2, 0)), (2, (0, 34, 0)), (3, (0, 35, 0))], [], (zfm_774 ++ [(32, 1181, (1, 36, 0)), (32, 1183, (1, 37, 0)), (32, 1185, (1, 38, 0))]), [([(3, 100)], 3, 0, 2)]), 27, [])
def zt_774_4 : zcut := (15, (([(0, 0), (0, 0), (3, 3), (8, 60), (0, 11), (0, 11), (0, 11), (0, 11)] ++ List.replicate 26 ((-9223372036854775808), 9223372036854775807) ++ [(0, 0), (8, 8), (0, 9), (0, 9), (0, 9), (0, 9)]), [(0, (7, 0, 0)), (1, (0, 2, 0)), (2, (0, 34, 0)), (3, (0, 35, 0))], [], (zfm_774 ++ [(32, 1181, (1, 36, 0)), (32, 1183, (1, 37, 0)), (32, 1185, (1, 38, 0)), (32, 1187, (1, 39, 0))]), [([(3, 100)], 3, 0, 2)]), 26, [])
def zt_774_5 : zcut := (15, (([(0, 0), (0, 0), (3, 3), (10, 60), (0, 11), (0, 11), (0, 11), (0, 11), (0, 11)] ++ List.replicate 25 ((-9223372036854775808), 9223372036854775807) ++ [(0, 0), (10, 10), (0, 9), (0, 9), (0, 9), (0, 9), (0, 9)]), [(0, (7, 0, 0)), (1, (0, 2, 0)), (2, (0, 34, 0)), (3, (0, 35, 0))], [], (zfm_774 ++ zmrun 32 1181 2 1 36 5), [([(3, 100)], 3, 0, 2)]), 25, [])
def zt_774_6 : zcut := (15, (([(0, 0), (0, 0), (3, 3), (12, 60)] ++ List.replicate 6 (0, 11) ++ List.replicate 24 ((-9223372036854775808), 9223372036854775807) ++ [(0, 0), (12, 12)] ++ List.replicate 6 (0, 9)), [(0, (7, 0, 0)), (1, (0, 2, 0)), (2, (0, 34, 0)), (3, (0, 35, 0))], [], (zfm_774 ++ zmrun 32 1181 2 1 36 6), [([(3, 100)], 3, 0, 2)]), 24, [])
def zt_774_7 : zcut := (15, (([(0, 0), (0, 0), (3, 3), (14, 60)] ++ List.replicate 7 (0, 11) ++ List.replicate 23 ((-9223372036854775808), 9223372036854775807) ++ [(0, 0), (14, 14)] ++ List.replicate 7 (0, 9)), [(0, (7, 0, 0)), (1, (0, 2, 0)), (2, (0, 34, 0)), (3, (0, 35, 0))], [], (zfm_774 ++ zmrun 32 1181 2 1 36 7), [([(3, 100)], 3, 0, 2)]), 23, [])
def zt_774_8 : zcut := (15, (([(0, 0), (0, 0), (3, 3), (16, 60)] ++ List.replicate 8 (0, 11) ++ List.replicate 22 ((-9223372036854775808), 9223372036854775807) ++ [(0, 0), (16, 16)] ++ List.replicate 8 (0, 9)), [(0, (7, 0, 0)), (1, (0, 2, 0)), (2, (0, 34, 0)), (3, (0, 35, 0))], [], (zfm_774 ++ zmrun 32 1181 2 1 36 8), [([(3, 100)], 3, 0, 2)]), 22, [])
def zt_774_9 : zcut := (15, (([(0, 0), (0, 0), (3, 3), (18, 60)] ++ List.replicate 9 (0, 11) ++ List.replicate 21 ((-9223372036854775808), 9223372036854775807) ++ [(0, 0), (18, 18)] ++ List.replicate 9 (0, 9)), [(0, (7, 0, 0)), (1, (0, 2, 0)), (2, (0, 34, 0)), (3, (0, 35, 0))], [], (zfm_774 ++ zmrun 32 1181 2 1 36 9), [([(3, 100)], 3, 0, 2)]), 21, [])
def zt_774_10 : zcut := (15, (([(0, 0), (0, 0), (3, 3), (20, 60)] ++ List.replicate 10 (0, 11) ++ List.replicate 20 ((-9223372036854775808), 9223372036854775807) ++ [(0, 0), (20, 20)] ++ List.replicate 10 (0, 9)), [(0, (7, 0, 0)), (1, (0, 2, 0)), (2, (0, 34, 0)), (3, (0, 35, 0))], [], (zfm_774 ++ zmrun 32 1181 2 1 36 10), [([(3, 100)], 3, 0, 2)]), 20, [])
def zt_774_11 : zcut := (15, (([(0, 0), (0, 0), (3, 3), (22, 60)] ++ List.replicate 11 (0, 11) ++ List.replicate 19 ((-9223372036854775808), 9223372036854775807) ++ [(0, 0), (22, 22)] ++ List.replicate 11 (0, 9)), [(0, (7, 0, 0)), (1, (0, 2, 0)), (2, (0, 34, 0)), (3, (0, 35, 0))], [], (zfm_774 ++ zmrun 32 1181 2 1 36 11), [([(3, 100)], 3, 0, 2)]), 19, [])
def zt_774_12 : zcut := (15, (([(0, 0), (0, 0), (3, 3), (24, 60)] ++ List.replicate 12 (0, 11) ++ List.replicate 18 ((-9223372036854775808), 9223372036854775807) ++ [(0, 0), (24, 24)] ++ List.replicate 12 (0, 9)), [(0, (7, 0, 0)), (1, (0, 2, 0)), (2, (0, 34, 0)), (3, (0, 35, 0))], [], (zfm_774 ++ zmrun 32 1181 2 1 36 12), [([(3, 100)], 3, 0, 2)]), 18, [])
def zt_774_13 : zcut := (15, (([(0, 0), (0, 0), (3, 3), (26, 60)] ++ List.replicate 13 (0, 11) ++ List.replicate 17 ((-9223372036854775808), 9223372036854775807) ++ [(0, 0), (26, 26)] ++ List.replicate 13 (0, 9)), [(0, (7, 0, 0)), (1, (0, 2, 0)), (2, (0, 34, 0)), (3, (0, 35, 0))], [], (zfm_774 ++ zmrun 32 1181 2 1 36 13), [([(3, 100)], 3, 0, 2)]), 17, [])
def zt_774_14 : zcut := (15, (([(0, 0), (0, 0), (3, 3), (28, 60)] ++ List.replicate 14 (0, 11) ++ List.replicate 16 ((-9223372036854775808), 9223372036854775807) ++ [(0, 0), (28, 28)] ++ List.replicate 14 (0, 9)), [(0, (7, 0, 0)), (1, (0, 2, 0)), (2, (0, 34, 0)), (3, (0, 35, 0))], [], (zfm_774 ++ zmrun 32 1181 2 1 36 14), [([(3, 100)], 3, 0, 2)]), 16, [])
def zt_774_15 : zcut := (15, (([(0, 0), (0, 0), (3, 3), (30, 60)] ++ List.replicate 15 (0, 11) ++ List.replicate 15 ((-9223372036854775808), 9223372036854775807) ++ [(0, 0), (30, 30)] ++ List.replicate 15 (0, 9)), [(0, (7, 0, 0)), (1, (0, 2, 0)), (2, (0, 34, 0)), (3, (0, 35, 0))], [], (zfm_774 ++ zmrun 32 1181 2 1 36 15), [([(3, 100)], 3, 0, 2)]), 15, [])
def zt_774_16 : zcut := (15, (([(0, 0), (0, 0), (3, 3), (32, 60)] ++ List.replicate 16 (0, 11) ++ List.replicate 14 ((-9223372036854775808), 9223372036854775807) ++ [(0, 0), (32, 32)] ++ List.replicate 16 (0, 9)), [(0, (7, 0, 0)), (1, (0, 2, 0)), (2, (0, 34, 0)), (3, (0, 35, 0))], [], (zfm_774 ++ zmrun 32 1181 2 1 36 16), [([(3, 100)], 3, 0, 2)]), 14, [])
def zt_774_17 : zcut := (15, (([(0, 0), (0, 0), (3, 3), (34, 60)] ++ List.replicate 17 (0, 11) ++ List.replicate 13 ((-9223372036854775808), 9223372036854775807) ++ [(0, 0), (34, 34)] ++ List.replicate 17 (0, 9)), [(0, (7, 0, 0)), (1, (0, 2, 0)), (2, (0, 34, 0)), (3, (0, 35, 0))], [], (zfm_774 ++ zmrun 32 1181 2 1 36 17), [([(3, 100)], 3, 0, 2)]), 13, [])
def zt_774_18 : zcut := (15, (([(0, 0), (0, 0), (3, 3), (36, 60)] ++ List.replicate 18 (0, 11) ++ List.replicate 12 ((-9223372036854775808), 9223372036854775807) ++ [(0, 0), (36, 36)] ++ List.replicate 18 (0, 9)), [(0, (7, 0, 0)), (1, (0, 2, 0)), (2, (0, 34, 0)), (3, (0, 35, 0))], [], (zfm_774 ++ zmrun 32 1181 2 1 36 18), [([(3, 100)], 3, 0, 2)]), 12, [])
def zt_774_19 : zcut := (15, (([(0, 0), (0, 0), (3, 3), (38, 60)] ++ List.replicate 19 (0, 11) ++ List.replicate 11 ((-9223372036854775808), 9223372036854775807) ++ [(0, 0), (38, 38)] ++ List.replicate 19 (0, 9)), [(0, (7, 0, 0)), (1, (0, 2, 0)), (2, (0, 34, 0)), (3, (0, 35, 0))], [], (zfm_774 ++ zmrun 32 1181 2 1 36 19), [([(3, 100)], 3, 0, 2)]), 11, [])
def zt_774_20 : zcut := (15, (([(0, 0), (0, 0), (3, 3), (40, 60)] ++ List.replicate 20 (0, 11) ++ List.replicate 10 ((-9223372036854775808), 9223372036854775807) ++ [(0, 0), (40, 40)] ++ List.replicate 20 (0, 9)), [(0, (7, 0, 0)), (1, (0, 2, 0)), (2, (0, 34, 0)), (3, (0, 35, 0))], [], (zfm_774 ++ zmrun 32 1181 2 1 36 20), [([(3, 100)], 3, 0, 2)]), 10, [])
def zt_774_21 : zcut := (15, (([(0, 0), (0, 0), (3, 3), (42, 60)] ++ List.replicate 21 (0, 11) ++ List.replicate 9 ((-9223372036854775808), 9223372036854775807) ++ [(0, 0), (42, 42)] ++ List.replicate 21 (0, 9)), [(0, (7, 0, 0)), (1, (0, 2, 0)), (2, (0, 34, 0)), (3, (0, 35, 0))], [], (zfm_774 ++ zmrun 32 1181 2 1 36 21), [([(3, 100)], 3, 0, 2)]), 9, [])
def zt_774_22 : zcut := (15, (([(0, 0), (0, 0), (3, 3), (44, 60)] ++ List.replicate 22 (0, 11) ++ List.replicate 8 ((-9223372036854775808), 9223372036854775807) ++ [(0, 0), (44, 44)] ++ List.replicate 22 (0, 9)), [(0, (7, 0, 0)), (1, (0, 2, 0)), (2, (0, 34, 0)), (3, (0, 35, 0))], [], (zfm_774 ++ zmrun 32 1181 2 1 36 22), [([(3, 100)], 3, 0, 2)]), 8, [])
def zt_774_23 : zcut := (15, (([(0, 0), (0, 0), (3, 3), (46, 60)] ++ List.replicate 23 (0, 11) ++ List.replicate 7 ((-9223372036854775808), 9223372036854775807) ++ [(0, 0), (46, 46)] ++ List.replicate 23 (0, 9)), [(0, (7, 0, 0)), (1, (0, 2, 0)), (2, (0, 34, 0)), (3, (0, 35, 0))], [], (zfm_774 ++ zmrun 32 1181 2 1 36 23), [([(3, 100)], 3, 0, 2)]), 7, [])
def zt_774_24 : zcut := (15, (([(0, 0), (0, 0), (3, 3), (48, 60)] ++ List.replicate 24 (0, 11) ++ List.replicate 6 ((-9223372036854775808), 9223372036854775807) ++ [(0, 0), (48, 48)] ++ List.replicate 24 (0, 9)), [(0, (7, 0, 0)), (1, (0, 2, 0)), (2, (0, 34, 0)), (3, (0, 35, 0))], [], (zfm_774 ++ zmrun 32 1181 2 1 36 24), [([(3, 100)], 3, 0, 2)]), 6, [])
def zt_774_25 : zcut := (15, (([(0, 0), (0, 0), (3, 3), (50, 60)] ++ List.replicate 25 (0, 11) ++ [((-9223372036854775808), 9223372036854775807), ((-9223372036854775808), 9223372036854775807), ((-9223372036854775808), 9223372036854775807), ((-9223372036854775808), 9223372036854775807), ((-9223372036854775808), 9223372036854775807), (0, 0), (50, 50)] ++ List.replicate 25 (0, 9)), [(0, (7, 0, 0)), (1, (0, 2, 0)), (2, (0, 34, 0)), (3, (0, 35, 0))], [], (zfm_774 ++ zmrun 32 1181 2 1 36 25), [([(3, 100)], 3, 0, 2)]), 5, [])
def zt_774_26 : zcut := (15, (([(0, 0), (0, 0), (3, 3), (52, 60)] ++ List.replicate 26 (0, 11) ++ [((-9223372036854775808), 9223372036854775807), ((-9223372036854775808), 9223372036854775807), ((-9223372036854775808), 9223372036854775807), ((-9223372036854775808), 9223372036854775807), (0, 0), (52, 52)] ++ List.replicate 26 (0, 9)), [(0, (7, 0, 0)), (1, (0, 2, 0)), (2, (0, 34, 0)), (3, (0, 35, 0))], [], (zfm_774 ++ zmrun 32 1181 2 1 36 26), [([(3, 100)], 3, 0, 2)]), 4, [])
def zt_774_27 : zcut := (15, (([(0, 0), (0, 0), (3, 3), (54, 60)] ++ List.replicate 27 (0, 11) ++ [((-9223372036854775808), 9223372036854775807), ((-9223372036854775808), 9223372036854775807), ((-9223372036854775808), 9223372036854775807), (0, 0), (54, 54)] ++ List.replicate 27 (0, 9)), [(0, (7, 0, 0)), (1, (0, 2, 0)), (2, (0, 34, 0)), (3, (0, 35, 0))], [], (zfm_774 ++ zmrun 32 1181 2 1 36 27), [([(3, 100)], 3, 0, 2)]), 3, [])
def zt_774_28 : zcut := (15, (([(0, 0), (0, 0), (3, 3), (56, 60)] ++ List.replicate 28 (0, 11) ++ [((-9223372036854775808), 9223372036854775807), ((-9223372036854775808), 9223372036854775807), (0, 0), (56, 56)] ++ List.replicate 28 (0, 9)), [(0, (7, 0, 0)), (1, (0, 2, 0)), (2, (0, 34, 0)), (3, (0, 35, 0))], [], (zfm_774 ++ zmrun 32 1181 2 1 36 28), [([(3, 100)], 3, 0, 2)]), 2, [])
def zt_774_29 : zcut := (15, (([(0, 0), (0, 0), (3, 3), (58, 60)] ++ List.replicate 29 (0, 11) ++ [((-9223372036854775808), 9223372036854775807), (0, 0), (58, 58)] ++ List.replicate 29 (0, 9)), [(0, (7, 0, 0)), (1, (0, 2, 0)), (2, (0, 34, 0)), (3, (0, 35, 0))], [], (zfm_774 ++ zmrun 32 1181 2 1 36 29), [([(3, 100)], 3, 0, 2)]), 1, [])
def zt_774_30 : zcut := (15, (([(0, 0), (0, 0), (3, 3), (60, 60)] ++ List.replicate 30 (0, 11) ++ [(0, 0), (60, 60)] ++ List.replicate 30 (0, 9)), [(0, (7, 0, 0)), (1, (0, 2, 0)), (2, (0, 34, 0)), (3, (0, 35, 0))], [], (zfm_774 ++ zmrun 32 1181 2 1 36 30), [([(3, 100)], 3, 0, 2)]), 0, [])
def zm_774 : zC := (cX5_refuseDeeds, 4, zc_774, (zfl_RX5, zwl_RX5), (zk1_RX5, zk2_RX5, []), [(0, 87, zc_301), (0, 186, zc_304), (0, 239, zc_540), (0, 239, zc_541), (0, 239, zc_542), (0, 239, zc_543), (0, 239, zc_544), (0, 239, zc_545), (0, 239, zc_546), (0, 239, zc_547), (0, 239, zc_548), (0, 239, zc_549), (0, 239, zc_550), (0, 239, zc_551), (0, 239, zc_552), (0, 239, zc_553), (0, 239, zc_554), (0, 239, zc_555), (0, 239, zc_556), (0, 239, zc_557), (0, 239, zc_558), (0, 239, zc_559), (0, 239, zc_560), (0, 239, zc_561), (0, 239, zc_562), (0, 239, zc_563), (0, 239, zc_564), (0, 239, zc_565), (0, 239, zc_566), (0, 239, zc_567), (0, 239, zc_568), (0, 239, zc_569), (0, 239, zc_570), (0, 239, zc_571), (0, 239, zc_572), (0, 239, zc_573), (0, 239, zc_574), (0, 239, zc_575), (0, 239, zc_576), (0, 239, zc_577), (0, 239, zc_578), (0, 239, zc_579), (0, 239, zc_580), (0, 239, zc_581), (0, 239, zc_582), (0, 239, zc_583), (0, 239, zc_584), (0, 239, zc_585), (0, 239, zc_586), (0, 239, zc_587), (0, 239, zc_588), (0, 239, zc_589), (0, 239, zc_590), (0, 239, zc_591), (0, 239, zc_592), (0, 239, zc_593), (0, 239, zc_594), (0, 239, zc_595), (0, 239, zc_596), (0, 239, zc_597), (0, 239, zc_598), (0, 239, zc_599), (0, 250, zc_605), (0, 355, zc_790)], [zt_774_0, zt_774_1, zt_774_2, zt_774_3, zt_774_4, zt_774_5, zt_774_6, zt_774_7, zt_774_8, zt_774_9, zt_774_10, zt_774_11, zt_774_12, zt_774_13, zt_774_14, zt_774_15, zt_774_16, zt_774_17, zt_774_18, zt_774_19, zt_774_20, zt_774_21, zt_774_22, zt_774_23, zt_774_24, zt_774_25, zt_774_26, zt_774_27, zt_774_28, zt_774_29, zt_774_30], [])
/-- X5_refuseDeeds -/
def zm_775 : zC := (cX5_refuseDeeds, 4, zc_775, (zfl_RX5, zwl_RX5), (zk1_RX5, zk2_RX5, []), [(0, 355, zc_792)], [], [])
/-- X5_refuseOaths -/
def zm_776 : zC := (cX5_refuseOaths, 4, zc_776, (zfl_RX5, zwl_RX5), (zk1_RX5, zk2_RX5, []), [(0, 355, zc_783)], [], [])
/-- X5_refuseOaths -/
def zfm_777 : zmem := ([(31, 1000, (0, 3, 0))] ++ zmrun 32 1000 1 1 4 60)
def zt_777_0 : zcut := (15, (([(0, 0), (0, 0), (0, 0), (0, 60)] ++ List.replicate 60 ((-9223372036854775808), 9223372036854775807) ++ [(0, 0), (0, 0)]), [(0, (7, 0, 0)), (1, (0, 2, 0)), (2, (0, 64, 0)), (3, (0, 65, 0))], [], zfm_777, []), 20, [])
def zt_777_1 : zcut := (15, (([(0, 0), (0, 0), (0, 0), (3, 60), (0, 6), (0, 6), (0, 11)] ++ List.replicate 57 ((-9223372036854775808), 9223372036854775807) ++ [(0, 0), (3, 3)]), [(0, (7, 0, 0)), (1, (0, 2, 0)), (2, (0, 64, 0)), (3, (0, 65, 0))], [], zfm_777, []), 19, [])
def zt_777_2 : zcut := (15, (([(0, 0), (0, 0), (0, 0), (6, 60), (0, 6), (0, 6), (0, 11), (0, 6), (0, 6), (0, 11)] ++ List.replicate 54 ((-9223372036854775808), 9223372036854775807) ++ [(0, 0), (6, 6)]), [(0, (7, 0, 0)), (1, (0, 2, 0)), (2, (0, 64, 0)), (3, (0, 65, 0))], [], zfm_777, []), 18, [])
def zt_777_3 : zcut := (15, (([(0, 0), (0, 0), (0, 0), (9, 60), (0, 6), (0, 6), (0, 11), (0, 6), (0, 6), (0, 11), (0, 6), (0, 6), (0, 11)] ++ List.replicate 51 ((-9223372036854775808), 9223372036854775807) ++ [(0, 0), (9, 9)]), [(0, (7, 0, 0)), (1, (0, 2, 0)), (2, (0, 64, 0)), (3, (0, 65, 0))], [], zfm_777, []), 17, [])
def zt_777_4 : zcut := (15, (([(0, 0), (0, 0), (0, 0), (12, 60), (0, 6), (0, 6), (0, 11), (0, 6), (0, 6), (0, 11), (0, 6), (0, 6), (0, 11), (0, 6), (0, 6), (0, 11)] ++ List.replicate 48 ((-9223372036854775808), 9223372036854775807) ++ [(0, 0), (12, 12)]), [(0, (7, 0, 0)), (1, (0, 2, 0)), (2, (0, 64, 0)), (3, (0, 65, 0))], [], zfm_777, []), 16, [])
def zt_777_5 : zcut := (15, (([(0, 0), (0, 0), (0, 0), (15, 60), (0, 6), (0, 6), (0, 11), (0, 6), (0, 6), (0, 11), (0, 6), (0, 6), (0, 11), (0, 6), (0, 6), (0, 11), (0, 6), (0, 6), (0, 11)] ++ List.replicate 45 ((-9223372036854775808), 9223372036854775807) ++ [(0, 0), (15, 15)]), [(0, (7, 0, 0)), (1, (0, 2, 0)), (2, (0, 64, 0)), (3, (0, 65, 0))], [], zfm_777, []), 15, [])
def zt_777_6 : zcut := (15, (([(0, 0), (0, 0), (0, 0), (18, 60), (0, 6), (0, 6), (0, 11), (0, 6), (0, 6), (0, 11), (0, 6), (0, 6), (0, 11), (0, 6), (0, 6), (0, 11), (0, 6), (0, 6), (0, 11), (0, 6), (0, 6), (0, 11)] ++ List.replicate 42 ((-9223372036854775808), 9223372036854775807) ++ [(0, 0), (18, 18)]), [(0, (7, 0, 0)), (1, (0, 2, 0)), (2, (0, 64, 0)), (3, (0, 65, 0))], [], zfm_777, []), 14, [])
def zt_777_7 : zcut := (15, (([(0, 0), (0, 0), (0, 0), (21, 60), (0, 6), (0, 6), (0, 11), (0, 6), (0, 6), (0, 11), (0, 6), (0, 6), (0, 11), (0, 6), (0, 6), (0, 11), (0, 6), (0, 6), (0, 11), (0, 6), (0, 6), (0, 11), (0, 6), (0, 6), (0, 11)] ++ List.replicate 39 ((-9223372036854775808), 9223372036854775807) ++ [(0, 0), (21, 21)]), [(0, (7, 0, 0)), (1, (0, 2, 0)), (2, (0, 64, 0)), (3, (0, 65, 0))], [], zfm_777, []), 13, [])
def zt_777_8 : zcut := (15, (([(0, 0), (0, 0), (0, 0), (24, 60), (0, 6), (0, 6), (0, 11), (0, 6), (0, 6), (0, 11), (0, 6), (0, 6), (0, 11), (0, 6), (0, 6), (0, 11), (0, 6), (0, 6), (0, 11), (0, 6), (0, 6), (0, 11), (0, 6), (0, 6), (0, 11), (0, 6), (0, 6), (0, 11)] ++ List.replicate 36 ((-9223372036854775808), 9223372036854775807) ++ [(0, 0), (24, 24)]), [(0, (7, 0, 0)), (1, (0, 2, 0)), (2, (0, 64, 0)), (3, (0, 65, 0))], [], zfm_777, []), 12, [])
def zt_777_9 : zcut := (15, (([(0, 0), (0, 0), (0, 0), (27, 60), (0, 6), (0, 6), (0, 11), (0, 6), (0, 6), (0, 11), (0, 6), (0, 6), (0, 11), (0, 6), (0, 6), (0, 11), (0, 6), (0, 6), (0, 11), (0, 6), (0, 6), (0, 11), (0, 6), (0, 6), (0, 11), (0, 6), (0, 6), (0, 11), (0, 6), (0, 6), (0, 11)] ++ List.replicate 33 ((-9223372036854775808), 9223372036854775807) ++ [(0, 0), (27, 27)]), [(0, (7, 0, 0)), (1, (0, 2, 0)), (2, (0, 64, 0)), (3, (0, 65, 0))], [], zfm_777, []), 11, [])
def zt_777_10 : zcut := (15, (([(0, 0), (0, 0), (0, 0), (30, 60), (0, 6), (0, 6), (0, 11), (0, 6), (0, 6), (0, 11), (0, 6), (0, 6), (0, 11), (0, 6), (0, 6), (0, 11), (0, 6), (0, 6), (0, 11), (0, 6), (0, 6), (0, 11), (0, 6), (0, 6), (0, 11), (0, 6), (0, 6), (0, 11), (0, 6), (0, 6), (0, 11), (0, 6), (0, 6), (0, 11)] ++ List.replicate 30 ((-9223372036854775808), 9223372036854775807) ++ [(0, 0), (30, 30)]), [(0, (7, 0, 0)), (1, (0, 2, 0)), (2, (0, 64, 0)), (3, (0, 65, 0))], [], zfm_777, []), 10, [])
def zt_777_11 : zcut := (15, (([(0, 0), (0, 0), (0, 0), (33, 60), (0, 6), (0, 6), (0, 11), (0, 6), (0, 6), (0, 11), (0, 6), (0, 6), (0, 11), (0, 6), (0, 6), (0, 11), (0, 6), (0, 6), (0, 11), (0, 6), (0, 6), (0, 11), (0, 6), (0, 6), (0, 11), (0, 6), (0, 6), (0, 11), (0, 6), (0, 6), (0, 11), (0, 6), (0, 6), (0, 11), (0, 6), (0, 6), (0, 11)] ++ List.replicate 27 ((-9223372036854775808), 9223372036854775807) ++ [(0, 0), (33, 33)]), [(0, (7, 0, 0)), (1, (0, 2, 0)), (2, (0, 64, 0)), (3, (0, 65, 0))], [], zfm_777, []), 9, [])
def zt_777_12 : zcut := (15, (([(0, 0), (0, 0), (0, 0), (36, 60), (0, 6), (0, 6), (0, 11), (0, 6), (0, 6), (0, 11), (0, 6), (0, 6), (0, 11), (0, 6), (0, 6), (0, 11), (0, 6), (0, 6), (0, 11), (0, 6), (0, 6), (0, 11), (0, 6), (0, 6), (0, 11), (0, 6), (0, 6), (0, 11), (0, 6), (0, 6), (0, 11), (0, 6), (0, 6), (0, 11), (0, 6), (0, 6), (0, 11), (0, 6), (0, 6), (0, 11)] ++ List.replicate 24 ((-9223372036854775808), 9223372036854775807) ++ [(0, 0), (36, 36)]), [(0, (7, 0, 0)), (1, (0, 2, 0)), (2, (0, 64, 0)), (3, (0, 65, 0))], [], zfm_777, []), 8, [])
def zt_777_13 : zcut := (15, (([(0, 0), (0, 0), (0, 0), (39, 60), (0, 6), (0, 6), (0, 11), (0, 6), (0, 6), (0, 11), (0, 6), (0, 6), (0, 11), (0, 6), (0, 6), (0, 11), (0, 6), (0, 6), (0, 11), (0, 6), (0, 6), (0, 11), (0, 6), (0, 6), (0, 11), (0, 6), (0, 6), (0, 11), (0, 6), (0, 6), (0, 11), (0, 6), (0, 6), (0, 11), (0, 6), (0, 6), (0, 11), (0, 6), (0, 6), (0, 11), (0, 6), (0, 6), (0, 11)] ++ List.replicate 21 ((-9223372036854775808), 9223372036854775807) ++ [(0, 0), (39, 39)]), [(0, (7, 0, 0)), (1, (0, 2, 0)), (2, (0, 64, 0)), (3, (0, 65, 0))], [], zfm_777, []), 7, [])
def zt_777_14 : zcut := (15, (([(0, 0), (0, 0), (0, 0), (42, 60), (0, 6), (0, 6), (0, 11), (0, 6), (0, 6), (0, 11), (0, 6), (0, 6), (0, 11), (0, 6), (0, 6), (0, 11), (0, 6), (0, 6), (0, 11), (0, 6), (0, 6), (0, 11), (0, 6), (0, 6), (0, 11), (0, 6), (0, 6), (0, 11), (0, 6), (0, 6), (0, 11), (0, 6), (0, 6), (0, 11), (0, 6), (0, 6), (0, 11), (0, 6), (0, 6), (0, 11), (0, 6), (0, 6), (0, 11), (0, 6), (0, 6), (0, 11)] ++ List.replicate 18 ((-9223372036854775808), 9223372036854775807) ++ [(0, 0), (42, 42)]), [(0, (7, 0, 0)), (1, (0, 2, 0)), (2, (0, 64, 0)), (3, (0, 65, 0))], [], zfm_777, []), 6, [])
def zt_777_15 : zcut := (15, (([(0, 0), (0, 0), (0, 0), (45, 60), (0, 6), (0, 6), (0, 11), (0, 6), (0, 6), (0, 11), (0, 6), (0, 6), (0, 11), (0, 6), (0, 6), (0, 11), (0, 6), (0, 6), (0, 11), (0, 6), (0, 6), (0, 11), (0, 6), (0, 6), (0, 11), (0, 6), (0, 6), (0, 11), (0, 6), (0, 6), (0, 11), (0, 6), (0, 6), (0, 11), (0, 6), (0, 6), (0, 11), (0, 6), (0, 6), (0, 11), (0, 6), (0, 6), (0, 11), (0, 6), (0, 6), (0, 11), (0, 6), (0, 6), (0, 11)] ++ List.replicate 15 ((-9223372036854775808), 9223372036854775807) ++ [(0, 0), (45, 45)]), [(0, (7, 0, 0)), (1, (0, 2, 0)), (2, (0, 64, 0)), (3, (0, 65, 0))], [], zfm_777, []), 5, [])
def zt_777_16 : zcut := (15, (([(0, 0), (0, 0), (0, 0), (48, 60), (0, 6), (0, 6), (0, 11), (0, 6), (0, 6), (0, 11), (0, 6), (0, 6), (0, 11), (0, 6), (0, 6), (0, 11), (0, 6), (0, 6), (0, 11), (0, 6), (0, 6), (0, 11), (0, 6), (0, 6), (0, 11), (0, 6), (0, 6), (0, 11), (0, 6), (0, 6), (0, 11), (0, 6), (0, 6), (0, 11), (0, 6), (0, 6), (0, 11), (0, 6), (0, 6), (0, 11), (0, 6), (0, 6), (0, 11), (0, 6), (0, 6), (0, 11), (0, 6), (0, 6), (0, 11), (0, 6), (0, 6), (0, 11)] ++ List.replicate 12 ((-9223372036854775808), 9223372036854775807) ++ [(0, 0), (48, 48)]), [(0, (7, 0, 0)), (1, (0, 2, 0)), (2, (0, 64, 0)), (3, (0, 65, 0))], [], zfm_777, []), 4, [])
def zt_777_17 : zcut := (15, (([(0, 0), (0, 0), (0, 0), (51, 60), (0, 6), (0, 6), (0, 11), (0, 6), (0, 6), (0, 11), (0, 6), (0, 6), (0, 11), (0, 6), (0, 6), (0, 11), (0, 6), (0, 6), (0, 11), (0, 6), (0, 6), (0, 11), (0, 6), (0, 6), (0, 11), (0, 6), (0, 6), (0, 11), (0, 6), (0, 6), (0, 11), (0, 6), (0, 6), (0, 11), (0, 6), (0, 6), (0, 11), (0, 6), (0, 6), (0, 11), (0, 6), (0, 6), (0, 11), (0, 6), (0, 6), (0, 11), (0, 6), (0, 6), (0, 11), (0, 6), (0, 6), (0, 11), (0, 6), (0, 6), (0, 11)] ++ List.replicate 9 ((-9223372036854775808), 9223372036854775807) ++ [(0, 0), (51, 51)]), [(0, (7, 0, 0)), (1, (0, 2, 0)), (2, (0, 64, 0)), (3, (0, 65, 0))], [], zfm_777, []), 3, [])
def zt_777_18 : zcut := (15, (([(0, 0), (0, 0), (0, 0), (54, 60), (0, 6), (0, 6), (0, 11), (0, 6), (0, 6), (0, 11), (0, 6), (0, 6), (0, 11), (0, 6), (0, 6), (0, 11), (0, 6), (0, 6), (0, 11), (0, 6), (0, 6), (0, 11), (0, 6), (0, 6), (0, 11), (0, 6), (0, 6), (0, 11), (0, 6), (0, 6), (0, 11), (0, 6), (0, 6), (0, 11), (0, 6), (0, 6), (0, 11), (0, 6), (0, 6), (0, 11), (0, 6), (0, 6), (0, 11), (0, 6), (0, 6), (0, 11), (0, 6), (0, 6), (0, 11), (0, 6), (0, 6), (0, 11), (0, 6), (0, 6), (0, 11), (0, 6), (0, 6), (0, 11)] ++ List.replicate 6 ((-9223372036854775808), 9223372036854775807) ++ [(0, 0), (54, 54)]), [(0, (7, 0, 0)), (1, (0, 2, 0)), (2, (0, 64, 0)), (3, (0, 65, 0))], [], zfm_777, []), 2, [])
def zt_777_19 : zcut := (15, ([(0, 0), (0, 0), (0, 0), (57, 60), (0, 6), (0, 6), (0, 11), (0, 6), (0, 6), (0, 11), (0, 6), (0, 6), (0, 11), (0, 6), (0, 6), (0, 11), (0, 6), (0, 6), (0, 11), (0, 6), (0, 6), (0, 11), (0, 6), (0, 6), (0, 11), (0, 6), (0, 6), (0, 11), (0, 6), (0, 6), (0, 11), (0, 6), (0, 6), (0, 11), (0, 6), (0, 6), (0, 11), (0, 6), (0, 6), (0, 11), (0, 6), (0, 6), (0, 11), (0, 6), (0, 6), (0, 11), (0, 6), (0, 6), (0, 11), (0, 6), (0, 6), (0, 11), (0, 6), (0, 6), (0, 11), (0, 6), (0, 6), (0, 11), (0, 6), (0, 6), (0, 11), ((-9223372036854775808), 9223372036854775807), ((-9223372036854775808), 9223372036854775807), ((-9223372036854775808), 9223372036854775807), (0, 0), (57, 57)], [(0, (7, 0, 0)), (1, (0, 2, 0)), (2, (0, 64, 0)), (3, (0, 65, 0))], [], zfm_777, []), 1, [])
def zt_777_20 : zcut := (15, ([(0, 0), (0, 0), (0, 0), (60, 60), (0, 6), (0, 6), (0, 11), (0, 6), (0, 6), (0, 11), (0, 6), (0, 6), (0, 11), (0, 6), (0, 6), (0, 11), (0, 6), (0, 6), (0, 11), (0, 6), (0, 6), (0, 11), (0, 6), (0, 6), (0, 11), (0, 6), (0, 6), (0, 11), (0, 6), (0, 6), (0, 11), (0, 6), (0, 6), (0, 11), (0, 6), (0, 6), (0, 11), (0, 6), (0, 6), (0, 11), (0, 6), (0, 6), (0, 11), (0, 6), (0, 6), (0, 11), (0, 6), (0, 6), (0, 11), (0, 6), (0, 6), (0, 11), (0, 6), (0, 6), (0, 11), (0, 6), (0, 6), (0, 11), (0, 6), (0, 6), (0, 11), (0, 6), (0, 6), (0, 11), (0, 0), (60, 60)], [(0, (7, 0, 0)), (1, (0, 2, 0)), (2, (0, 64, 0)), (3, (0, 65, 0))], [], zfm_777, []), 0, [])
def zm_777 : zC := (cX5_refuseOaths, 4, zc_777, (zfl_RX5, zwl_RX5), (zk1_RX5, zk2_RX5, []), [(0, 87, zc_301), (0, 179, zc_302), (0, 239, zc_360), (0, 239, zc_361), (0, 239, zc_362), (0, 239, zc_363), (0, 239, zc_364), (0, 239, zc_365), (0, 239, zc_366), (0, 239, zc_367), (0, 239, zc_368), (0, 239, zc_369), (0, 239, zc_370), (0, 239, zc_371), (0, 239, zc_372), (0, 239, zc_373), (0, 239, zc_374), (0, 239, zc_375), (0, 239, zc_376), (0, 239, zc_377), (0, 239, zc_378), (0, 239, zc_379), (0, 239, zc_380), (0, 239, zc_381), (0, 239, zc_382), (0, 239, zc_383), (0, 239, zc_384), (0, 239, zc_385), (0, 239, zc_386), (0, 239, zc_387), (0, 239, zc_388), (0, 239, zc_389), (0, 239, zc_390), (0, 239, zc_391), (0, 239, zc_392), (0, 239, zc_393), (0, 239, zc_394), (0, 239, zc_395), (0, 239, zc_396), (0, 239, zc_397), (0, 239, zc_398), (0, 239, zc_399), (0, 239, zc_400), (0, 239, zc_401), (0, 239, zc_402), (0, 239, zc_403), (0, 239, zc_404), (0, 239, zc_405), (0, 239, zc_406), (0, 239, zc_407), (0, 239, zc_408), (0, 239, zc_409), (0, 239, zc_410), (0, 239, zc_411), (0, 239, zc_412), (0, 239, zc_413), (0, 239, zc_414), (0, 239, zc_415), (0, 239, zc_416), (0, 239, zc_417), (0, 239, zc_418), (0, 239, zc_419), (0, 250, zc_601), (0, 355, zc_785)], [zt_777_0, zt_777_1, zt_777_2, zt_777_3, zt_777_4, zt_777_5, zt_777_6, zt_777_7, zt_777_8, zt_777_9, zt_777_10, zt_777_11, zt_777_12, zt_777_13, zt_777_14, zt_777_15, zt_777_16, zt_777_17, zt_777_18, zt_777_19, zt_777_20], [])
/-- X5_refuseOaths -/
def zfm_778 : zmem := ([(31, 1001, (0, 3, 0))] ++ zmrun 32 1060 1 1 4 60)
def zt_778_0 : zcut := (15, (([(0, 0), (0, 0), (1, 1), (0, 60)] ++ List.replicate 60 ((-9223372036854775808), 9223372036854775807) ++ [(0, 0), (0, 0)]), [(0, (7, 0, 0)), (1, (0, 2, 0)), (2, (0, 64, 0)), (3, (0, 65, 0))], [], zfm_778, []), 20, [])
def zt_778_1 : zcut := (15, (([(0, 0), (0, 0), (1, 1), (3, 60), (0, 6), (0, 6), (0, 11)] ++ List.replicate 57 ((-9223372036854775808), 9223372036854775807) ++ [(0, 0), (3, 3)]), [(0, (7, 0, 0)), (1, (0, 2, 0)), (2, (0, 64, 0)), (3, (0, 65, 0))], [], zfm_778, []), 19, [])
def zt_778_2 : zcut := (15, (([(0, 0), (0, 0), (1, 1), (6, 60), (0, 6), (0, 6), (0, 11), (0, 6), (0, 6), (0, 11)] ++ List.replicate 54 ((-9223372036854775808), 9223372036854775807) ++ [(0, 0), (6, 6)]), [(0, (7, 0, 0)), (1, (0, 2, 0)), (2, (0, 64, 0)), (3, (0, 65, 0))], [], zfm_778, []), 18, [])
def zt_778_3 : zcut := (15, (([(0, 0), (0, 0), (1, 1), (9, 60), (0, 6), (0, 6), (0, 11), (0, 6), (0, 6), (0, 11), (0, 6), (0, 6), (0, 11)] ++ List.replicate 51 ((-9223372036854775808), 9223372036854775807) ++ [(0, 0), (9, 9)]), [(0, (7, 0, 0)), (1, (0, 2, 0)), (2, (0, 64, 0)), (3, (0, 65, 0))], [], zfm_778, []), 17, [])
def zt_778_4 : zcut := (15, (([(0, 0), (0, 0), (1, 1), (12, 60), (0, 6), (0, 6), (0, 11), (0, 6), (0, 6), (0, 11), (0, 6), (0, 6), (0, 11), (0, 6), (0, 6), (0, 11)] ++ List.replicate 48 ((-9223372036854775808), 9223372036854775807) ++ [(0, 0), (12, 12)]), [(0, (7, 0, 0)), (1, (0, 2, 0)), (2, (0, 64, 0)), (3, (0, 65, 0))], [], zfm_778, []), 16, [])
def zt_778_5 : zcut := (15, (([(0, 0), (0, 0), (1, 1), (15, 60), (0, 6), (0, 6), (0, 11), (0, 6), (0, 6), (0, 11), (0, 6), (0, 6), (0, 11), (0, 6), (0, 6), (0, 11), (0, 6), (0, 6), (0, 11)] ++ List.replicate 45 ((-9223372036854775808), 9223372036854775807) ++ [(0, 0), (15, 15)]), [(0, (7, 0, 0)), (1, (0, 2, 0)), (2, (0, 64, 0)), (3, (0, 65, 0))], [], zfm_778, []), 15, [])
def zt_778_6 : zcut := (15, (([(0, 0), (0, 0), (1, 1), (18, 60), (0, 6), (0, 6), (0, 11), (0, 6), (0, 6), (0, 11), (0, 6), (0, 6), (0, 11), (0, 6), (0, 6), (0, 11), (0, 6), (0, 6), (0, 11), (0, 6), (0, 6), (0, 11)] ++ List.replicate 42 ((-9223372036854775808), 9223372036854775807) ++ [(0, 0), (18, 18)]), [(0, (7, 0, 0)), (1, (0, 2, 0)), (2, (0, 64, 0)), (3, (0, 65, 0))], [], zfm_778, []), 14, [])
def zt_778_7 : zcut := (15, (([(0, 0), (0, 0), (1, 1), (21, 60), (0, 6), (0, 6), (0, 11), (0, 6), (0, 6), (0, 11), (0, 6), (0, 6), (0, 11), (0, 6), (0, 6), (0, 11), (0, 6), (0, 6), (0, 11), (0, 6), (0, 6), (0, 11), (0, 6), (0, 6), (0, 11)] ++ List.replicate 39 ((-9223372036854775808), 9223372036854775807) ++ [(0, 0), (21, 21)]), [(0, (7, 0, 0)), (1, (0, 2, 0)), (2, (0, 64, 0)), (3, (0, 65, 0))], [], zfm_778, []), 13, [])
def zt_778_8 : zcut := (15, (([(0, 0), (0, 0), (1, 1), (24, 60), (0, 6), (0, 6), (0, 11), (0, 6), (0, 6), (0, 11), (0, 6), (0, 6), (0, 11), (0, 6), (0, 6), (0, 11), (0, 6), (0, 6), (0, 11), (0, 6), (0, 6), (0, 11), (0, 6), (0, 6), (0, 11), (0, 6), (0, 6), (0, 11)] ++ List.replicate 36 ((-9223372036854775808), 9223372036854775807) ++ [(0, 0), (24, 24)]), [(0, (7, 0, 0)), (1, (0, 2, 0)), (2, (0, 64, 0)), (3, (0, 65, 0))], [], zfm_778, []), 12, [])
def zt_778_9 : zcut := (15, (([(0, 0), (0, 0), (1, 1), (27, 60), (0, 6), (0, 6), (0, 11), (0, 6), (0, 6), (0, 11), (0, 6), (0, 6), (0, 11), (0, 6), (0, 6), (0, 11), (0, 6), (0, 6), (0, 11), (0, 6), (0, 6), (0, 11), (0, 6), (0, 6), (0, 11), (0, 6), (0, 6), (0, 11), (0, 6), (0, 6), (0, 11)] ++ List.replicate 33 ((-9223372036854775808), 9223372036854775807) ++ [(0, 0), (27, 27)]), [(0, (7, 0, 0)), (1, (0, 2, 0)), (2, (0, 64, 0)), (3, (0, 65, 0))], [], zfm_778, []), 11, [])
def zt_778_10 : zcut := (15, (([(0, 0), (0, 0), (1, 1), (30, 60), (0, 6), (0, 6), (0, 11), (0, 6), (0, 6), (0, 11), (0, 6), (0, 6), (0, 11), (0, 6), (0, 6), (0, 11), (0, 6), (0, 6), (0, 11), (0, 6), (0, 6), (0, 11), (0, 6), (0, 6), (0, 11), (0, 6), (0, 6), (0, 11), (0, 6), (0, 6), (0, 11), (0, 6), (0, 6), (0, 11)] ++ List.replicate 30 ((-9223372036854775808), 9223372036854775807) ++ [(0, 0), (30, 30)]), [(0, (7, 0, 0)), (1, (0, 2, 0)), (2, (0, 64, 0)), (3, (0, 65, 0))], [], zfm_778, []), 10, [])
def zt_778_11 : zcut := (15, (([(0, 0), (0, 0), (1, 1), (33, 60), (0, 6), (0, 6), (0, 11), (0, 6), (0, 6), (0, 11), (0, 6), (0, 6), (0, 11), (0, 6), (0, 6), (0, 11), (0, 6), (0, 6), (0, 11), (0, 6), (0, 6), (0, 11), (0, 6), (0, 6), (0, 11), (0, 6), (0, 6), (0, 11), (0, 6), (0, 6), (0, 11), (0, 6), (0, 6), (0, 11), (0, 6), (0, 6), (0, 11)] ++ List.replicate 27 ((-9223372036854775808), 9223372036854775807) ++ [(0, 0), (33, 33)]), [(0, (7, 0, 0)), (1, (0, 2, 0)), (2, (0, 64, 0)), (3, (0, 65, 0))], [], zfm_778, []), 9, [])
def zt_778_12 : zcut := (15, (([(0, 0), (0, 0), (1, 1), (36, 60), (0, 6), (0, 6), (0, 11), (0, 6), (0, 6), (0, 11), (0, 6), (0, 6), (0, 11), (0, 6), (0, 6), (0, 11), (0, 6), (0, 6), (0, 11), (0, 6), (0, 6), (0, 11), (0, 6), (0, 6), (0, 11), (0, 6), (0, 6), (0, 11), (0, 6), (0, 6), (0, 11), (0, 6), (0, 6), (0, 11), (0, 6), (0, 6), (0, 11), (0, 6), (0, 6), (0, 11)] ++ List.replicate 24 ((-9223372036854775808), 9223372036854775807) ++ [(0, 0), (36, 36)]), [(0, (7, 0, 0)), (1, (0, 2, 0)), (2, (0, 64, 0)), (3, (0, 65, 0))], [], zfm_778, []), 8, [])
def zt_778_13 : zcut := (15, (([(0, 0), (0, 0), (1, 1), (39, 60), (0, 6), (0, 6), (0, 11), (0, 6), (0, 6), (0, 11), (0, 6), (0, 6), (0, 11), (0, 6), (0, 6), (0, 11), (0, 6), (0, 6), (0, 11), (0, 6), (0, 6), (0, 11), (0, 6), (0, 6), (0, 11), (0, 6), (0, 6), (0, 11), (0, 6), (0, 6), (0, 11), (0, 6), (0, 6), (0, 11), (0, 6), (0, 6), (0, 11), (0, 6), (0, 6), (0, 11), (0, 6), (0, 6), (0, 11)] ++ List.replicate 21 ((-9223372036854775808), 9223372036854775807) ++ [(0, 0), (39, 39)]), [(0, (7, 0, 0)), (1, (0, 2, 0)), (2, (0, 64, 0)), (3, (0, 65, 0))], [], zfm_778, []), 7, [])
def zt_778_14 : zcut := (15, (([(0, 0), (0, 0), (1, 1), (42, 60), (0, 6), (0, 6), (0, 11), (0, 6), (0, 6), (0, 11), (0, 6), (0, 6), (0, 11), (0, 6), (0, 6), (0, 11), (0, 6), (0, 6), (0, 11), (0, 6), (0, 6), (0, 11), (0, 6), (0, 6), (0, 11), (0, 6), (0, 6), (0, 11), (0, 6), (0, 6), (0, 11), (0, 6), (0, 6), (0, 11), (0, 6), (0, 6), (0, 11), (0, 6), (0, 6), (0, 11), (0, 6), (0, 6), (0, 11), (0, 6), (0, 6), (0, 11)] ++ List.replicate 18 ((-9223372036854775808), 9223372036854775807) ++ [(0, 0), (42, 42)]), [(0, (7, 0, 0)), (1, (0, 2, 0)), (2, (0, 64, 0)), (3, (0, 65, 0))], [], zfm_778, []), 6, [])
def zt_778_15 : zcut := (15, (([(0, 0), (0, 0), (1, 1), (45, 60), (0, 6), (0, 6), (0, 11), (0, 6), (0, 6), (0, 11), (0, 6), (0, 6), (0, 11), (0, 6), (0, 6), (0, 11), (0, 6), (0, 6), (0, 11), (0, 6), (0, 6), (0, 11), (0, 6), (0, 6), (0, 11), (0, 6), (0, 6), (0, 11), (0, 6), (0, 6), (0, 11), (0, 6), (0, 6), (0, 11), (0, 6), (0, 6), (0, 11), (0, 6), (0, 6), (0, 11), (0, 6), (0, 6), (0, 11), (0, 6), (0, 6), (0, 11), (0, 6), (0, 6), (0, 11)] ++ List.replicate 15 ((-9223372036854775808), 9223372036854775807) ++ [(0, 0), (45, 45)]), [(0, (7, 0, 0)), (1, (0, 2, 0)), (2, (0, 64, 0)), (3, (0, 65, 0))], [], zfm_778, []), 5, [])
def zt_778_16 : zcut := (15, (([(0, 0), (0, 0), (1, 1), (48, 60), (0, 6), (0, 6), (0, 11), (0, 6), (0, 6), (0, 11), (0, 6), (0, 6), (0, 11), (0, 6), (0, 6), (0, 11), (0, 6), (0, 6), (0, 11), (0, 6), (0, 6), (0, 11), (0, 6), (0, 6), (0, 11), (0, 6), (0, 6), (0, 11), (0, 6), (0, 6), (0, 11), (0, 6), (0, 6), (0, 11), (0, 6), (0, 6), (0, 11), (0, 6), (0, 6), (0, 11), (0, 6), (0, 6), (0, 11), (0, 6), (0, 6), (0, 11), (0, 6), (0, 6), (0, 11), (0, 6), (0, 6), (0, 11)] ++ List.replicate 12 ((-9223372036854775808), 9223372036854775807) ++ [(0, 0), (48, 48)]), [(0, (7, 0, 0)), (1, (0, 2, 0)), (2, (0, 64, 0)), (3, (0, 65, 0))], [], zfm_778, []), 4, [])
def zt_778_17 : zcut := (15, (([(0, 0), (0, 0), (1, 1), (51, 60), (0, 6), (0, 6), (0, 11), (0, 6), (0, 6), (0, 11), (0, 6), (0, 6), (0, 11), (0, 6), (0, 6), (0, 11), (0, 6), (0, 6), (0, 11), (0, 6), (0, 6), (0, 11), (0, 6), (0, 6), (0, 11), (0, 6), (0, 6), (0, 11), (0, 6), (0, 6), (0, 11), (0, 6), (0, 6), (0, 11), (0, 6), (0, 6), (0, 11), (0, 6), (0, 6), (0, 11), (0, 6), (0, 6), (0, 11), (0, 6), (0, 6), (0, 11), (0, 6), (0, 6), (0, 11), (0, 6), (0, 6), (0, 11), (0, 6), (0, 6), (0, 11)] ++ List.replicate 9 ((-9223372036854775808), 9223372036854775807) ++ [(0, 0), (51, 51)]), [(0, (7, 0, 0)), (1, (0, 2, 0)), (2, (0, 64, 0)), (3, (0, 65, 0))], [], zfm_778, []), 3, [])
def zt_778_18 : zcut := (15, (([(0, 0), (0, 0), (1, 1), (54, 60), (0, 6), (0, 6), (0, 11), (0, 6), (0, 6), (0, 11), (0, 6), (0, 6), (0, 11), (0, 6), (0, 6), (0, 11), (0, 6), (0, 6), (0, 11), (0, 6), (0, 6), (0, 11), (0, 6), (0, 6), (0, 11), (0, 6), (0, 6), (0, 11), (0, 6), (0, 6), (0, 11), (0, 6), (0, 6), (0, 11), (0, 6), (0, 6), (0, 11), (0, 6), (0, 6), (0, 11), (0, 6), (0, 6), (0, 11), (0, 6), (0, 6), (0, 11), (0, 6), (0, 6), (0, 11), (0, 6), (0, 6), (0, 11), (0, 6), (0, 6), (0, 11), (0, 6), (0, 6), (0, 11)] ++ List.replicate 6 ((-9223372036854775808), 9223372036854775807) ++ [(0, 0), (54, 54)]), [(0, (7, 0, 0)), (1, (0, 2, 0)), (2, (0, 64, 0)), (3, (0, 65, 0))], [], zfm_778, []), 2, [])
def zt_778_19 : zcut := (15, ([(0, 0), (0, 0), (1, 1), (57, 60), (0, 6), (0, 6), (0, 11), (0, 6), (0, 6), (0, 11), (0, 6), (0, 6), (0, 11), (0, 6), (0, 6), (0, 11), (0, 6), (0, 6), (0, 11), (0, 6), (0, 6), (0, 11), (0, 6), (0, 6), (0, 11), (0, 6), (0, 6), (0, 11), (0, 6), (0, 6), (0, 11), (0, 6), (0, 6), (0, 11), (0, 6), (0, 6), (0, 11), (0, 6), (0, 6), (0, 11), (0, 6), (0, 6), (0, 11), (0, 6), (0, 6), (0, 11), (0, 6), (0, 6), (0, 11), (0, 6), (0, 6), (0, 11), (0, 6), (0, 6), (0, 11), (0, 6), (0, 6), (0, 11), (0, 6), (0, 6), (0, 11), ((-9223372036854775808), 9223372036854775807), ((-9223372036854775808), 9223372036854775807), ((-9223372036854775808), 9223372036854775807), (0, 0), (57, 57)], [(0, (7, 0, 0)), (1, (0, 2, 0)), (2, (0, 64, 0)), (3, (0, 65, 0))], [], zfm_778, []), 1, [])
def zt_778_20 : zcut := (15, ([(0, 0), (0, 0), (1, 1), (60, 60), (0, 6), (0, 6), (0, 11), (0, 6), (0, 6), (0, 11), (0, 6), (0, 6), (0, 11), (0, 6), (0, 6), (0, 11), (0, 6), (0, 6), (0, 11), (0, 6), (0, 6), (0, 11), (0, 6), (0, 6), (0, 11), (0, 6), (0, 6), (0, 11), (0, 6), (0, 6), (0, 11), (0, 6), (0, 6), (0, 11), (0, 6), (0, 6), (0, 11), (0, 6), (0, 6), (0, 11), (0, 6), (0, 6), (0, 11), (0, 6), (0, 6), (0, 11), (0, 6), (0, 6), (0, 11), (0, 6), (0, 6), (0, 11), (0, 6), (0, 6), (0, 11), (0, 6), (0, 6), (0, 11), (0, 6), (0, 6), (0, 11), (0, 6), (0, 6), (0, 11), (0, 0), (60, 60)], [(0, (7, 0, 0)), (1, (0, 2, 0)), (2, (0, 64, 0)), (3, (0, 65, 0))], [], zfm_778, []), 0, [])
def zm_778 : zC := (cX5_refuseOaths, 4, zc_778, (zfl_RX5, zwl_RX5), (zk1_RX5, zk2_RX5, []), [(0, 87, zc_301), (0, 179, zc_302), (0, 239, zc_420), (0, 239, zc_421), (0, 239, zc_422), (0, 239, zc_423), (0, 239, zc_424), (0, 239, zc_425), (0, 239, zc_426), (0, 239, zc_427), (0, 239, zc_428), (0, 239, zc_429), (0, 239, zc_430), (0, 239, zc_431), (0, 239, zc_432), (0, 239, zc_433), (0, 239, zc_434), (0, 239, zc_435), (0, 239, zc_436), (0, 239, zc_437), (0, 239, zc_438), (0, 239, zc_439), (0, 239, zc_440), (0, 239, zc_441), (0, 239, zc_442), (0, 239, zc_443), (0, 239, zc_444), (0, 239, zc_445), (0, 239, zc_446), (0, 239, zc_447), (0, 239, zc_448), (0, 239, zc_449), (0, 239, zc_450), (0, 239, zc_451), (0, 239, zc_452), (0, 239, zc_453), (0, 239, zc_454), (0, 239, zc_455), (0, 239, zc_456), (0, 239, zc_457), (0, 239, zc_458), (0, 239, zc_459), (0, 239, zc_460), (0, 239, zc_461), (0, 239, zc_462), (0, 239, zc_463), (0, 239, zc_464), (0, 239, zc_465), (0, 239, zc_466), (0, 239, zc_467), (0, 239, zc_468), (0, 239, zc_469), (0, 239, zc_470), (0, 239, zc_471), (0, 239, zc_472), (0, 239, zc_473), (0, 239, zc_474), (0, 239, zc_475), (0, 239, zc_476), (0, 239, zc_477), (0, 239, zc_478), (0, 239, zc_479), (0, 250, zc_603), (0, 355, zc_787)], [zt_778_0, zt_778_1, zt_778_2, zt_778_3, zt_778_4, zt_778_5, zt_778_6, zt_778_7, zt_778_8, zt_778_9, zt_778_10, zt_778_11, zt_778_12, zt_778_13, zt_778_14, zt_778_15, zt_778_16, zt_778_17, zt_778_18, zt_778_19, zt_778_20], [])
