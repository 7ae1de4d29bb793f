/-! ===== contracts: checks, from 337 on ===== -/
-- IceBoatsModel.heard
def yD337 : List YD := yD_337 :: yD336
theorem yk_337 : ychk yKD (yct yB yD336) xMT xFT xSTX xm219 yD_337.2.1 yD_337.2.2.1 6000 = true := by decide +kernel
theorem yc_337 : ychks yKD yB xMT xFT xSTX yD337 = true := ychks_cons (d := yD_337) (L := yD336) (M := xm219) rfl yk_337 yc_336
-- IceBoatsModel.knowsAt
def yD338 : List YD := yD_338 :: yD337
theorem yk_338 : ychk yKD (yct yB yD337) xMT xFT xSTX xm222 yD_338.2.1 yD_338.2.2.1 6000 = true := by decide +kernel
theorem yc_338 : ychks yKD yB xMT xFT xSTX yD338 = true := ychks_cons (d := yD_338) (L := yD337) (M := xm222) rfl yk_338 yc_337
-- IceBoatsModel.learns
def yD339 : List YD := yD_339 :: yD338
theorem yk_339 : ychk yKD (yct yB yD338) xMT xFT xSTX xm223 yD_339.2.1 yD_339.2.2.1 6000 = true := by decide +kernel
theorem yc_339 : ychks yKD yB xMT xFT xSTX yD339 = true := ychks_cons (d := yD_339) (L := yD338) (M := xm223) rfl yk_339 yc_338
-- IceBoatsModel.knowsOf
def yD340 : List YD := yD_340 :: yD339
theorem yk_340 : ychk yKD (yct yB yD339) xMT xFT xSTX xm221 yD_340.2.1 yD_340.2.2.1 6000 = true := by decide +kernel
theorem yc_340 : ychks yKD yB xMT xFT xSTX yD340 = true := ychks_cons (d := yD_340) (L := yD339) (M := xm221) rfl yk_340 yc_339
-- IceBoatsModel.knowsOf
def yD341 : List YD := yD_341 :: yD340
theorem yk_341 : ychk yKD (yct yB yD340) xMT xFT xSTX xm221 yD_341.2.1 yD_341.2.2.1 6000 = true := by decide +kernel
theorem yc_341 : ychks yKD yB xMT xFT xSTX yD341 = true := ychks_cons (d := yD_341) (L := yD340) (M := xm221) rfl yk_341 yc_340
-- IceBoatsModel.knowsOf
def yD342 : List YD := yD_342 :: yD341
theorem yk_342 : ychk yKD (yct yB yD341) xMT xFT xSTX xm221 yD_342.2.1 yD_342.2.2.1 6000 = true := by decide +kernel
theorem yc_342 : ychks yKD yB xMT xFT xSTX yD342 = true := ychks_cons (d := yD_342) (L := yD341) (M := xm221) rfl yk_342 yc_341
-- IceBoatsModel.knows
def yD343 : List YD := yD_343 :: yD342
theorem yk_343 : ychk yKD (yct yB yD342) xMT xFT xSTX xm220 yD_343.2.1 yD_343.2.2.1 6000 = true := by decide +kernel
theorem yc_343 : ychks yKD yB xMT xFT xSTX yD343 = true := ychks_cons (d := yD_343) (L := yD342) (M := xm220) rfl yk_343 yc_342
-- IceBoatsModel.allKnow
def yD344 : List YD := yD_344 :: yD343
theorem yk_344 : ychk yKD (yct yB yD343) xMT xFT xSTX xm224 yD_344.2.1 yD_344.2.2.1 6000 = true := by decide +kernel
theorem yc_344 : ychks yKD yB xMT xFT xSTX yD344 = true := ychks_cons (d := yD_344) (L := yD343) (M := xm224) rfl yk_344 yc_343
-- IceBoatsModel.letter
def yD345 : List YD := yD_345 :: yD344
theorem yk_345 : ychk yKD (yct yB yD344) xMT xFT xSTX xm227 yD_345.2.1 yD_345.2.2.1 6000 = true := by decide +kernel
theorem yc_345 : ychks yKD yB xMT xFT xSTX yD345 = true := ychks_cons (d := yD_345) (L := yD344) (M := xm227) rfl yk_345 yc_344
-- IceBoatsModel.reads
def yD346 : List YD := yD_346 :: yD345
theorem yk_346 : ychk yKD (yct yB yD345) xMT xFT xSTX xm226 yD_346.2.1 yD_346.2.2.1 6000 = true := by decide +kernel
theorem yc_346 : ychks yKD yB xMT xFT xSTX yD346 = true := ychks_cons (d := yD_346) (L := yD345) (M := xm226) rfl yk_346 yc_345
-- IceBoatsModel.fault
def yD347 : List YD := yD_347 :: yD346
theorem yk_347 : ychk yKD (yct yB yD346) xMT xFT xSTX xm225 yD_347.2.1 yD_347.2.2.1 6000 = true := by decide +kernel
theorem yc_347 : ychks yKD yB xMT xFT xSTX yD347 = true := ychks_cons (d := yD_347) (L := yD346) (M := xm225) rfl yk_347 yc_346
-- IceBoatsModel.rules
def yD348 : List YD := yD_348 :: yD347
theorem yk_348 : ychk yKD (yct yB yD347) xMT xFT xSTX xm228 yD_348.2.1 yD_348.2.2.1 6000 = true := by decide +kernel
theorem yc_348 : ychks yKD yB xMT xFT xSTX yD348 = true := ychks_cons (d := yD_348) (L := yD347) (M := xm228) rfl yk_348 yc_347
-- IceBoatsModel.rule
def yD349 : List YD := yD_349 :: yD348
theorem yk_349 : ychk yKD (yct yB yD348) xMT xFT xSTX xm229 yD_349.2.1 yD_349.2.2.1 6000 = true := by decide +kernel
theorem yc_349 : ychks yKD yB xMT xFT xSTX yD349 = true := ychks_cons (d := yD_349) (L := yD348) (M := xm229) rfl yk_349 yc_348
-- IceBoatsModel.asks
def yD350 : List YD := yD_350 :: yD349
theorem yk_350 : ychk yKD (yct yB yD349) xMT xFT xSTX xm230 yD_350.2.1 yD_350.2.2.1 6000 = true := by decide +kernel
theorem yc_350 : ychks yKD yB xMT xFT xSTX yD350 = true := ychks_cons (d := yD_350) (L := yD349) (M := xm230) rfl yk_350 yc_349
-- IceBoatsModel.isMap
def yD351 : List YD := yD_351 :: yD350
theorem yk_351 : ychk yKD (yct yB yD350) xMT xFT xSTX xm232 yD_351.2.1 yD_351.2.2.1 6000 = true := by decide +kernel
theorem yc_351 : ychks yKD yB xMT xFT xSTX yD351 = true := ychks_cons (d := yD_351) (L := yD350) (M := xm232) rfl yk_351 yc_350
-- IceBoatsModel.agrees
def yD352 : List YD := yD_352 :: yD351
theorem yk_352 : ychk yKD (yct yB yD351) xMT xFT xSTX xm233 yD_352.2.1 yD_352.2.2.1 6000 = true := by decide +kernel
theorem yc_352 : ychks yKD yB xMT xFT xSTX yD352 = true := ychks_cons (d := yD_352) (L := yD351) (M := xm233) rfl yk_352 yc_351
-- IceBoatsModel.shifts
def yD353 : List YD := yD_353 :: yD352
theorem yk_353 : ychk yKD (yct yB yD352) xMT xFT xSTX xm231 yD_353.2.1 yD_353.2.2.1 6000 = true := by decide +kernel
theorem yc_353 : ychks yKD yB xMT xFT xSTX yD353 = true := ychks_cons (d := yD_353) (L := yD352) (M := xm231) rfl yk_353 yc_352
-- IceBoatsModel.many
def yD354 : List YD := yD_1 :: yD353
theorem yk_354 : ychk yKD (yct yB yD353) xMT xFT xSTX xm9 yD_1.2.1 yD_1.2.2.1 6000 = true := by decide +kernel
theorem yc_354 : ychks yKD yB xMT xFT xSTX yD354 = true := ychks_cons (d := yD_1) (L := yD353) (M := xm9) rfl yk_354 yc_353
-- IceBoatsModel.mapped
def yD355 : List YD := yD_355 :: yD354
theorem yk_355 : ychk yKD (yct yB yD354) xMT xFT xSTX xm234 yD_355.2.1 yD_355.2.2.1 6000 = true := by decide +kernel
theorem yc_355 : ychks yKD yB xMT xFT xSTX yD355 = true := ychks_cons (d := yD_355) (L := yD354) (M := xm234) rfl yk_355 yc_354
-- IceBoatsModel.many
def yD356 : List YD := yD_1 :: yD355
theorem yk_356 : ychk yKD (yct yB yD355) xMT xFT xSTX xm9 yD_1.2.1 yD_1.2.2.1 6000 = true := by decide +kernel
theorem yc_356 : ychks yKD yB xMT xFT xSTX yD356 = true := ychks_cons (d := yD_1) (L := yD355) (M := xm9) rfl yk_356 yc_355
-- IceBoatsModel.areWays
def yD357 : List YD := yD_357 :: yD356
theorem yk_357 : ychk yKD (yct yB yD356) xMT xFT xSTX xm236 yD_357.2.1 yD_357.2.2.1 6000 = true := by decide +kernel
theorem yc_357 : ychks yKD yB xMT xFT xSTX yD357 = true := ychks_cons (d := yD_357) (L := yD356) (M := xm236) rfl yk_357 yc_356
-- IceBoatsModel.comesBy
def yD358 : List YD := yD_358 :: yD357
theorem yk_358 : ychk yKD (yct yB yD357) xMT xFT xSTX xm237 yD_358.2.1 yD_358.2.2.1 6000 = true := by decide +kernel
theorem yc_358 : ychks yKD yB xMT xFT xSTX yD358 = true := ychks_cons (d := yD_358) (L := yD357) (M := xm237) rfl yk_358 yc_357
-- IceBoatsModel.plan
def yD359 : List YD := yD_1 :: yD358
theorem yk_359 : ychk yKD (yct yB yD358) xMT xFT xSTX xm9 yD_1.2.1 yD_1.2.2.1 6000 = true := by decide +kernel
theorem yc_359 : ychks yKD yB xMT xFT xSTX yD359 = true := ychks_cons (d := yD_1) (L := yD358) (M := xm9) rfl yk_359 yc_358
-- IceBoatsModel.many
def yD360 : List YD := yD_1 :: yD359
theorem yk_360 : ychk yKD (yct yB yD359) xMT xFT xSTX xm9 yD_1.2.1 yD_1.2.2.1 6000 = true := by decide +kernel
theorem yc_360 : ychks yKD yB xMT xFT xSTX yD360 = true := ychks_cons (d := yD_1) (L := yD359) (M := xm9) rfl yk_360 yc_359
-- IceBoatsModel.comesBy
def yD361 : List YD := yD_361 :: yD360
theorem yk_361 : ychk yKD (yct yB yD360) xMT xFT xSTX xm237 yD_361.2.1 yD_361.2.2.1 6000 = true := by decide +kernel
theorem yc_361 : ychks yKD yB xMT xFT xSTX yD361 = true := ychks_cons (d := yD_361) (L := yD360) (M := xm237) rfl yk_361 yc_360
-- IceBoatsModel.plan
def yD362 : List YD := yD_1 :: yD361
theorem yk_362 : ychk yKD (yct yB yD361) xMT xFT xSTX xm9 yD_1.2.1 yD_1.2.2.1 6000 = true := by decide +kernel
theorem yc_362 : ychks yKD yB xMT xFT xSTX yD362 = true := ychks_cons (d := yD_1) (L := yD361) (M := xm9) rfl yk_362 yc_361
-- IceBoatsModel.many
def yD363 : List YD := yD_1 :: yD362
theorem yk_363 : ychk yKD (yct yB yD362) xMT xFT xSTX xm9 yD_1.2.1 yD_1.2.2.1 6000 = true := by decide +kernel
theorem yc_363 : ychks yKD yB xMT xFT xSTX yD363 = true := ychks_cons (d := yD_1) (L := yD362) (M := xm9) rfl yk_363 yc_362
-- IceBoatsModel.plan
def yD364 : List YD := yD_1 :: yD363
theorem yk_364 : ychk yKD (yct yB yD363) xMT xFT xSTX xm9 yD_1.2.1 yD_1.2.2.1 6000 = true := by decide +kernel
theorem yc_364 : ychks yKD yB xMT xFT xSTX yD364 = true := ychks_cons (d := yD_1) (L := yD363) (M := xm9) rfl yk_364 yc_363
-- IceBoatsModel.many
def yD365 : List YD := yD_1 :: yD364
theorem yk_365 : ychk yKD (yct yB yD364) xMT xFT xSTX xm9 yD_1.2.1 yD_1.2.2.1 6000 = true := by decide +kernel
theorem yc_365 : ychks yKD yB xMT xFT xSTX yD365 = true := ychks_cons (d := yD_1) (L := yD364) (M := xm9) rfl yk_365 yc_364
-- IceBoatsModel.plan
def yD366 : List YD := yD_1 :: yD365
theorem yk_366 : ychk yKD (yct yB yD365) xMT xFT xSTX xm9 yD_1.2.1 yD_1.2.2.1 6000 = true := by decide +kernel
theorem yc_366 : ychks yKD yB xMT xFT xSTX yD366 = true := ychks_cons (d := yD_1) (L := yD365) (M := xm9) rfl yk_366 yc_365
-- IceBoatsModel.many
def yD367 : List YD := yD_1 :: yD366
theorem yk_367 : ychk yKD (yct yB yD366) xMT xFT xSTX xm9 yD_1.2.1 yD_1.2.2.1 6000 = true := by decide +kernel
theorem yc_367 : ychks yKD yB xMT xFT xSTX yD367 = true := ychks_cons (d := yD_1) (L := yD366) (M := xm9) rfl yk_367 yc_366
-- IceBoatsModel.plan
def yD368 : List YD := yD_1 :: yD367
theorem yk_368 : ychk yKD (yct yB yD367) xMT xFT xSTX xm9 yD_1.2.1 yD_1.2.2.1 6000 = true := by decide +kernel
theorem yc_368 : ychks yKD yB xMT xFT xSTX yD368 = true := ychks_cons (d := yD_1) (L := yD367) (M := xm9) rfl yk_368 yc_367
-- IceBoatsModel.many
def yD369 : List YD := yD_1 :: yD368
theorem yk_369 : ychk yKD (yct yB yD368) xMT xFT xSTX xm9 yD_1.2.1 yD_1.2.2.1 6000 = true := by decide +kernel
theorem yc_369 : ychks yKD yB xMT xFT xSTX yD369 = true := ychks_cons (d := yD_1) (L := yD368) (M := xm9) rfl yk_369 yc_368
-- IceBoatsModel.plan
def yD370 : List YD := yD_1 :: yD369
theorem yk_370 : ychk yKD (yct yB yD369) xMT xFT xSTX xm9 yD_1.2.1 yD_1.2.2.1 6000 = true := by decide +kernel
theorem yc_370 : ychks yKD yB xMT xFT xSTX yD370 = true := ychks_cons (d := yD_1) (L := yD369) (M := xm9) rfl yk_370 yc_369
-- IceBoatsModel.many
def yD371 : List YD := yD_1 :: yD370
theorem yk_371 : ychk yKD (yct yB yD370) xMT xFT xSTX xm9 yD_1.2.1 yD_1.2.2.1 6000 = true := by decide +kernel
theorem yc_371 : ychks yKD yB xMT xFT xSTX yD371 = true := ychks_cons (d := yD_1) (L := yD370) (M := xm9) rfl yk_371 yc_370
-- IceBoatsModel.plan
def yD372 : List YD := yD_1 :: yD371
theorem yk_372 : ychk yKD (yct yB yD371) xMT xFT xSTX xm9 yD_1.2.1 yD_1.2.2.1 6000 = true := by decide +kernel
theorem yc_372 : ychks yKD yB xMT xFT xSTX yD372 = true := ychks_cons (d := yD_1) (L := yD371) (M := xm9) rfl yk_372 yc_371
-- IceBoatsModel.many
def yD373 : List YD := yD_1 :: yD372
theorem yk_373 : ychk yKD (yct yB yD372) xMT xFT xSTX xm9 yD_1.2.1 yD_1.2.2.1 6000 = true := by decide +kernel
theorem yc_373 : ychks yKD yB xMT xFT xSTX yD373 = true := ychks_cons (d := yD_1) (L := yD372) (M := xm9) rfl yk_373 yc_372
-- IceBoatsModel.plan
def yD374 : List YD := yD_1 :: yD373
theorem yk_374 : ychk yKD (yct yB yD373) xMT xFT xSTX xm9 yD_1.2.1 yD_1.2.2.1 6000 = true := by decide +kernel
theorem yc_374 : ychks yKD yB xMT xFT xSTX yD374 = true := ychks_cons (d := yD_1) (L := yD373) (M := xm9) rfl yk_374 yc_373
-- IceBoatsModel.many
def yD375 : List YD := yD_1 :: yD374
theorem yk_375 : ychk yKD (yct yB yD374) xMT xFT xSTX xm9 yD_1.2.1 yD_1.2.2.1 6000 = true := by decide +kernel
theorem yc_375 : ychks yKD yB xMT xFT xSTX yD375 = true := ychks_cons (d := yD_1) (L := yD374) (M := xm9) rfl yk_375 yc_374
-- IceBoatsModel.plan
def yD376 : List YD := yD_1 :: yD375
theorem yk_376 : ychk yKD (yct yB yD375) xMT xFT xSTX xm9 yD_1.2.1 yD_1.2.2.1 6000 = true := by decide +kernel
theorem yc_376 : ychks yKD yB xMT xFT xSTX yD376 = true := ychks_cons (d := yD_1) (L := yD375) (M := xm9) rfl yk_376 yc_375
-- IceBoatsModel.many
def yD377 : List YD := yD_1 :: yD376
theorem yk_377 : ychk yKD (yct yB yD376) xMT xFT xSTX xm9 yD_1.2.1 yD_1.2.2.1 6000 = true := by decide +kernel
theorem yc_377 : ychks yKD yB xMT xFT xSTX yD377 = true := ychks_cons (d := yD_1) (L := yD376) (M := xm9) rfl yk_377 yc_376
-- IceBoatsModel.plan
def yD378 : List YD := yD_1 :: yD377
theorem yk_378 : ychk yKD (yct yB yD377) xMT xFT xSTX xm9 yD_1.2.1 yD_1.2.2.1 6000 = true := by decide +kernel
theorem yc_378 : ychks yKD yB xMT xFT xSTX yD378 = true := ychks_cons (d := yD_1) (L := yD377) (M := xm9) rfl yk_378 yc_377
-- IceBoatsModel.many
def yD379 : List YD := yD_1 :: yD378
theorem yk_379 : ychk yKD (yct yB yD378) xMT xFT xSTX xm9 yD_1.2.1 yD_1.2.2.1 6000 = true := by decide +kernel
theorem yc_379 : ychks yKD yB xMT xFT xSTX yD379 = true := ychks_cons (d := yD_1) (L := yD378) (M := xm9) rfl yk_379 yc_378
-- IceBoatsModel.plan
def yD380 : List YD := yD_1 :: yD379
theorem yk_380 : ychk yKD (yct yB yD379) xMT xFT xSTX xm9 yD_1.2.1 yD_1.2.2.1 6000 = true := by decide +kernel
theorem yc_380 : ychks yKD yB xMT xFT xSTX yD380 = true := ychks_cons (d := yD_1) (L := yD379) (M := xm9) rfl yk_380 yc_379
-- IceBoatsModel.many
def yD381 : List YD := yD_1 :: yD380
theorem yk_381 : ychk yKD (yct yB yD380) xMT xFT xSTX xm9 yD_1.2.1 yD_1.2.2.1 6000 = true := by decide +kernel
theorem yc_381 : ychks yKD yB xMT xFT xSTX yD381 = true := ychks_cons (d := yD_1) (L := yD380) (M := xm9) rfl yk_381 yc_380
-- IceBoatsModel.plan
def yD382 : List YD := yD_1 :: yD381
theorem yk_382 : ychk yKD (yct yB yD381) xMT xFT xSTX xm9 yD_1.2.1 yD_1.2.2.1 6000 = true := by decide +kernel
theorem yc_382 : ychks yKD yB xMT xFT xSTX yD382 = true := ychks_cons (d := yD_1) (L := yD381) (M := xm9) rfl yk_382 yc_381
-- IceBoatsModel.many
def yD383 : List YD := yD_1 :: yD382
theorem yk_383 : ychk yKD (yct yB yD382) xMT xFT xSTX xm9 yD_1.2.1 yD_1.2.2.1 6000 = true := by decide +kernel
theorem yc_383 : ychks yKD yB xMT xFT xSTX yD383 = true := ychks_cons (d := yD_1) (L := yD382) (M := xm9) rfl yk_383 yc_382
-- IceBoatsModel.plan
def yD384 : List YD := yD_1 :: yD383
theorem yk_384 : ychk yKD (yct yB yD383) xMT xFT xSTX xm9 yD_1.2.1 yD_1.2.2.1 6000 = true := by decide +kernel
theorem yc_384 : ychks yKD yB xMT xFT xSTX yD384 = true := ychks_cons (d := yD_1) (L := yD383) (M := xm9) rfl yk_384 yc_383
-- IceBoatsModel.many
def yD385 : List YD := yD_1 :: yD384
theorem yk_385 : ychk yKD (yct yB yD384) xMT xFT xSTX xm9 yD_1.2.1 yD_1.2.2.1 6000 = true := by decide +kernel
theorem yc_385 : ychks yKD yB xMT xFT xSTX yD385 = true := ychks_cons (d := yD_1) (L := yD384) (M := xm9) rfl yk_385 yc_384
-- IceBoatsModel.plan
def yD386 : List YD := yD_1 :: yD385
theorem yk_386 : ychk yKD (yct yB yD385) xMT xFT xSTX xm9 yD_1.2.1 yD_1.2.2.1 6000 = true := by decide +kernel
theorem yc_386 : ychks yKD yB xMT xFT xSTX yD386 = true := ychks_cons (d := yD_1) (L := yD385) (M := xm9) rfl yk_386 yc_385
-- IceBoatsModel.many
def yD387 : List YD := yD_1 :: yD386
theorem yk_387 : ychk yKD (yct yB yD386) xMT xFT xSTX xm9 yD_1.2.1 yD_1.2.2.1 6000 = true := by decide +kernel
theorem yc_387 : ychks yKD yB xMT xFT xSTX yD387 = true := ychks_cons (d := yD_1) (L := yD386) (M := xm9) rfl yk_387 yc_386
-- IceBoatsModel.plan
def yD388 : List YD := yD_388 :: yD387
theorem yk_388 : ychk yKD (yct yB yD387) xMT xFT xSTX xm235 yD_388.2.1 yD_388.2.2.1 6000 = true := by decide +kernel
theorem yc_388 : ychks yKD yB xMT xFT xSTX yD388 = true := ychks_cons (d := yD_388) (L := yD387) (M := xm235) rfl yk_388 yc_387
-- IceBoatsModel.many
def yD389 : List YD := yD_1 :: yD388
theorem yk_389 : ychk yKD (yct yB yD388) xMT xFT xSTX xm9 yD_1.2.1 yD_1.2.2.1 6000 = true := by decide +kernel
theorem yc_389 : ychks yKD yB xMT xFT xSTX yD389 = true := ychks_cons (d := yD_1) (L := yD388) (M := xm9) rfl yk_389 yc_388
-- IceBoatsModel.plan
def yD390 : List YD := yD_1 :: yD389
theorem yk_390 : ychk yKD (yct yB yD389) xMT xFT xSTX xm9 yD_1.2.1 yD_1.2.2.1 6000 = true := by decide +kernel
theorem yc_390 : ychks yKD yB xMT xFT xSTX yD390 = true := ychks_cons (d := yD_1) (L := yD389) (M := xm9) rfl yk_390 yc_389
-- IceBoatsModel.many
def yD391 : List YD := yD_1 :: yD390
theorem yk_391 : ychk yKD (yct yB yD390) xMT xFT xSTX xm9 yD_1.2.1 yD_1.2.2.1 6000 = true := by decide +kernel
theorem yc_391 : ychks yKD yB xMT xFT xSTX yD391 = true := ychks_cons (d := yD_1) (L := yD390) (M := xm9) rfl yk_391 yc_390
-- IceBoatsModel.plan
def yD392 : List YD := yD_1 :: yD391
theorem yk_392 : ychk yKD (yct yB yD391) xMT xFT xSTX xm9 yD_1.2.1 yD_1.2.2.1 6000 = true := by decide +kernel
theorem yc_392 : ychks yKD yB xMT xFT xSTX yD392 = true := ychks_cons (d := yD_1) (L := yD391) (M := xm9) rfl yk_392 yc_391
-- IceBoatsModel.many
def yD393 : List YD := yD_1 :: yD392
theorem yk_393 : ychk yKD (yct yB yD392) xMT xFT xSTX xm9 yD_1.2.1 yD_1.2.2.1 6000 = true := by decide +kernel
theorem yc_393 : ychks yKD yB xMT xFT xSTX yD393 = true := ychks_cons (d := yD_1) (L := yD392) (M := xm9) rfl yk_393 yc_392
-- IceBoatsModel.plan
def yD394 : List YD := yD_1 :: yD393
theorem yk_394 : ychk yKD (yct yB yD393) xMT xFT xSTX xm9 yD_1.2.1 yD_1.2.2.1 6000 = true := by decide +kernel
theorem yc_394 : ychks yKD yB xMT xFT xSTX yD394 = true := ychks_cons (d := yD_1) (L := yD393) (M := xm9) rfl yk_394 yc_393
-- IceBoatsModel.many
def yD395 : List YD := yD_1 :: yD394
theorem yk_395 : ychk yKD (yct yB yD394) xMT xFT xSTX xm9 yD_1.2.1 yD_1.2.2.1 6000 = true := by decide +kernel
theorem yc_395 : ychks yKD yB xMT xFT xSTX yD395 = true := ychks_cons (d := yD_1) (L := yD394) (M := xm9) rfl yk_395 yc_394
-- IceBoatsModel.plan
def yD396 : List YD := yD_1 :: yD395
theorem yk_396 : ychk yKD (yct yB yD395) xMT xFT xSTX xm9 yD_1.2.1 yD_1.2.2.1 6000 = true := by decide +kernel
theorem yc_396 : ychks yKD yB xMT xFT xSTX yD396 = true := ychks_cons (d := yD_1) (L := yD395) (M := xm9) rfl yk_396 yc_395
-- IceBoatsModel.many
def yD397 : List YD := yD_1 :: yD396
theorem yk_397 : ychk yKD (yct yB yD396) xMT xFT xSTX xm9 yD_1.2.1 yD_1.2.2.1 6000 = true := by decide +kernel
theorem yc_397 : ychks yKD yB xMT xFT xSTX yD397 = true := ychks_cons (d := yD_1) (L := yD396) (M := xm9) rfl yk_397 yc_396
-- IceBoatsModel.plan
def yD398 : List YD := yD_1 :: yD397
theorem yk_398 : ychk yKD (yct yB yD397) xMT xFT xSTX xm9 yD_1.2.1 yD_1.2.2.1 6000 = true := by decide +kernel
theorem yc_398 : ychks yKD yB xMT xFT xSTX yD398 = true := ychks_cons (d := yD_1) (L := yD397) (M := xm9) rfl yk_398 yc_397
-- IceBoatsModel.many
def yD399 : List YD := yD_1 :: yD398
theorem yk_399 : ychk yKD (yct yB yD398) xMT xFT xSTX xm9 yD_1.2.1 yD_1.2.2.1 6000 = true := by decide +kernel
theorem yc_399 : ychks yKD yB xMT xFT xSTX yD399 = true := ychks_cons (d := yD_1) (L := yD398) (M := xm9) rfl yk_399 yc_398
-- IceBoatsModel.plan
def yD400 : List YD := yD_1 :: yD399
theorem yk_400 : ychk yKD (yct yB yD399) xMT xFT xSTX xm9 yD_1.2.1 yD_1.2.2.1 6000 = true := by decide +kernel
theorem yc_400 : ychks yKD yB xMT xFT xSTX yD400 = true := ychks_cons (d := yD_1) (L := yD399) (M := xm9) rfl yk_400 yc_399
-- IceBoatsModel.many
def yD401 : List YD := yD_1 :: yD400
theorem yk_401 : ychk yKD (yct yB yD400) xMT xFT xSTX xm9 yD_1.2.1 yD_1.2.2.1 6000 = true := by decide +kernel
theorem yc_401 : ychks yKD yB xMT xFT xSTX yD401 = true := ychks_cons (d := yD_1) (L := yD400) (M := xm9) rfl yk_401 yc_400
-- IceBoatsModel.plan
def yD402 : List YD := yD_1 :: yD401
theorem yk_402 : ychk yKD (yct yB yD401) xMT xFT xSTX xm9 yD_1.2.1 yD_1.2.2.1 6000 = true := by decide +kernel
theorem yc_402 : ychks yKD yB xMT xFT xSTX yD402 = true := ychks_cons (d := yD_1) (L := yD401) (M := xm9) rfl yk_402 yc_401
-- IceBoatsModel.many
def yD403 : List YD := yD_1 :: yD402
theorem yk_403 : ychk yKD (yct yB yD402) xMT xFT xSTX xm9 yD_1.2.1 yD_1.2.2.1 6000 = true := by decide +kernel
theorem yc_403 : ychks yKD yB xMT xFT xSTX yD403 = true := ychks_cons (d := yD_1) (L := yD402) (M := xm9) rfl yk_403 yc_402
-- IceBoatsModel.plan
def yD404 : List YD := yD_404 :: yD403
theorem yk_404 : ychk yKD (yct yB yD403) xMT xFT xSTX xm235 yD_404.2.1 yD_404.2.2.1 6000 = true := by decide +kernel
theorem yc_404 : ychks yKD yB xMT xFT xSTX yD404 = true := ychks_cons (d := yD_404) (L := yD403) (M := xm235) rfl yk_404 yc_403
-- IceBoatsModel.many
def yD405 : List YD := yD_1 :: yD404
theorem yk_405 : ychk yKD (yct yB yD404) xMT xFT xSTX xm9 yD_1.2.1 yD_1.2.2.1 6000 = true := by decide +kernel
theorem yc_405 : ychks yKD yB xMT xFT xSTX yD405 = true := ychks_cons (d := yD_1) (L := yD404) (M := xm9) rfl yk_405 yc_404
-- IceBoatsModel.plan
def yD406 : List YD := yD_1 :: yD405
theorem yk_406 : ychk yKD (yct yB yD405) xMT xFT xSTX xm9 yD_1.2.1 yD_1.2.2.1 6000 = true := by decide +kernel
theorem yc_406 : ychks yKD yB xMT xFT xSTX yD406 = true := ychks_cons (d := yD_1) (L := yD405) (M := xm9) rfl yk_406 yc_405
-- IceBoatsModel.many
def yD407 : List YD := yD_1 :: yD406
theorem yk_407 : ychk yKD (yct yB yD406) xMT xFT xSTX xm9 yD_1.2.1 yD_1.2.2.1 6000 = true := by decide +kernel
theorem yc_407 : ychks yKD yB xMT xFT xSTX yD407 = true := ychks_cons (d := yD_1) (L := yD406) (M := xm9) rfl yk_407 yc_406
-- IceBoatsModel.plan
def yD408 : List YD := yD_1 :: yD407
theorem yk_408 : ychk yKD (yct yB yD407) xMT xFT xSTX xm9 yD_1.2.1 yD_1.2.2.1 6000 = true := by decide +kernel
theorem yc_408 : ychks yKD yB xMT xFT xSTX yD408 = true := ychks_cons (d := yD_1) (L := yD407) (M := xm9) rfl yk_408 yc_407
-- IceBoatsModel.many
def yD409 : List YD := yD_1 :: yD408
theorem yk_409 : ychk yKD (yct yB yD408) xMT xFT xSTX xm9 yD_1.2.1 yD_1.2.2.1 6000 = true := by decide +kernel
theorem yc_409 : ychks yKD yB xMT xFT xSTX yD409 = true := ychks_cons (d := yD_1) (L := yD408) (M := xm9) rfl yk_409 yc_408
-- IceBoatsModel.plan
def yD410 : List YD := yD_1 :: yD409
theorem yk_410 : ychk yKD (yct yB yD409) xMT xFT xSTX xm9 yD_1.2.1 yD_1.2.2.1 6000 = true := by decide +kernel
theorem yc_410 : ychks yKD yB xMT xFT xSTX yD410 = true := ychks_cons (d := yD_1) (L := yD409) (M := xm9) rfl yk_410 yc_409
-- IceBoatsModel.many
def yD411 : List YD := yD_1 :: yD410
theorem yk_411 : ychk yKD (yct yB yD410) xMT xFT xSTX xm9 yD_1.2.1 yD_1.2.2.1 6000 = true := by decide +kernel
theorem yc_411 : ychks yKD yB xMT xFT xSTX yD411 = true := ychks_cons (d := yD_1) (L := yD410) (M := xm9) rfl yk_411 yc_410
-- IceBoatsModel.plan
def yD412 : List YD := yD_412 :: yD411
theorem yk_412 : ychk yKD (yct yB yD411) xMT xFT xSTX xm235 yD_412.2.1 yD_412.2.2.1 6000 = true := by decide +kernel
theorem yc_412 : ychks yKD yB xMT xFT xSTX yD412 = true := ychks_cons (d := yD_412) (L := yD411) (M := xm235) rfl yk_412 yc_411
-- IceBoatsModel.many
def yD413 : List YD := yD_1 :: yD412
theorem yk_413 : ychk yKD (yct yB yD412) xMT xFT xSTX xm9 yD_1.2.1 yD_1.2.2.1 6000 = true := by decide +kernel
theorem yc_413 : ychks yKD yB xMT xFT xSTX yD413 = true := ychks_cons (d := yD_1) (L := yD412) (M := xm9) rfl yk_413 yc_412
-- IceBoatsModel.plan
def yD414 : List YD := yD_1 :: yD413
theorem yk_414 : ychk yKD (yct yB yD413) xMT xFT xSTX xm9 yD_1.2.1 yD_1.2.2.1 6000 = true := by decide +kernel
theorem yc_414 : ychks yKD yB xMT xFT xSTX yD414 = true := ychks_cons (d := yD_1) (L := yD413) (M := xm9) rfl yk_414 yc_413
-- IceBoatsModel.many
def yD415 : List YD := yD_1 :: yD414
theorem yk_415 : ychk yKD (yct yB yD414) xMT xFT xSTX xm9 yD_1.2.1 yD_1.2.2.1 6000 = true := by decide +kernel
theorem yc_415 : ychks yKD yB xMT xFT xSTX yD415 = true := ychks_cons (d := yD_1) (L := yD414) (M := xm9) rfl yk_415 yc_414
-- IceBoatsModel.plan
def yD416 : List YD := yD_416 :: yD415
theorem yk_416 : ychk yKD (yct yB yD415) xMT xFT xSTX xm235 yD_416.2.1 yD_416.2.2.1 6000 = true := by decide +kernel
theorem yc_416 : ychks yKD yB xMT xFT xSTX yD416 = true := ychks_cons (d := yD_416) (L := yD415) (M := xm235) rfl yk_416 yc_415
-- IceBoatsModel.many
def yD417 : List YD := yD_1 :: yD416
theorem yk_417 : ychk yKD (yct yB yD416) xMT xFT xSTX xm9 yD_1.2.1 yD_1.2.2.1 6000 = true := by decide +kernel
theorem yc_417 : ychks yKD yB xMT xFT xSTX yD417 = true := ychks_cons (d := yD_1) (L := yD416) (M := xm9) rfl yk_417 yc_416
-- IceBoatsModel.plan
def yD418 : List YD := yD_418 :: yD417
theorem yk_418 : ychk yKD (yct yB yD417) xMT xFT xSTX xm235 yD_418.2.1 yD_418.2.2.1 6000 = true := by decide +kernel
theorem yc_418 : ychks yKD yB xMT xFT xSTX yD418 = true := ychks_cons (d := yD_418) (L := yD417) (M := xm235) rfl yk_418 yc_417
-- IceBoatsModel.many
def yD419 : List YD := yD_1 :: yD418
theorem yk_419 : ychk yKD (yct yB yD418) xMT xFT xSTX xm9 yD_1.2.1 yD_1.2.2.1 6000 = true := by decide +kernel
theorem yc_419 : ychks yKD yB xMT xFT xSTX yD419 = true := ychks_cons (d := yD_1) (L := yD418) (M := xm9) rfl yk_419 yc_418
-- IceBoatsModel.plan
def yD420 : List YD := yD_420 :: yD419
theorem yk_420 : ychk yKD (yct yB yD419) xMT xFT xSTX xm235 yD_420.2.1 yD_420.2.2.1 6000 = true := by decide +kernel
theorem yc_420 : ychks yKD yB xMT xFT xSTX yD420 = true := ychks_cons (d := yD_420) (L := yD419) (M := xm235) rfl yk_420 yc_419
