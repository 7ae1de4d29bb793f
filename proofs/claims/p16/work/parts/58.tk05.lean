/-! ===== contracts: checks, from 421 on ===== -/
-- IceBoatsModel.many
def yD421 : List YD := yD_1 :: yD420
theorem yk_421 : ychk yKD (yct yB yD420) xMT xFT xSTX xm9 yD_1.2.1 yD_1.2.2.1 6000 = true := by decide +kernel
theorem yc_421 : ychks yKD yB xMT xFT xSTX yD421 = true := ychks_cons (d := yD_1) (L := yD420) (M := xm9) rfl yk_421 yc_420
-- IceBoatsModel.plan
def yD422 : List YD := yD_1 :: yD421
theorem yk_422 : ychk yKD (yct yB yD421) xMT xFT xSTX xm9 yD_1.2.1 yD_1.2.2.1 6000 = true := by decide +kernel
theorem yc_422 : ychks yKD yB xMT xFT xSTX yD422 = true := ychks_cons (d := yD_1) (L := yD421) (M := xm9) rfl yk_422 yc_421
-- IceBoatsModel.many
def yD423 : List YD := yD_1 :: yD422
theorem yk_423 : ychk yKD (yct yB yD422) xMT xFT xSTX xm9 yD_1.2.1 yD_1.2.2.1 6000 = true := by decide +kernel
theorem yc_423 : ychks yKD yB xMT xFT xSTX yD423 = true := ychks_cons (d := yD_1) (L := yD422) (M := xm9) rfl yk_423 yc_422
-- IceBoatsModel.plan
def yD424 : List YD := yD_1 :: yD423
theorem yk_424 : ychk yKD (yct yB yD423) xMT xFT xSTX xm9 yD_1.2.1 yD_1.2.2.1 6000 = true := by decide +kernel
theorem yc_424 : ychks yKD yB xMT xFT xSTX yD424 = true := ychks_cons (d := yD_1) (L := yD423) (M := xm9) rfl yk_424 yc_423
-- IceBoatsModel.many
def yD425 : List YD := yD_1 :: yD424
theorem yk_425 : ychk yKD (yct yB yD424) xMT xFT xSTX xm9 yD_1.2.1 yD_1.2.2.1 6000 = true := by decide +kernel
theorem yc_425 : ychks yKD yB xMT xFT xSTX yD425 = true := ychks_cons (d := yD_1) (L := yD424) (M := xm9) rfl yk_425 yc_424
-- IceBoatsModel.plan
def yD426 : List YD := yD_1 :: yD425
theorem yk_426 : ychk yKD (yct yB yD425) xMT xFT xSTX xm9 yD_1.2.1 yD_1.2.2.1 6000 = true := by decide +kernel
theorem yc_426 : ychks yKD yB xMT xFT xSTX yD426 = true := ychks_cons (d := yD_1) (L := yD425) (M := xm9) rfl yk_426 yc_425
-- IceBoatsModel.many
def yD427 : List YD := yD_1 :: yD426
theorem yk_427 : ychk yKD (yct yB yD426) xMT xFT xSTX xm9 yD_1.2.1 yD_1.2.2.1 6000 = true := by decide +kernel
theorem yc_427 : ychks yKD yB xMT xFT xSTX yD427 = true := ychks_cons (d := yD_1) (L := yD426) (M := xm9) rfl yk_427 yc_426
-- IceBoatsModel.plan
def yD428 : List YD := yD_1 :: yD427
theorem yk_428 : ychk yKD (yct yB yD427) xMT xFT xSTX xm9 yD_1.2.1 yD_1.2.2.1 6000 = true := by decide +kernel
theorem yc_428 : ychks yKD yB xMT xFT xSTX yD428 = true := ychks_cons (d := yD_1) (L := yD427) (M := xm9) rfl yk_428 yc_427
-- IceBoatsModel.many
def yD429 : List YD := yD_1 :: yD428
theorem yk_429 : ychk yKD (yct yB yD428) xMT xFT xSTX xm9 yD_1.2.1 yD_1.2.2.1 6000 = true := by decide +kernel
theorem yc_429 : ychks yKD yB xMT xFT xSTX yD429 = true := ychks_cons (d := yD_1) (L := yD428) (M := xm9) rfl yk_429 yc_428
-- IceBoatsModel.plan
def yD430 : List YD := yD_1 :: yD429
theorem yk_430 : ychk yKD (yct yB yD429) xMT xFT xSTX xm9 yD_1.2.1 yD_1.2.2.1 6000 = true := by decide +kernel
theorem yc_430 : ychks yKD yB xMT xFT xSTX yD430 = true := ychks_cons (d := yD_1) (L := yD429) (M := xm9) rfl yk_430 yc_429
-- IceBoatsModel.many
def yD431 : List YD := yD_1 :: yD430
theorem yk_431 : ychk yKD (yct yB yD430) xMT xFT xSTX xm9 yD_1.2.1 yD_1.2.2.1 6000 = true := by decide +kernel
theorem yc_431 : ychks yKD yB xMT xFT xSTX yD431 = true := ychks_cons (d := yD_1) (L := yD430) (M := xm9) rfl yk_431 yc_430
-- IceBoatsModel.plan
def yD432 : List YD := yD_1 :: yD431
theorem yk_432 : ychk yKD (yct yB yD431) xMT xFT xSTX xm9 yD_1.2.1 yD_1.2.2.1 6000 = true := by decide +kernel
theorem yc_432 : ychks yKD yB xMT xFT xSTX yD432 = true := ychks_cons (d := yD_1) (L := yD431) (M := xm9) rfl yk_432 yc_431
-- IceBoatsModel.many
def yD433 : List YD := yD_1 :: yD432
theorem yk_433 : ychk yKD (yct yB yD432) xMT xFT xSTX xm9 yD_1.2.1 yD_1.2.2.1 6000 = true := by decide +kernel
theorem yc_433 : ychks yKD yB xMT xFT xSTX yD433 = true := ychks_cons (d := yD_1) (L := yD432) (M := xm9) rfl yk_433 yc_432
-- IceBoatsModel.plan
def yD434 : List YD := yD_1 :: yD433
theorem yk_434 : ychk yKD (yct yB yD433) xMT xFT xSTX xm9 yD_1.2.1 yD_1.2.2.1 6000 = true := by decide +kernel
theorem yc_434 : ychks yKD yB xMT xFT xSTX yD434 = true := ychks_cons (d := yD_1) (L := yD433) (M := xm9) rfl yk_434 yc_433
-- IceBoatsModel.many
def yD435 : List YD := yD_1 :: yD434
theorem yk_435 : ychk yKD (yct yB yD434) xMT xFT xSTX xm9 yD_1.2.1 yD_1.2.2.1 6000 = true := by decide +kernel
theorem yc_435 : ychks yKD yB xMT xFT xSTX yD435 = true := ychks_cons (d := yD_1) (L := yD434) (M := xm9) rfl yk_435 yc_434
-- IceBoatsModel.plan
def yD436 : List YD := yD_436 :: yD435
theorem yk_436 : ychk yKD (yct yB yD435) xMT xFT xSTX xm235 yD_436.2.1 yD_436.2.2.1 6000 = true := by decide +kernel
theorem yc_436 : ychks yKD yB xMT xFT xSTX yD436 = true := ychks_cons (d := yD_436) (L := yD435) (M := xm235) rfl yk_436 yc_435
-- IceBoatsModel.many
def yD437 : List YD := yD_1 :: yD436
theorem yk_437 : ychk yKD (yct yB yD436) xMT xFT xSTX xm9 yD_1.2.1 yD_1.2.2.1 6000 = true := by decide +kernel
theorem yc_437 : ychks yKD yB xMT xFT xSTX yD437 = true := ychks_cons (d := yD_1) (L := yD436) (M := xm9) rfl yk_437 yc_436
-- IceBoatsModel.plan
def yD438 : List YD := yD_1 :: yD437
theorem yk_438 : ychk yKD (yct yB yD437) xMT xFT xSTX xm9 yD_1.2.1 yD_1.2.2.1 6000 = true := by decide +kernel
theorem yc_438 : ychks yKD yB xMT xFT xSTX yD438 = true := ychks_cons (d := yD_1) (L := yD437) (M := xm9) rfl yk_438 yc_437
-- IceBoatsModel.many
def yD439 : List YD := yD_1 :: yD438
theorem yk_439 : ychk yKD (yct yB yD438) xMT xFT xSTX xm9 yD_1.2.1 yD_1.2.2.1 6000 = true := by decide +kernel
theorem yc_439 : ychks yKD yB xMT xFT xSTX yD439 = true := ychks_cons (d := yD_1) (L := yD438) (M := xm9) rfl yk_439 yc_438
-- IceBoatsModel.plan
def yD440 : List YD := yD_1 :: yD439
theorem yk_440 : ychk yKD (yct yB yD439) xMT xFT xSTX xm9 yD_1.2.1 yD_1.2.2.1 6000 = true := by decide +kernel
theorem yc_440 : ychks yKD yB xMT xFT xSTX yD440 = true := ychks_cons (d := yD_1) (L := yD439) (M := xm9) rfl yk_440 yc_439
-- IceBoatsModel.many
def yD441 : List YD := yD_1 :: yD440
theorem yk_441 : ychk yKD (yct yB yD440) xMT xFT xSTX xm9 yD_1.2.1 yD_1.2.2.1 6000 = true := by decide +kernel
theorem yc_441 : ychks yKD yB xMT xFT xSTX yD441 = true := ychks_cons (d := yD_1) (L := yD440) (M := xm9) rfl yk_441 yc_440
-- IceBoatsModel.plan
def yD442 : List YD := yD_1 :: yD441
theorem yk_442 : ychk yKD (yct yB yD441) xMT xFT xSTX xm9 yD_1.2.1 yD_1.2.2.1 6000 = true := by decide +kernel
theorem yc_442 : ychks yKD yB xMT xFT xSTX yD442 = true := ychks_cons (d := yD_1) (L := yD441) (M := xm9) rfl yk_442 yc_441
-- IceBoatsModel.many
def yD443 : List YD := yD_1 :: yD442
theorem yk_443 : ychk yKD (yct yB yD442) xMT xFT xSTX xm9 yD_1.2.1 yD_1.2.2.1 6000 = true := by decide +kernel
theorem yc_443 : ychks yKD yB xMT xFT xSTX yD443 = true := ychks_cons (d := yD_1) (L := yD442) (M := xm9) rfl yk_443 yc_442
-- IceBoatsModel.plan
def yD444 : List YD := yD_444 :: yD443
theorem yk_444 : ychk yKD (yct yB yD443) xMT xFT xSTX xm235 yD_444.2.1 yD_444.2.2.1 6000 = true := by decide +kernel
theorem yc_444 : ychks yKD yB xMT xFT xSTX yD444 = true := ychks_cons (d := yD_444) (L := yD443) (M := xm235) rfl yk_444 yc_443
-- IceBoatsModel.many
def yD445 : List YD := yD_1 :: yD444
theorem yk_445 : ychk yKD (yct yB yD444) xMT xFT xSTX xm9 yD_1.2.1 yD_1.2.2.1 6000 = true := by decide +kernel
theorem yc_445 : ychks yKD yB xMT xFT xSTX yD445 = true := ychks_cons (d := yD_1) (L := yD444) (M := xm9) rfl yk_445 yc_444
-- IceBoatsModel.plan
def yD446 : List YD := yD_1 :: yD445
theorem yk_446 : ychk yKD (yct yB yD445) xMT xFT xSTX xm9 yD_1.2.1 yD_1.2.2.1 6000 = true := by decide +kernel
theorem yc_446 : ychks yKD yB xMT xFT xSTX yD446 = true := ychks_cons (d := yD_1) (L := yD445) (M := xm9) rfl yk_446 yc_445
-- IceBoatsModel.many
def yD447 : List YD := yD_1 :: yD446
theorem yk_447 : ychk yKD (yct yB yD446) xMT xFT xSTX xm9 yD_1.2.1 yD_1.2.2.1 6000 = true := by decide +kernel
theorem yc_447 : ychks yKD yB xMT xFT xSTX yD447 = true := ychks_cons (d := yD_1) (L := yD446) (M := xm9) rfl yk_447 yc_446
-- IceBoatsModel.plan
def yD448 : List YD := yD_448 :: yD447
theorem yk_448 : ychk yKD (yct yB yD447) xMT xFT xSTX xm235 yD_448.2.1 yD_448.2.2.1 6000 = true := by decide +kernel
theorem yc_448 : ychks yKD yB xMT xFT xSTX yD448 = true := ychks_cons (d := yD_448) (L := yD447) (M := xm235) rfl yk_448 yc_447
-- IceBoatsModel.many
def yD449 : List YD := yD_1 :: yD448
theorem yk_449 : ychk yKD (yct yB yD448) xMT xFT xSTX xm9 yD_1.2.1 yD_1.2.2.1 6000 = true := by decide +kernel
theorem yc_449 : ychks yKD yB xMT xFT xSTX yD449 = true := ychks_cons (d := yD_1) (L := yD448) (M := xm9) rfl yk_449 yc_448
-- IceBoatsModel.plan
def yD450 : List YD := yD_450 :: yD449
theorem yk_450 : ychk yKD (yct yB yD449) xMT xFT xSTX xm235 yD_450.2.1 yD_450.2.2.1 6000 = true := by decide +kernel
theorem yc_450 : ychks yKD yB xMT xFT xSTX yD450 = true := ychks_cons (d := yD_450) (L := yD449) (M := xm235) rfl yk_450 yc_449
-- IceBoatsModel.many
def yD451 : List YD := yD_1 :: yD450
theorem yk_451 : ychk yKD (yct yB yD450) xMT xFT xSTX xm9 yD_1.2.1 yD_1.2.2.1 6000 = true := by decide +kernel
theorem yc_451 : ychks yKD yB xMT xFT xSTX yD451 = true := ychks_cons (d := yD_1) (L := yD450) (M := xm9) rfl yk_451 yc_450
-- IceBoatsModel.plan
def yD452 : List YD := yD_452 :: yD451
theorem yk_452 : ychk yKD (yct yB yD451) xMT xFT xSTX xm235 yD_452.2.1 yD_452.2.2.1 6000 = true := by decide +kernel
theorem yc_452 : ychks yKD yB xMT xFT xSTX yD452 = true := ychks_cons (d := yD_452) (L := yD451) (M := xm235) rfl yk_452 yc_451
-- IceBoatsModel.many
def yD453 : List YD := yD_1 :: yD452
theorem yk_453 : ychk yKD (yct yB yD452) xMT xFT xSTX xm9 yD_1.2.1 yD_1.2.2.1 6000 = true := by decide +kernel
theorem yc_453 : ychks yKD yB xMT xFT xSTX yD453 = true := ychks_cons (d := yD_1) (L := yD452) (M := xm9) rfl yk_453 yc_452
-- IceBoatsModel.plan
def yD454 : List YD := yD_1 :: yD453
theorem yk_454 : ychk yKD (yct yB yD453) xMT xFT xSTX xm9 yD_1.2.1 yD_1.2.2.1 6000 = true := by decide +kernel
theorem yc_454 : ychks yKD yB xMT xFT xSTX yD454 = true := ychks_cons (d := yD_1) (L := yD453) (M := xm9) rfl yk_454 yc_453
-- IceBoatsModel.many
def yD455 : List YD := yD_1 :: yD454
theorem yk_455 : ychk yKD (yct yB yD454) xMT xFT xSTX xm9 yD_1.2.1 yD_1.2.2.1 6000 = true := by decide +kernel
theorem yc_455 : ychks yKD yB xMT xFT xSTX yD455 = true := ychks_cons (d := yD_1) (L := yD454) (M := xm9) rfl yk_455 yc_454
-- IceBoatsModel.plan
def yD456 : List YD := yD_1 :: yD455
theorem yk_456 : ychk yKD (yct yB yD455) xMT xFT xSTX xm9 yD_1.2.1 yD_1.2.2.1 6000 = true := by decide +kernel
theorem yc_456 : ychks yKD yB xMT xFT xSTX yD456 = true := ychks_cons (d := yD_1) (L := yD455) (M := xm9) rfl yk_456 yc_455
-- IceBoatsModel.many
def yD457 : List YD := yD_1 :: yD456
theorem yk_457 : ychk yKD (yct yB yD456) xMT xFT xSTX xm9 yD_1.2.1 yD_1.2.2.1 6000 = true := by decide +kernel
theorem yc_457 : ychks yKD yB xMT xFT xSTX yD457 = true := ychks_cons (d := yD_1) (L := yD456) (M := xm9) rfl yk_457 yc_456
-- IceBoatsModel.plan
def yD458 : List YD := yD_1 :: yD457
theorem yk_458 : ychk yKD (yct yB yD457) xMT xFT xSTX xm9 yD_1.2.1 yD_1.2.2.1 6000 = true := by decide +kernel
theorem yc_458 : ychks yKD yB xMT xFT xSTX yD458 = true := ychks_cons (d := yD_1) (L := yD457) (M := xm9) rfl yk_458 yc_457
-- IceBoatsModel.many
def yD459 : List YD := yD_1 :: yD458
theorem yk_459 : ychk yKD (yct yB yD458) xMT xFT xSTX xm9 yD_1.2.1 yD_1.2.2.1 6000 = true := by decide +kernel
theorem yc_459 : ychks yKD yB xMT xFT xSTX yD459 = true := ychks_cons (d := yD_1) (L := yD458) (M := xm9) rfl yk_459 yc_458
-- IceBoatsModel.plan
def yD460 : List YD := yD_460 :: yD459
theorem yk_460 : ychk yKD (yct yB yD459) xMT xFT xSTX xm235 yD_460.2.1 yD_460.2.2.1 6000 = true := by decide +kernel
theorem yc_460 : ychks yKD yB xMT xFT xSTX yD460 = true := ychks_cons (d := yD_460) (L := yD459) (M := xm235) rfl yk_460 yc_459
-- IceBoatsModel.many
def yD461 : List YD := yD_1 :: yD460
theorem yk_461 : ychk yKD (yct yB yD460) xMT xFT xSTX xm9 yD_1.2.1 yD_1.2.2.1 6000 = true := by decide +kernel
theorem yc_461 : ychks yKD yB xMT xFT xSTX yD461 = true := ychks_cons (d := yD_1) (L := yD460) (M := xm9) rfl yk_461 yc_460
-- IceBoatsModel.plan
def yD462 : List YD := yD_1 :: yD461
theorem yk_462 : ychk yKD (yct yB yD461) xMT xFT xSTX xm9 yD_1.2.1 yD_1.2.2.1 6000 = true := by decide +kernel
theorem yc_462 : ychks yKD yB xMT xFT xSTX yD462 = true := ychks_cons (d := yD_1) (L := yD461) (M := xm9) rfl yk_462 yc_461
-- IceBoatsModel.many
def yD463 : List YD := yD_1 :: yD462
theorem yk_463 : ychk yKD (yct yB yD462) xMT xFT xSTX xm9 yD_1.2.1 yD_1.2.2.1 6000 = true := by decide +kernel
theorem yc_463 : ychks yKD yB xMT xFT xSTX yD463 = true := ychks_cons (d := yD_1) (L := yD462) (M := xm9) rfl yk_463 yc_462
-- IceBoatsModel.plan
def yD464 : List YD := yD_464 :: yD463
theorem yk_464 : ychk yKD (yct yB yD463) xMT xFT xSTX xm235 yD_464.2.1 yD_464.2.2.1 6000 = true := by decide +kernel
theorem yc_464 : ychks yKD yB xMT xFT xSTX yD464 = true := ychks_cons (d := yD_464) (L := yD463) (M := xm235) rfl yk_464 yc_463
-- IceBoatsModel.many
def yD465 : List YD := yD_1 :: yD464
theorem yk_465 : ychk yKD (yct yB yD464) xMT xFT xSTX xm9 yD_1.2.1 yD_1.2.2.1 6000 = true := by decide +kernel
theorem yc_465 : ychks yKD yB xMT xFT xSTX yD465 = true := ychks_cons (d := yD_1) (L := yD464) (M := xm9) rfl yk_465 yc_464
-- IceBoatsModel.plan
def yD466 : List YD := yD_466 :: yD465
theorem yk_466 : ychk yKD (yct yB yD465) xMT xFT xSTX xm235 yD_466.2.1 yD_466.2.2.1 6000 = true := by decide +kernel
theorem yc_466 : ychks yKD yB xMT xFT xSTX yD466 = true := ychks_cons (d := yD_466) (L := yD465) (M := xm235) rfl yk_466 yc_465
-- IceBoatsModel.many
def yD467 : List YD := yD_1 :: yD466
theorem yk_467 : ychk yKD (yct yB yD466) xMT xFT xSTX xm9 yD_1.2.1 yD_1.2.2.1 6000 = true := by decide +kernel
theorem yc_467 : ychks yKD yB xMT xFT xSTX yD467 = true := ychks_cons (d := yD_1) (L := yD466) (M := xm9) rfl yk_467 yc_466
-- IceBoatsModel.plan
def yD468 : List YD := yD_468 :: yD467
theorem yk_468 : ychk yKD (yct yB yD467) xMT xFT xSTX xm235 yD_468.2.1 yD_468.2.2.1 6000 = true := by decide +kernel
theorem yc_468 : ychks yKD yB xMT xFT xSTX yD468 = true := ychks_cons (d := yD_468) (L := yD467) (M := xm235) rfl yk_468 yc_467
-- IceBoatsModel.many
def yD469 : List YD := yD_1 :: yD468
theorem yk_469 : ychk yKD (yct yB yD468) xMT xFT xSTX xm9 yD_1.2.1 yD_1.2.2.1 6000 = true := by decide +kernel
theorem yc_469 : ychks yKD yB xMT xFT xSTX yD469 = true := ychks_cons (d := yD_1) (L := yD468) (M := xm9) rfl yk_469 yc_468
-- IceBoatsModel.plan
def yD470 : List YD := yD_1 :: yD469
theorem yk_470 : ychk yKD (yct yB yD469) xMT xFT xSTX xm9 yD_1.2.1 yD_1.2.2.1 6000 = true := by decide +kernel
theorem yc_470 : ychks yKD yB xMT xFT xSTX yD470 = true := ychks_cons (d := yD_1) (L := yD469) (M := xm9) rfl yk_470 yc_469
-- IceBoatsModel.many
def yD471 : List YD := yD_1 :: yD470
theorem yk_471 : ychk yKD (yct yB yD470) xMT xFT xSTX xm9 yD_1.2.1 yD_1.2.2.1 6000 = true := by decide +kernel
theorem yc_471 : ychks yKD yB xMT xFT xSTX yD471 = true := ychks_cons (d := yD_1) (L := yD470) (M := xm9) rfl yk_471 yc_470
-- IceBoatsModel.plan
def yD472 : List YD := yD_472 :: yD471
theorem yk_472 : ychk yKD (yct yB yD471) xMT xFT xSTX xm235 yD_472.2.1 yD_472.2.2.1 6000 = true := by decide +kernel
theorem yc_472 : ychks yKD yB xMT xFT xSTX yD472 = true := ychks_cons (d := yD_472) (L := yD471) (M := xm235) rfl yk_472 yc_471
-- IceBoatsModel.many
def yD473 : List YD := yD_1 :: yD472
theorem yk_473 : ychk yKD (yct yB yD472) xMT xFT xSTX xm9 yD_1.2.1 yD_1.2.2.1 6000 = true := by decide +kernel
theorem yc_473 : ychks yKD yB xMT xFT xSTX yD473 = true := ychks_cons (d := yD_1) (L := yD472) (M := xm9) rfl yk_473 yc_472
-- IceBoatsModel.plan
def yD474 : List YD := yD_474 :: yD473
theorem yk_474 : ychk yKD (yct yB yD473) xMT xFT xSTX xm235 yD_474.2.1 yD_474.2.2.1 6000 = true := by decide +kernel
theorem yc_474 : ychks yKD yB xMT xFT xSTX yD474 = true := ychks_cons (d := yD_474) (L := yD473) (M := xm235) rfl yk_474 yc_473
-- IceBoatsModel.many
def yD475 : List YD := yD_1 :: yD474
theorem yk_475 : ychk yKD (yct yB yD474) xMT xFT xSTX xm9 yD_1.2.1 yD_1.2.2.1 6000 = true := by decide +kernel
theorem yc_475 : ychks yKD yB xMT xFT xSTX yD475 = true := ychks_cons (d := yD_1) (L := yD474) (M := xm9) rfl yk_475 yc_474
-- IceBoatsModel.plan
def yD476 : List YD := yD_476 :: yD475
theorem yk_476 : ychk yKD (yct yB yD475) xMT xFT xSTX xm235 yD_476.2.1 yD_476.2.2.1 6000 = true := by decide +kernel
theorem yc_476 : ychks yKD yB xMT xFT xSTX yD476 = true := ychks_cons (d := yD_476) (L := yD475) (M := xm235) rfl yk_476 yc_475
-- IceBoatsModel.many
def yD477 : List YD := yD_1 :: yD476
theorem yk_477 : ychk yKD (yct yB yD476) xMT xFT xSTX xm9 yD_1.2.1 yD_1.2.2.1 6000 = true := by decide +kernel
theorem yc_477 : ychks yKD yB xMT xFT xSTX yD477 = true := ychks_cons (d := yD_1) (L := yD476) (M := xm9) rfl yk_477 yc_476
-- IceBoatsModel.plan
def yD478 : List YD := yD_478 :: yD477
theorem yk_478 : ychk yKD (yct yB yD477) xMT xFT xSTX xm235 yD_478.2.1 yD_478.2.2.1 6000 = true := by decide +kernel
theorem yc_478 : ychks yKD yB xMT xFT xSTX yD478 = true := ychks_cons (d := yD_478) (L := yD477) (M := xm235) rfl yk_478 yc_477
-- IceBoatsModel.many
def yD479 : List YD := yD_1 :: yD478
theorem yk_479 : ychk yKD (yct yB yD478) xMT xFT xSTX xm9 yD_1.2.1 yD_1.2.2.1 6000 = true := by decide +kernel
theorem yc_479 : ychks yKD yB xMT xFT xSTX yD479 = true := ychks_cons (d := yD_1) (L := yD478) (M := xm9) rfl yk_479 yc_478
-- IceBoatsModel.plan
def yD480 : List YD := yD_480 :: yD479
theorem yk_480 : ychk yKD (yct yB yD479) xMT xFT xSTX xm235 yD_480.2.1 yD_480.2.2.1 6000 = true := by decide +kernel
theorem yc_480 : ychks yKD yB xMT xFT xSTX yD480 = true := ychks_cons (d := yD_480) (L := yD479) (M := xm235) rfl yk_480 yc_479
-- IceBoatsModel.many
def yD481 : List YD := yD_1 :: yD480
theorem yk_481 : ychk yKD (yct yB yD480) xMT xFT xSTX xm9 yD_1.2.1 yD_1.2.2.1 6000 = true := by decide +kernel
theorem yc_481 : ychks yKD yB xMT xFT xSTX yD481 = true := ychks_cons (d := yD_1) (L := yD480) (M := xm9) rfl yk_481 yc_480
-- IceBoatsModel.plan
def yD482 : List YD := yD_482 :: yD481
theorem yk_482 : ychk yKD (yct yB yD481) xMT xFT xSTX xm235 yD_482.2.1 yD_482.2.2.1 6000 = true := by decide +kernel
theorem yc_482 : ychks yKD yB xMT xFT xSTX yD482 = true := ychks_cons (d := yD_482) (L := yD481) (M := xm235) rfl yk_482 yc_481
-- IceBoatsModel.many
def yD483 : List YD := yD_1 :: yD482
theorem yk_483 : ychk yKD (yct yB yD482) xMT xFT xSTX xm9 yD_1.2.1 yD_1.2.2.1 6000 = true := by decide +kernel
theorem yc_483 : ychks yKD yB xMT xFT xSTX yD483 = true := ychks_cons (d := yD_1) (L := yD482) (M := xm9) rfl yk_483 yc_482
-- IceBoatsModel.plan
def yD484 : List YD := yD_484 :: yD483
theorem yk_484 : ychk yKD (yct yB yD483) xMT xFT xSTX xm235 yD_484.2.1 yD_484.2.2.1 6000 = true := by decide +kernel
theorem yc_484 : ychks yKD yB xMT xFT xSTX yD484 = true := ychks_cons (d := yD_484) (L := yD483) (M := xm235) rfl yk_484 yc_483
-- IceBoatsModel.plan
def yD485 : List YD := yD_485 :: yD484
theorem yk_485 : ychk yKD (yct yB yD484) xMT xFT xSTX xm235 yD_485.2.1 yD_485.2.2.1 6000 = true := by decide +kernel
theorem yc_485 : ychks yKD yB xMT xFT xSTX yD485 = true := ychks_cons (d := yD_485) (L := yD484) (M := xm235) rfl yk_485 yc_484
-- IceBoatsModel.plan
def yD486 : List YD := yD_486 :: yD485
theorem yk_486 : ychk yKD (yct yB yD485) xMT xFT xSTX xm235 yD_486.2.1 yD_486.2.2.1 6000 = true := by decide +kernel
theorem yc_486 : ychks yKD yB xMT xFT xSTX yD486 = true := ychks_cons (d := yD_486) (L := yD485) (M := xm235) rfl yk_486 yc_485
-- IceBoatsModel.askedWays
def yD487 : List YD := yD_487 :: yD486
theorem yk_487 : ychk yKD (yct yB yD486) xMT xFT xSTX xm239 yD_487.2.1 yD_487.2.2.1 6000 = true := by decide +kernel
theorem yc_487 : ychks yKD yB xMT xFT xSTX yD487 = true := ychks_cons (d := yD_487) (L := yD486) (M := xm239) rfl yk_487 yc_486
-- IceBoatsModel.odds
def yD488 : List YD := yD_488 :: yD487
def yQ_488_0 : YCut := (101, [(0, 1, (1, 30, 0)), (1, 1, (0, 0, 63)), (2, 1, (0, 0, 5)), (3, 1, (0, 0, 0)), (4, 1, (2, 2, 4)), (6, 1, (0, 0, 0)), (7, 1, (0, 0, 64))], [(0, 7, (1, 32, 0)), (2, 104, (0, 1, 1))], [], (3395, [(5, -392), (6, -2)]), [])
def yQ_488_1 : YCut := (101, [(0, 1, (1, 30, 0)), (1, 1, (0, 0, 63)), (2, 1, (0, 0, 5)), (3, 1, (0, 0, 0)), (4, 1, (2, 2, 16)), (6, 1, (0, 1, 1)), (7, 1, (0, 0, 64))], [(0, 7, (1, 32, 0)), (2, 104, (0, 1, 1))], [], (3395, [(5, -392), (6, -2)]), [])
def yQ_488_2 : YCut := (101, [(0, 1, (1, 30, 0)), (1, 1, (0, 0, 63)), (2, 1, (0, 0, 5)), (3, 1, (0, 0, 0)), (4, 1, (2, 2, 64)), (6, 1, (0, 2, 2)), (7, 1, (0, 0, 64))], [(0, 7, (1, 32, 0)), (2, 104, (0, 1, 1))], [], (3395, [(5, -392), (6, -2)]), [])
def yQ_488_3 : YCut := (101, [(0, 1, (1, 30, 0)), (1, 1, (0, 0, 63)), (2, 1, (0, 0, 5)), (3, 1, (0, 0, 0)), (4, 1, (2, 2, 256)), (6, 1, (0, 3, 3)), (7, 1, (0, 0, 64))], [(0, 7, (1, 32, 0)), (2, 104, (0, 1, 1))], [], (3395, [(5, -392), (6, -2)]), [])
def yQ_488_4 : YCut := (101, [(0, 1, (1, 30, 0)), (1, 1, (0, 0, 63)), (2, 1, (0, 0, 5)), (3, 1, (0, 0, 0)), (4, 1, (2, 2, 1024)), (6, 1, (0, 4, 4)), (7, 1, (0, 0, 64))], [(0, 7, (1, 32, 0)), (2, 104, (0, 1, 1))], [], (3395, [(5, -392), (6, -2)]), [])
def yQ_488_5 : YCut := (101, [(0, 1, (1, 30, 0)), (1, 1, (0, 0, 63)), (2, 1, (0, 0, 5)), (3, 1, (0, 0, 0)), (4, 1, (2, 2, 4096)), (6, 1, (0, 5, 5)), (7, 1, (0, 0, 64))], [(0, 7, (1, 32, 0)), (2, 104, (0, 1, 1))], [], (3395, [(5, -392), (6, -2)]), [])
def yQ_488_6 : YCut := (101, [(0, 1, (1, 30, 0)), (1, 1, (0, 0, 63)), (2, 1, (0, 0, 5)), (3, 1, (0, 0, 0)), (4, 1, (2, 2, 16384)), (6, 1, (0, 6, 6)), (7, 1, (0, 0, 64))], [(0, 7, (1, 32, 0)), (2, 104, (0, 1, 1))], [], (3395, [(5, -392), (6, -2)]), [])
def yQ_488_7 : YCut := (101, [(0, 1, (1, 30, 0)), (1, 1, (0, 0, 63)), (2, 1, (0, 0, 5)), (3, 1, (0, 0, 0)), (4, 1, (2, 2, 65536)), (6, 1, (0, 7, 7)), (7, 1, (0, 0, 64))], [(0, 7, (1, 32, 0)), (2, 104, (0, 1, 1))], [], (3395, [(5, -392), (6, -2)]), [])
def yQ_488_8 : YCut := (181, [(0, 1, (1, 30, 0)), (1, 1, (0, 0, 63)), (2, 1, (0, 0, 5)), (3, 1, (0, 0, 0)), (4, 1, (2, 2, 4)), (6, 1, (0, 0, 0)), (7, 1, (0, 0, 64))], [(0, 7, (1, 32, 0)), (2, 104, (0, 1, 1))], [], (3265, [(5, -392), (6, -2)]), [])
def yQ_488_9 : YCut := (181, [(0, 1, (1, 30, 0)), (1, 1, (0, 0, 63)), (2, 1, (0, 0, 5)), (3, 1, (0, 0, 0)), (4, 1, (2, 2, 16)), (6, 1, (0, 1, 1)), (7, 1, (0, 0, 64))], [(0, 7, (1, 32, 0)), (2, 104, (0, 1, 1))], [], (3265, [(5, -392), (6, -2)]), [])
def yQ_488_10 : YCut := (181, [(0, 1, (1, 30, 0)), (1, 1, (0, 0, 63)), (2, 1, (0, 0, 5)), (3, 1, (0, 0, 0)), (4, 1, (2, 2, 64)), (6, 1, (0, 2, 2)), (7, 1, (0, 0, 64))], [(0, 7, (1, 32, 0)), (2, 104, (0, 1, 1))], [], (3265, [(5, -392), (6, -2)]), [])
def yQ_488_11 : YCut := (181, [(0, 1, (1, 30, 0)), (1, 1, (0, 0, 63)), (2, 1, (0, 0, 5)), (3, 1, (0, 0, 0)), (4, 1, (2, 2, 256)), (6, 1, (0, 3, 3)), (7, 1, (0, 0, 64))], [(0, 7, (1, 32, 0)), (2, 104, (0, 1, 1))], [], (3265, [(5, -392), (6, -2)]), [])
def yQ_488_12 : YCut := (181, [(0, 1, (1, 30, 0)), (1, 1, (0, 0, 63)), (2, 1, (0, 0, 5)), (3, 1, (0, 0, 0)), (4, 1, (2, 2, 1024)), (6, 1, (0, 4, 4)), (7, 1, (0, 0, 64))], [(0, 7, (1, 32, 0)), (2, 104, (0, 1, 1))], [], (3265, [(5, -392), (6, -2)]), [])
def yQ_488_13 : YCut := (181, [(0, 1, (1, 30, 0)), (1, 1, (0, 0, 63)), (2, 1, (0, 0, 5)), (3, 1, (0, 0, 0)), (4, 1, (2, 2, 4096)), (6, 1, (0, 5, 5)), (7, 1, (0, 0, 64))], [(0, 7, (1, 32, 0)), (2, 104, (0, 1, 1))], [], (3265, [(5, -392), (6, -2)]), [])
def yQ_488_14 : YCut := (181, [(0, 1, (1, 30, 0)), (1, 1, (0, 0, 63)), (2, 1, (0, 0, 5)), (3, 1, (0, 0, 0)), (4, 1, (2, 2, 16384)), (6, 1, (0, 6, 6)), (7, 1, (0, 0, 64))], [(0, 7, (1, 32, 0)), (2, 104, (0, 1, 1))], [], (3265, [(5, -392), (6, -2)]), [])
def yQ_488_15 : YCut := (181, [(0, 1, (1, 30, 0)), (1, 1, (0, 0, 63)), (2, 1, (0, 0, 5)), (3, 1, (0, 0, 0)), (4, 1, (2, 2, 65536)), (6, 1, (0, 7, 7)), (7, 1, (0, 0, 64))], [(0, 7, (1, 32, 0)), (2, 104, (0, 1, 1))], [], (3265, [(5, -392), (6, -2)]), [])
def yQ_488_16 : YCut := (55, [(0, 1, (1, 30, 0)), (1, 1, (0, 0, 63)), (2, 1, (0, 0, 5)), (3, 1, (0, 0, 0)), (4, 1, (2, 2, 1)), (6, 1, (0, 0, 0))], [(2, 104, (0, 1, 1))], [], (3527, [(5, -392)]), [])
def yQ_488_17 : YCut := (55, [(0, 1, (1, 30, 0)), (1, 1, (0, 0, 63)), (2, 1, (0, 0, 5)), (3, 1, (0, 0, 0)), (4, 1, (2, 2, 4)), (6, 1, (0, 1, 1)), (7, 1, (0, 64, 64))], [(0, 7, (1, 32, 0)), (2, 104, (0, 1, 1))], [], (3527, [(5, -392)]), [])
def yQ_488_18 : YCut := (55, [(0, 1, (1, 30, 0)), (1, 1, (0, 0, 63)), (2, 1, (0, 0, 5)), (3, 1, (0, 0, 0)), (4, 1, (2, 2, 16)), (6, 1, (0, 2, 2)), (7, 1, (0, 64, 64))], [(0, 7, (1, 32, 0)), (2, 104, (0, 1, 1))], [], (3527, [(5, -392)]), [])
def yQ_488_19 : YCut := (55, [(0, 1, (1, 30, 0)), (1, 1, (0, 0, 63)), (2, 1, (0, 0, 5)), (3, 1, (0, 0, 0)), (4, 1, (2, 2, 64)), (6, 1, (0, 3, 3)), (7, 1, (0, 64, 64))], [(0, 7, (1, 32, 0)), (2, 104, (0, 1, 1))], [], (3527, [(5, -392)]), [])
def yQ_488_20 : YCut := (55, [(0, 1, (1, 30, 0)), (1, 1, (0, 0, 63)), (2, 1, (0, 0, 5)), (3, 1, (0, 0, 0)), (4, 1, (2, 2, 256)), (6, 1, (0, 4, 4)), (7, 1, (0, 64, 64))], [(0, 7, (1, 32, 0)), (2, 104, (0, 1, 1))], [], (3527, [(5, -392)]), [])
def yQ_488_21 : YCut := (55, [(0, 1, (1, 30, 0)), (1, 1, (0, 0, 63)), (2, 1, (0, 0, 5)), (3, 1, (0, 0, 0)), (4, 1, (2, 2, 1024)), (6, 1, (0, 5, 5)), (7, 1, (0, 64, 64))], [(0, 7, (1, 32, 0)), (2, 104, (0, 1, 1))], [], (3527, [(5, -392)]), [])
def yQ_488_22 : YCut := (55, [(0, 1, (1, 30, 0)), (1, 1, (0, 0, 63)), (2, 1, (0, 0, 5)), (3, 1, (0, 0, 0)), (4, 1, (2, 2, 4096)), (6, 1, (0, 6, 6)), (7, 1, (0, 64, 64))], [(0, 7, (1, 32, 0)), (2, 104, (0, 1, 1))], [], (3527, [(5, -392)]), [])
def yQ_488_23 : YCut := (55, [(0, 1, (1, 30, 0)), (1, 1, (0, 0, 63)), (2, 1, (0, 0, 5)), (3, 1, (0, 0, 0)), (4, 1, (2, 2, 16384)), (6, 1, (0, 7, 7)), (7, 1, (0, 64, 64))], [(0, 7, (1, 32, 0)), (2, 104, (0, 1, 1))], [], (3527, [(5, -392)]), [])
def yQ_488_24 : YCut := (55, [(0, 1, (1, 30, 0)), (1, 1, (0, 0, 63)), (2, 1, (0, 0, 5)), (3, 1, (0, 0, 0)), (4, 1, (2, 2, 65536)), (6, 1, (0, 8, 8)), (7, 1, (0, 64, 64))], [(0, 7, (1, 32, 0)), (2, 104, (0, 1, 1))], [], (3527, [(5, -392)]), [])
def yQ_488_25 : YCut := (77, [(0, 1, (1, 30, 0)), (1, 1, (0, 0, 63)), (2, 1, (0, 0, 5)), (3, 1, (0, 0, 0)), (4, 1, (2, 2, 4)), (6, 1, (0, 0, 0)), (7, 1, (0, 0, 64))], [(0, 7, (1, 32, 0)), (2, 104, (0, 1, 1))], [], (3525, [(5, -392), (6, -2)]), [])
def yQ_488_26 : YCut := (77, [(0, 1, (1, 30, 0)), (1, 1, (0, 0, 63)), (2, 1, (0, 0, 5)), (3, 1, (0, 0, 0)), (4, 1, (2, 2, 16)), (6, 1, (0, 1, 1)), (7, 1, (0, 0, 64))], [(0, 7, (1, 32, 0)), (2, 104, (0, 1, 1))], [], (3525, [(5, -392), (6, -2)]), [])
def yQ_488_27 : YCut := (77, [(0, 1, (1, 30, 0)), (1, 1, (0, 0, 63)), (2, 1, (0, 0, 5)), (3, 1, (0, 0, 0)), (4, 1, (2, 2, 64)), (6, 1, (0, 2, 2)), (7, 1, (0, 0, 64))], [(0, 7, (1, 32, 0)), (2, 104, (0, 1, 1))], [], (3525, [(5, -392), (6, -2)]), [])
def yQ_488_28 : YCut := (77, [(0, 1, (1, 30, 0)), (1, 1, (0, 0, 63)), (2, 1, (0, 0, 5)), (3, 1, (0, 0, 0)), (4, 1, (2, 2, 256)), (6, 1, (0, 3, 3)), (7, 1, (0, 0, 64))], [(0, 7, (1, 32, 0)), (2, 104, (0, 1, 1))], [], (3525, [(5, -392), (6, -2)]), [])
def yQ_488_29 : YCut := (77, [(0, 1, (1, 30, 0)), (1, 1, (0, 0, 63)), (2, 1, (0, 0, 5)), (3, 1, (0, 0, 0)), (4, 1, (2, 2, 1024)), (6, 1, (0, 4, 4)), (7, 1, (0, 0, 64))], [(0, 7, (1, 32, 0)), (2, 104, (0, 1, 1))], [], (3525, [(5, -392), (6, -2)]), [])
def yQ_488_30 : YCut := (77, [(0, 1, (1, 30, 0)), (1, 1, (0, 0, 63)), (2, 1, (0, 0, 5)), (3, 1, (0, 0, 0)), (4, 1, (2, 2, 4096)), (6, 1, (0, 5, 5)), (7, 1, (0, 0, 64))], [(0, 7, (1, 32, 0)), (2, 104, (0, 1, 1))], [], (3525, [(5, -392), (6, -2)]), [])
def yQ_488_31 : YCut := (77, [(0, 1, (1, 30, 0)), (1, 1, (0, 0, 63)), (2, 1, (0, 0, 5)), (3, 1, (0, 0, 0)), (4, 1, (2, 2, 16384)), (6, 1, (0, 6, 6)), (7, 1, (0, 0, 64))], [(0, 7, (1, 32, 0)), (2, 104, (0, 1, 1))], [], (3525, [(5, -392), (6, -2)]), [])
def yQ_488_32 : YCut := (77, [(0, 1, (1, 30, 0)), (1, 1, (0, 0, 63)), (2, 1, (0, 0, 5)), (3, 1, (0, 0, 0)), (4, 1, (2, 2, 65536)), (6, 1, (0, 7, 7)), (7, 1, (0, 0, 64))], [(0, 7, (1, 32, 0)), (2, 104, (0, 1, 1))], [], (3525, [(5, -392), (6, -2)]), [])
def yQ_488_33 : YCut := (18, [(0, 1, (1, 30, 0)), (1, 1, (0, 0, 63)), (2, 1, (0, 0, 5)), (3, 1, (0, 0, 0)), (4, 1, (0, 0, 64))], [(2, 104, (0, 1, 1))], [], (3657, [(4, -2)]), [])
theorem yq_488_0 : ycut1 yKD yD_488.2.1.2.2.1 (yct yB yD487) xMT xFT xSTX xm238 (ypst1 yD_488.2.1.2.2.2) yD_488.2.2.1 6000 yQ_488_0 = true := by decide +kernel
theorem yq_488_1 : ycut1 yKD yD_488.2.1.2.2.1 (yct yB yD487) xMT xFT xSTX xm238 (ypst1 yD_488.2.1.2.2.2) yD_488.2.2.1 6000 yQ_488_1 = true := by decide +kernel
theorem yq_488_2 : ycut1 yKD yD_488.2.1.2.2.1 (yct yB yD487) xMT xFT xSTX xm238 (ypst1 yD_488.2.1.2.2.2) yD_488.2.2.1 6000 yQ_488_2 = true := by decide +kernel
theorem yq_488_3 : ycut1 yKD yD_488.2.1.2.2.1 (yct yB yD487) xMT xFT xSTX xm238 (ypst1 yD_488.2.1.2.2.2) yD_488.2.2.1 6000 yQ_488_3 = true := by decide +kernel
theorem yq_488_4 : ycut1 yKD yD_488.2.1.2.2.1 (yct yB yD487) xMT xFT xSTX xm238 (ypst1 yD_488.2.1.2.2.2) yD_488.2.2.1 6000 yQ_488_4 = true := by decide +kernel
theorem yq_488_5 : ycut1 yKD yD_488.2.1.2.2.1 (yct yB yD487) xMT xFT xSTX xm238 (ypst1 yD_488.2.1.2.2.2) yD_488.2.2.1 6000 yQ_488_5 = true := by decide +kernel
theorem yq_488_6 : ycut1 yKD yD_488.2.1.2.2.1 (yct yB yD487) xMT xFT xSTX xm238 (ypst1 yD_488.2.1.2.2.2) yD_488.2.2.1 6000 yQ_488_6 = true := by decide +kernel
theorem yq_488_7 : ycut1 yKD yD_488.2.1.2.2.1 (yct yB yD487) xMT xFT xSTX xm238 (ypst1 yD_488.2.1.2.2.2) yD_488.2.2.1 6000 yQ_488_7 = true := by decide +kernel
theorem yq_488_8 : ycut1 yKD yD_488.2.1.2.2.1 (yct yB yD487) xMT xFT xSTX xm238 (ypst1 yD_488.2.1.2.2.2) yD_488.2.2.1 6000 yQ_488_8 = true := by decide +kernel
theorem yq_488_9 : ycut1 yKD yD_488.2.1.2.2.1 (yct yB yD487) xMT xFT xSTX xm238 (ypst1 yD_488.2.1.2.2.2) yD_488.2.2.1 6000 yQ_488_9 = true := by decide +kernel
theorem yq_488_10 : ycut1 yKD yD_488.2.1.2.2.1 (yct yB yD487) xMT xFT xSTX xm238 (ypst1 yD_488.2.1.2.2.2) yD_488.2.2.1 6000 yQ_488_10 = true := by decide +kernel
theorem yq_488_11 : ycut1 yKD yD_488.2.1.2.2.1 (yct yB yD487) xMT xFT xSTX xm238 (ypst1 yD_488.2.1.2.2.2) yD_488.2.2.1 6000 yQ_488_11 = true := by decide +kernel
theorem yq_488_12 : ycut1 yKD yD_488.2.1.2.2.1 (yct yB yD487) xMT xFT xSTX xm238 (ypst1 yD_488.2.1.2.2.2) yD_488.2.2.1 6000 yQ_488_12 = true := by decide +kernel
theorem yq_488_13 : ycut1 yKD yD_488.2.1.2.2.1 (yct yB yD487) xMT xFT xSTX xm238 (ypst1 yD_488.2.1.2.2.2) yD_488.2.2.1 6000 yQ_488_13 = true := by decide +kernel
theorem yq_488_14 : ycut1 yKD yD_488.2.1.2.2.1 (yct yB yD487) xMT xFT xSTX xm238 (ypst1 yD_488.2.1.2.2.2) yD_488.2.2.1 6000 yQ_488_14 = true := by decide +kernel
theorem yq_488_15 : ycut1 yKD yD_488.2.1.2.2.1 (yct yB yD487) xMT xFT xSTX xm238 (ypst1 yD_488.2.1.2.2.2) yD_488.2.2.1 6000 yQ_488_15 = true := by decide +kernel
theorem yq_488_16 : ycut1 yKD yD_488.2.1.2.2.1 (yct yB yD487) xMT xFT xSTX xm238 (ypst1 yD_488.2.1.2.2.2) yD_488.2.2.1 6000 yQ_488_16 = true := by decide +kernel
theorem yq_488_17 : ycut1 yKD yD_488.2.1.2.2.1 (yct yB yD487) xMT xFT xSTX xm238 (ypst1 yD_488.2.1.2.2.2) yD_488.2.2.1 6000 yQ_488_17 = true := by decide +kernel
theorem yq_488_18 : ycut1 yKD yD_488.2.1.2.2.1 (yct yB yD487) xMT xFT xSTX xm238 (ypst1 yD_488.2.1.2.2.2) yD_488.2.2.1 6000 yQ_488_18 = true := by decide +kernel
theorem yq_488_19 : ycut1 yKD yD_488.2.1.2.2.1 (yct yB yD487) xMT xFT xSTX xm238 (ypst1 yD_488.2.1.2.2.2) yD_488.2.2.1 6000 yQ_488_19 = true := by decide +kernel
theorem yq_488_20 : ycut1 yKD yD_488.2.1.2.2.1 (yct yB yD487) xMT xFT xSTX xm238 (ypst1 yD_488.2.1.2.2.2) yD_488.2.2.1 6000 yQ_488_20 = true := by decide +kernel
theorem yq_488_21 : ycut1 yKD yD_488.2.1.2.2.1 (yct yB yD487) xMT xFT xSTX xm238 (ypst1 yD_488.2.1.2.2.2) yD_488.2.2.1 6000 yQ_488_21 = true := by decide +kernel
theorem yq_488_22 : ycut1 yKD yD_488.2.1.2.2.1 (yct yB yD487) xMT xFT xSTX xm238 (ypst1 yD_488.2.1.2.2.2) yD_488.2.2.1 6000 yQ_488_22 = true := by decide +kernel
theorem yq_488_23 : ycut1 yKD yD_488.2.1.2.2.1 (yct yB yD487) xMT xFT xSTX xm238 (ypst1 yD_488.2.1.2.2.2) yD_488.2.2.1 6000 yQ_488_23 = true := by decide +kernel
theorem yq_488_24 : ycut1 yKD yD_488.2.1.2.2.1 (yct yB yD487) xMT xFT xSTX xm238 (ypst1 yD_488.2.1.2.2.2) yD_488.2.2.1 6000 yQ_488_24 = true := by decide +kernel
theorem yq_488_25 : ycut1 yKD yD_488.2.1.2.2.1 (yct yB yD487) xMT xFT xSTX xm238 (ypst1 yD_488.2.1.2.2.2) yD_488.2.2.1 6000 yQ_488_25 = true := by decide +kernel
theorem yq_488_26 : ycut1 yKD yD_488.2.1.2.2.1 (yct yB yD487) xMT xFT xSTX xm238 (ypst1 yD_488.2.1.2.2.2) yD_488.2.2.1 6000 yQ_488_26 = true := by decide +kernel
theorem yq_488_27 : ycut1 yKD yD_488.2.1.2.2.1 (yct yB yD487) xMT xFT xSTX xm238 (ypst1 yD_488.2.1.2.2.2) yD_488.2.2.1 6000 yQ_488_27 = true := by decide +kernel
theorem yq_488_28 : ycut1 yKD yD_488.2.1.2.2.1 (yct yB yD487) xMT xFT xSTX xm238 (ypst1 yD_488.2.1.2.2.2) yD_488.2.2.1 6000 yQ_488_28 = true := by decide +kernel
theorem yq_488_29 : ycut1 yKD yD_488.2.1.2.2.1 (yct yB yD487) xMT xFT xSTX xm238 (ypst1 yD_488.2.1.2.2.2) yD_488.2.2.1 6000 yQ_488_29 = true := by decide +kernel
theorem yq_488_30 : ycut1 yKD yD_488.2.1.2.2.1 (yct yB yD487) xMT xFT xSTX xm238 (ypst1 yD_488.2.1.2.2.2) yD_488.2.2.1 6000 yQ_488_30 = true := by decide +kernel
theorem yq_488_31 : ycut1 yKD yD_488.2.1.2.2.1 (yct yB yD487) xMT xFT xSTX xm238 (ypst1 yD_488.2.1.2.2.2) yD_488.2.2.1 6000 yQ_488_31 = true := by decide +kernel
theorem yq_488_32 : ycut1 yKD yD_488.2.1.2.2.1 (yct yB yD487) xMT xFT xSTX xm238 (ypst1 yD_488.2.1.2.2.2) yD_488.2.2.1 6000 yQ_488_32 = true := by decide +kernel
theorem yq_488_33 : ycut1 yKD yD_488.2.1.2.2.1 (yct yB yD487) xMT xFT xSTX xm238 (ypst1 yD_488.2.1.2.2.2) yD_488.2.2.1 6000 yQ_488_33 = true := by decide +kernel
theorem yk_488 : ychk yKD (yct yB yD487) xMT xFT xSTX xm238 yD_488.2.1 yD_488.2.2.1 6000 = true := ychk_of (ge := []) rfl (by decide) (by decide +kernel) (show ∀ c ∈ yD_488.2.2.1, _ from List.forall_mem_cons.mpr ⟨yq_488_0, List.forall_mem_cons.mpr ⟨yq_488_1, List.forall_mem_cons.mpr ⟨yq_488_2, List.forall_mem_cons.mpr ⟨yq_488_3, List.forall_mem_cons.mpr ⟨yq_488_4, List.forall_mem_cons.mpr ⟨yq_488_5, List.forall_mem_cons.mpr ⟨yq_488_6, List.forall_mem_cons.mpr ⟨yq_488_7, List.forall_mem_cons.mpr ⟨yq_488_8, List.forall_mem_cons.mpr ⟨yq_488_9, List.forall_mem_cons.mpr ⟨yq_488_10, List.forall_mem_cons.mpr ⟨yq_488_11, List.forall_mem_cons.mpr ⟨yq_488_12, List.forall_mem_cons.mpr ⟨yq_488_13, List.forall_mem_cons.mpr ⟨yq_488_14, List.forall_mem_cons.mpr ⟨yq_488_15, List.forall_mem_cons.mpr ⟨yq_488_16, List.forall_mem_cons.mpr ⟨yq_488_17, List.forall_mem_cons.mpr ⟨yq_488_18, List.forall_mem_cons.mpr ⟨yq_488_19, List.forall_mem_cons.mpr ⟨yq_488_20, List.forall_mem_cons.mpr ⟨yq_488_21, List.forall_mem_cons.mpr ⟨yq_488_22, List.forall_mem_cons.mpr ⟨yq_488_23, List.forall_mem_cons.mpr ⟨yq_488_24, List.forall_mem_cons.mpr ⟨yq_488_25, List.forall_mem_cons.mpr ⟨yq_488_26, List.forall_mem_cons.mpr ⟨yq_488_27, List.forall_mem_cons.mpr ⟨yq_488_28, List.forall_mem_cons.mpr ⟨yq_488_29, List.forall_mem_cons.mpr ⟨yq_488_30, List.forall_mem_cons.mpr ⟨yq_488_31, List.forall_mem_cons.mpr ⟨yq_488_32, List.forall_mem_cons.mpr ⟨yq_488_33, fun _ h => absurd h List.not_mem_nil⟩⟩⟩⟩⟩⟩⟩⟩⟩⟩⟩⟩⟩⟩⟩⟩⟩⟩⟩⟩⟩⟩⟩⟩⟩⟩⟩⟩⟩⟩⟩⟩⟩⟩)
theorem yc_488 : ychks yKD yB xMT xFT xSTX yD488 = true := ychks_cons (d := yD_488) (L := yD487) (M := xm238) rfl yk_488 yc_487
-- IceBoatsModel.isCourse
def yD489 : List YD := yD_489 :: yD488
theorem yk_489 : ychk yKD (yct yB yD488) xMT xFT xSTX xm242 yD_489.2.1 yD_489.2.2.1 6000 = true := by decide +kernel
theorem yc_489 : ychks yKD yB xMT xFT xSTX yD489 = true := ychks_cons (d := yD_489) (L := yD488) (M := xm242) rfl yk_489 yc_488
-- IceBoatsModel.courses
def yD490 : List YD := yD_490 :: yD489
theorem yk_490 : ychk yKD (yct yB yD489) xMT xFT xSTX xm241 yD_490.2.1 yD_490.2.2.1 6000 = true := by decide +kernel
theorem yc_490 : ychks yKD yB xMT xFT xSTX yD490 = true := ychks_cons (d := yD_490) (L := yD489) (M := xm241) rfl yk_490 yc_489
-- IceBoatsModel.asked
def yD491 : List YD := yD_491 :: yD490
theorem yk_491 : ychk yKD (yct yB yD490) xMT xFT xSTX xm243 yD_491.2.1 yD_491.2.2.1 6000 = true := by decide +kernel
theorem yc_491 : ychks yKD yB xMT xFT xSTX yD491 = true := ychks_cons (d := yD_491) (L := yD490) (M := xm243) rfl yk_491 yc_490
-- IceBoatsModel.set
def yD492 : List YD := yD_492 :: yD491
theorem yk_492 : ychk yKD (yct yB yD491) xMT xFT xSTX xm244 yD_492.2.1 yD_492.2.2.1 6000 = true := by decide +kernel
theorem yc_492 : ychks yKD yB xMT xFT xSTX yD492 = true := ychks_cons (d := yD_492) (L := yD491) (M := xm244) rfl yk_492 yc_491
-- IceBoatsModel.upper
def yD493 : List YD := yD_493 :: yD492
theorem yk_493 : ychk yKD (yct yB yD492) xMT xFT xSTX xm245 yD_493.2.1 yD_493.2.2.1 6000 = true := by decide +kernel
theorem yc_493 : ychks yKD yB xMT xFT xSTX yD493 = true := ychks_cons (d := yD_493) (L := yD492) (M := xm245) rfl yk_493 yc_492
-- IceBoatsModel.lower
def yD494 : List YD := yD_494 :: yD493
theorem yk_494 : ychk yKD (yct yB yD493) xMT xFT xSTX xm246 yD_494.2.1 yD_494.2.2.1 6000 = true := by decide +kernel
theorem yc_494 : ychks yKD yB xMT xFT xSTX yD494 = true := ychks_cons (d := yD_494) (L := yD493) (M := xm246) rfl yk_494 yc_493
-- IceBoatsModel.counts
def yD495 : List YD := yD_495 :: yD494
theorem yk_495 : ychk yKD (yct yB yD494) xMT xFT xSTX xm248 yD_495.2.1 yD_495.2.2.1 6000 = true := by decide +kernel
theorem yc_495 : ychks yKD yB xMT xFT xSTX yD495 = true := ychks_cons (d := yD_495) (L := yD494) (M := xm248) rfl yk_495 yc_494
-- IceBoatsModel.count
def yD496 : List YD := yD_496 :: yD495
theorem yk_496 : ychk yKD (yct yB yD495) xMT xFT xSTX xm247 yD_496.2.1 yD_496.2.2.1 6000 = true := by decide +kernel
theorem yc_496 : ychks yKD yB xMT xFT xSTX yD496 = true := ychks_cons (d := yD_496) (L := yD495) (M := xm247) rfl yk_496 yc_495
-- IceBoatsModel.finding
def yD497 : List YD := yD_497 :: yD496
theorem yk_497 : ychk yKD (yct yB yD496) xMT xFT xSTX xm249 yD_497.2.1 yD_497.2.2.1 6000 = true := by decide +kernel
theorem yc_497 : ychks yKD yB xMT xFT xSTX yD497 = true := ychks_cons (d := yD_497) (L := yD496) (M := xm249) rfl yk_497 yc_496
-- IceBoatsModel.findings
def yD498 : List YD := yD_498 :: yD497
theorem yk_498 : ychk yKD (yct yB yD497) xMT xFT xSTX xm250 yD_498.2.1 yD_498.2.2.1 6000 = true := by decide +kernel
theorem yc_498 : ychks yKD yB xMT xFT xSTX yD498 = true := ychks_cons (d := yD_498) (L := yD497) (M := xm250) rfl yk_498 yc_497
-- IceBoatsModel.mix
def yD499 : List YD := yD_499 :: yD498
theorem yk_499 : ychk yKD (yct yB yD498) xMT xFT xSTX xm252 yD_499.2.1 yD_499.2.2.1 6000 = true := by decide +kernel
theorem yc_499 : ychks yKD yB xMT xFT xSTX yD499 = true := ychks_cons (d := yD_499) (L := yD498) (M := xm252) rfl yk_499 yc_498
-- IceBoatsModel.mixBoats
def yD500 : List YD := yD_500 :: yD499
theorem yk_500 : ychk yKD (yct yB yD499) xMT xFT xSTX xm253 yD_500.2.1 yD_500.2.2.1 6000 = true := by decide +kernel
theorem yc_500 : ychks yKD yB xMT xFT xSTX yD500 = true := ychks_cons (d := yD_500) (L := yD499) (M := xm253) rfl yk_500 yc_499
-- IceBoatsModel.mixWords
def yD501 : List YD := yD_501 :: yD500
theorem yk_501 : ychk yKD (yct yB yD500) xMT xFT xSTX xm254 yD_501.2.1 yD_501.2.2.1 6000 = true := by decide +kernel
theorem yc_501 : ychks yKD yB xMT xFT xSTX yD501 = true := ychks_cons (d := yD_501) (L := yD500) (M := xm254) rfl yk_501 yc_500
-- IceBoatsModel.digest
def yD502 : List YD := yD_502 :: yD501
theorem yk_502 : ychk yKD (yct yB yD501) xMT xFT xSTX xm251 yD_502.2.1 yD_502.2.2.1 6000 = true := by decide +kernel
theorem yc_502 : ychks yKD yB xMT xFT xSTX yD502 = true := ychks_cons (d := yD_502) (L := yD501) (M := xm251) rfl yk_502 yc_501
-- IceBoats.fitsWord
def yD503 : List YD := yD_503 :: yD502
theorem yk_503 : ychk yKD (yct yB yD502) xMT xFT xSTX xm83 yD_503.2.1 yD_503.2.2.1 6000 = true := by decide +kernel
theorem yc_503 : ychks yKD yB xMT xFT xSTX yD503 = true := ychks_cons (d := yD_503) (L := yD502) (M := xm83) rfl yk_503 yc_502
-- IceBoats.holdsLook
def yD504 : List YD := yD_504 :: yD503
theorem yk_504 : ychk yKD (yct yB yD503) xMT xFT xSTX xm84 yD_504.2.1 yD_504.2.2.1 6000 = true := by decide +kernel
theorem yc_504 : ychks yKD yB xMT xFT xSTX yD504 = true := ychks_cons (d := yD_504) (L := yD503) (M := xm84) rfl yk_504 yc_503
