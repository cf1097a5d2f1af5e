set_option maxRecDepth 20000 in
theorem lwm_386 : Cond.static yJ9_floorMod_7cf53 ∈ lw_tbl := by decide +kernel
set_option maxRecDepth 20000 in
theorem lwm_387 : Cond.methodLink RX3 21 yJ9_floorMod_7cf53 ∈ lw_tbl := by decide +kernel
set_option maxRecDepth 20000 in
theorem lwm_388 : Cond.code yX3_signs cX3_signs 1 (some .int) ∈ lw_tbl := List.mem_of_getElem? (i := 366) rfl
set_option maxRecDepth 20000 in
theorem lwm_389 : Cond.static yX3_signs ∈ lw_tbl := by decide +kernel
set_option maxRecDepth 20000 in
theorem lwm_390 : Cond.methodLink RX3 18 yX3_signs ∈ lw_tbl := by decide +kernel
set_option maxRecDepth 20000 in
theorem lwm_391 : Cond.methodLink RX4 32 yX4_letterAbove ∈ lw_tbl := by decide +kernel
set_option maxRecDepth 20000 in
theorem lwm_392 : Cond.code yX4_signsAbove cX4_signsAbove 4 (some .int) ∈ lw_tbl := List.mem_of_getElem? (i := 393) rfl
set_option maxRecDepth 20000 in
theorem lwm_393 : Cond.static yX4_signsAbove ∈ lw_tbl := by decide +kernel
set_option maxRecDepth 20000 in
theorem lwm_394 : Cond.methodLink RX4 42 yX4_signsAbove ∈ lw_tbl := by decide +kernel
set_option maxRecDepth 20000 in
theorem lwm_395 : Cond.methodLink RX4 57 yX3_signs ∈ lw_tbl := by decide +kernel
set_option maxRecDepth 20000 in
theorem lwm_396 : Cond.methodLink RX4 36 yX3_pitch ∈ lw_tbl := by decide +kernel
set_option maxRecDepth 20000 in
theorem lwm_397 : Cond.methodLink RX4 26 yX3_letter ∈ lw_tbl := by decide +kernel
set_option maxRecDepth 20000 in
theorem lwm_398 : Cond.code Lib.Math.abs.name Lib.Math.abs.code 1 (some .int) ∈ lw_tbl := List.mem_of_getElem? (i := 390) rfl
set_option maxRecDepth 20000 in
theorem lwm_399 : Cond.initialized "java/lang/Math" ∈ lw_tbl := by decide +kernel
set_option maxRecDepth 20000 in
theorem lwm_400 : Cond.static Lib.Math.abs.name ∈ lw_tbl := by decide +kernel
set_option maxRecDepth 20000 in
theorem lwm_401 : Cond.methodLink RX4 60 Lib.Math.abs.name ∈ lw_tbl := by decide +kernel
set_option maxRecDepth 20000 in
theorem lwm_402 : Cond.code yX4_weight cX4_weight 7 (some .int) ∈ lw_tbl := List.mem_of_getElem? (i := 384) rfl
set_option maxRecDepth 20000 in
theorem lwm_403 : Cond.static yX4_weight ∈ lw_tbl := by decide +kernel
set_option maxRecDepth 20000 in
theorem lwm_404 : Cond.methodLink RX8 90 yX4_weight ∈ lw_tbl := by decide +kernel
set_option maxRecDepth 20000 in
theorem lwm_405 : Cond.code yX0_withSteps cX0_withSteps 2 (some .int) ∈ lw_tbl := List.mem_of_getElem? (i := 410) rfl
set_option maxRecDepth 20000 in
theorem lwm_406 : Cond.static yX0_withSteps ∈ lw_tbl := by decide +kernel
set_option maxRecDepth 20000 in
theorem lwm_407 : Cond.methodLink RX1 25 yX0_withSteps ∈ lw_tbl := by decide +kernel
set_option maxRecDepth 20000 in
theorem lwm_408 : Cond.code yX1_body cX1_body 1 (some .int) ∈ lw_tbl := List.mem_of_getElem? (i := 407) rfl
set_option maxRecDepth 20000 in
theorem lwm_409 : Cond.selects RX1 yX1_body yX1_body ∈ lw_tbl := by decide +kernel
set_option maxRecDepth 20000 in
theorem lwm_410 : Cond.instanceMethod yX1_body ∈ lw_tbl := by decide +kernel
set_option maxRecDepth 20000 in
theorem lwm_411 : Cond.methodLink RX8 96 yX1_body ∈ lw_tbl := by decide +kernel
set_option maxRecDepth 20000 in
theorem lwm_412 : Cond.methodLink RX4 52 yJ9_floorMod_7cf53 ∈ lw_tbl := by decide +kernel
set_option maxRecDepth 20000 in
theorem lwm_413 : Cond.methodLink RX4 49 yX3_letterPitch ∈ lw_tbl := by decide +kernel
set_option maxRecDepth 20000 in
theorem lwm_414 : Cond.fieldLink RX4 23 "LeadSheets$Steps" "DEGREES" "[I" ∈ lw_tbl := by decide +kernel
set_option maxRecDepth 20000 in
theorem lwm_415 : Cond.code yX4_degree cX4_degree 1 (some .int) ∈ lw_tbl := List.mem_of_getElem? (i := 399) rfl
set_option maxRecDepth 20000 in
theorem lwm_416 : Cond.static yX4_degree ∈ lw_tbl := by decide +kernel
set_option maxRecDepth 20000 in
theorem lwm_417 : Cond.methodLink RX4 46 yX4_degree ∈ lw_tbl := by decide +kernel
set_option maxRecDepth 20000 in
theorem lwm_418 : Cond.code yX4_letterAbove cX4_letterAbove 2 (some .int) ∈ lw_tbl := List.mem_of_getElem? (i := 396) rfl
set_option maxRecDepth 20000 in
theorem lwm_419 : Cond.static yX4_letterAbove ∈ lw_tbl := by decide +kernel
set_option maxRecDepth 20000 in
theorem lwm_420 : Cond.methodLink RL 29 yX9_of ∈ lw_tbl := by decide +kernel
set_option maxRecDepth 20000 in
theorem lwm_421 : Cond.instanceMethod yX9_of ∈ lw_tbl := by decide +kernel
set_option maxRecDepth 20000 in
theorem lwm_422 : Cond.selects RX9 yX9_of yX9_of ∈ lw_tbl := by decide +kernel
set_option maxRecDepth 20000 in
theorem lwm_423 : Cond.code yX9_of cX9_of 4 (some .int) ∈ lw_tbl := List.mem_of_getElem? (i := 861) rfl
set_option maxRecDepth 20000 in
theorem lwm_424 : Cond.selects RX9 yX9_bassOf yX9_bassOf ∈ lw_tbl := by decide +kernel
set_option maxRecDepth 20000 in
theorem lwm_425 : Cond.instanceMethod yX9_bassOf ∈ lw_tbl := by decide +kernel
set_option maxRecDepth 20000 in
theorem lwm_426 : Cond.methodLink RX9 278 yX9_bassOf ∈ lw_tbl := by decide +kernel
set_option maxRecDepth 20000 in
theorem lwm_427 : Cond.code yX9_mod12 cX9_mod12 1 (some .int) ∈ lw_tbl := List.mem_of_getElem? (i := 875) rfl
set_option maxRecDepth 20000 in
theorem lwm_428 : Cond.static yX9_mod12 ∈ lw_tbl := by decide +kernel
set_option maxRecDepth 20000 in
theorem lwm_429 : Cond.methodLink RX9 275 yX9_mod12 ∈ lw_tbl := by decide +kernel
set_option maxRecDepth 20000 in
theorem lwm_430 : Cond.code yX9_pitchOf cX9_pitchOf 1 (some .int) ∈ lw_tbl := List.mem_of_getElem? (i := 872) rfl
set_option maxRecDepth 20000 in
theorem lwm_431 : Cond.static yX9_pitchOf ∈ lw_tbl := by decide +kernel
set_option maxRecDepth 20000 in
theorem lwm_432 : Cond.methodLink RX9 272 yX9_pitchOf ∈ lw_tbl := by decide +kernel
set_option maxRecDepth 20000 in
theorem lwm_433 : Cond.code yX9_rootOf cX9_rootOf 2 (some .int) ∈ lw_tbl := List.mem_of_getElem? (i := 869) rfl
set_option maxRecDepth 20000 in
theorem lwm_434 : Cond.selects RX9 yX9_rootOf yX9_rootOf ∈ lw_tbl := by decide +kernel
set_option maxRecDepth 20000 in
theorem lwm_435 : Cond.instanceMethod yX9_rootOf ∈ lw_tbl := by decide +kernel
set_option maxRecDepth 20000 in
theorem lwm_436 : Cond.methodLink RX9 281 yX9_rootOf ∈ lw_tbl := by decide +kernel
set_option maxRecDepth 20000 in
theorem lwm_437 : Cond.code yX9_isChord cX9_isChord 2 (some .boolean) ∈ lw_tbl := List.mem_of_getElem? (i := 865) rfl
set_option maxRecDepth 20000 in
theorem lwm_438 : Cond.selects RX9 yX9_isChord yX9_isChord ∈ lw_tbl := by decide +kernel
set_option maxRecDepth 20000 in
theorem lwm_439 : Cond.instanceMethod yX9_isChord ∈ lw_tbl := by decide +kernel
set_option maxRecDepth 20000 in
theorem lwm_440 : Cond.methodLink RX9 291 yX9_isChord ∈ lw_tbl := by decide +kernel
set_option maxRecDepth 20000 in
theorem lwm_441 : Cond.code yX9_bodyOf cX9_bodyOf 5 (some .int) ∈ lw_tbl := List.mem_of_getElem? (i := 897) rfl
set_option maxRecDepth 20000 in
theorem lwm_442 : Cond.selects RX9 yX9_bodyOf yX9_bodyOf ∈ lw_tbl := by decide +kernel
set_option maxRecDepth 20000 in
theorem lwm_443 : Cond.instanceMethod yX9_bodyOf ∈ lw_tbl := by decide +kernel
set_option maxRecDepth 20000 in
theorem lwm_444 : Cond.methodLink RX9 301 yX9_bodyOf ∈ lw_tbl := by decide +kernel
set_option maxRecDepth 20000 in
theorem lwm_445 : Cond.code yX9_size cX9_size 1 (some .int) ∈ lw_tbl := List.mem_of_getElem? (i := 893) rfl
set_option maxRecDepth 20000 in
theorem lwm_446 : Cond.static yX9_size ∈ lw_tbl := by decide +kernel
set_option maxRecDepth 20000 in
theorem lwm_447 : Cond.methodLink RX9 288 yX9_size ∈ lw_tbl := by decide +kernel
set_option maxRecDepth 20000 in
theorem lwm_448 : Cond.code yX9_signsOf cX9_signsOf 5 (some .int) ∈ lw_tbl := List.mem_of_getElem? (i := 890) rfl
set_option maxRecDepth 20000 in
theorem lwm_449 : Cond.static yX9_signsOf ∈ lw_tbl := by decide +kernel
set_option maxRecDepth 20000 in
theorem lwm_450 : Cond.methodLink RX9 284 yX9_signsOf ∈ lw_tbl := by decide +kernel
set_option maxRecDepth 20000 in
theorem lwm_451 : Cond.code yX9_stepsWeight cX9_stepsWeight 6 (some .int) ∈ lw_tbl := List.mem_of_getElem? (i := 887) rfl
set_option maxRecDepth 20000 in
theorem lwm_452 : Cond.selects RX9 yX9_stepsWeight yX9_stepsWeight ∈ lw_tbl := by decide +kernel
set_option maxRecDepth 20000 in
theorem lwm_453 : Cond.instanceMethod yX9_stepsWeight ∈ lw_tbl := by decide +kernel
set_option maxRecDepth 20000 in
theorem lwm_454 : Cond.methodLink RX9 297 yX9_stepsWeight ∈ lw_tbl := by decide +kernel
set_option maxRecDepth 20000 in
theorem lwm_455 : Cond.code yX9_setOf cX9_setOf 4 (some .int) ∈ lw_tbl := List.mem_of_getElem? (i := 883) rfl
set_option maxRecDepth 20000 in
theorem lwm_456 : Cond.selects RX9 yX9_setOf yX9_setOf ∈ lw_tbl := by decide +kernel
set_option maxRecDepth 20000 in
theorem lwm_457 : Cond.instanceMethod yX9_setOf ∈ lw_tbl := by decide +kernel
set_option maxRecDepth 20000 in
theorem lwm_458 : Cond.methodLink RX9 294 yX9_setOf ∈ lw_tbl := by decide +kernel
set_option maxRecDepth 20000 in
theorem lwm_459 : Cond.code yX9_bassOf cX9_bassOf 2 (some .int) ∈ lw_tbl := List.mem_of_getElem? (i := 879) rfl
set_option maxRecDepth 20000 in
theorem lwm_460 : Cond.methodLink RL 30 yX8_step ∈ lw_tbl := by decide +kernel
set_option maxRecDepth 20000 in
theorem lwm_461 : Cond.instanceMethod yX8_step ∈ lw_tbl := by decide +kernel
set_option maxRecDepth 20000 in
theorem lwm_462 : Cond.selects RX8 yX8_step yX8_step ∈ lw_tbl := by decide +kernel
set_option maxRecDepth 20000 in
theorem lwm_463 : Cond.code yX8_step cX8_step 6 (some .int) ∈ lw_tbl := List.mem_of_getElem? (i := 414) rfl
set_option maxRecDepth 20000 in
theorem lwm_464 : Cond.methodLink RX8 195 yX3_signs ∈ lw_tbl := by decide +kernel
set_option maxRecDepth 20000 in
theorem lwm_465 : Cond.methodLink RX8 192 yX3_letter ∈ lw_tbl := by decide +kernel
set_option maxRecDepth 20000 in
theorem lwm_466 : Cond.code yX8_bassPart cX8_bassPart 2 (some .int) ∈ lw_tbl := List.mem_of_getElem? (i := 417) rfl
set_option maxRecDepth 20000 in
theorem lwm_467 : Cond.static yX8_bassPart ∈ lw_tbl := by decide +kernel
set_option maxRecDepth 20000 in
theorem lwm_468 : Cond.methodLink RX8 105 yX8_bassPart ∈ lw_tbl := by decide +kernel
set_option maxRecDepth 20000 in
theorem lwm_469 : Cond.methodLink RX8 198 yX4_halfTones ∈ lw_tbl := by decide +kernel
set_option maxRecDepth 20000 in
theorem lwm_470 : Cond.code yX8_stepPart cX8_stepPart 3 (some .int) ∈ lw_tbl := List.mem_of_getElem? (i := 425) rfl
set_option maxRecDepth 20000 in
theorem lwm_471 : Cond.static yX8_stepPart ∈ lw_tbl := by decide +kernel
set_option maxRecDepth 20000 in
theorem lwm_472 : Cond.methodLink RX8 112 yX8_stepPart ∈ lw_tbl := by decide +kernel
set_option maxRecDepth 20000 in
theorem lwm_473 : Cond.code yX4_nth cX4_nth 4 (some .int) ∈ lw_tbl := List.mem_of_getElem? (i := 422) rfl
set_option maxRecDepth 20000 in
theorem lwm_474 : Cond.static yX4_nth ∈ lw_tbl := by decide +kernel
set_option maxRecDepth 20000 in
theorem lwm_475 : Cond.methodLink RX8 109 yX4_nth ∈ lw_tbl := by decide +kernel
set_option maxRecDepth 20000 in
theorem lwm_476 : Cond.methodLink RX8 208 yX4_pitch ∈ lw_tbl := by decide +kernel
set_option maxRecDepth 20000 in
theorem lwm_477 : Cond.code yX4_signs cX4_signs 2 (some .int) ∈ lw_tbl := List.mem_of_getElem? (i := 433) rfl
set_option maxRecDepth 20000 in
theorem lwm_478 : Cond.static yX4_signs ∈ lw_tbl := by decide +kernel
set_option maxRecDepth 20000 in
theorem lwm_479 : Cond.methodLink RX8 206 yX4_signs ∈ lw_tbl := by decide +kernel
set_option maxRecDepth 20000 in
theorem lwm_480 : Cond.code yX4_letter cX4_letter 2 (some .int) ∈ lw_tbl := List.mem_of_getElem? (i := 430) rfl
set_option maxRecDepth 20000 in
theorem lwm_481 : Cond.static yX4_letter ∈ lw_tbl := by decide +kernel
set_option maxRecDepth 20000 in
theorem lwm_482 : Cond.methodLink RX8 204 yX4_letter ∈ lw_tbl := by decide +kernel
set_option maxRecDepth 20000 in
theorem lwm_483 : Cond.methodLink RX8 201 yX4_degree ∈ lw_tbl := by decide +kernel
set_option maxRecDepth 20000 in
theorem lwm_484 : Cond.code yX4_pitch cX4_pitch 2 (some .int) ∈ lw_tbl := List.mem_of_getElem? (i := 436) rfl
set_option maxRecDepth 20000 in
theorem lwm_485 : Cond.static yX4_pitch ∈ lw_tbl := by decide +kernel
set_option maxRecDepth 20000 in
theorem lwm_486 : Cond.methodLink RL 34 yX9_step ∈ lw_tbl := by decide +kernel
set_option maxRecDepth 20000 in
theorem lwm_487 : Cond.instanceMethod yX9_step ∈ lw_tbl := by decide +kernel
set_option maxRecDepth 20000 in
theorem lwm_488 : Cond.selects RX9 yX9_step yX9_step ∈ lw_tbl := by decide +kernel
set_option maxRecDepth 20000 in
theorem lwm_489 : Cond.code yX9_step cX9_step 7 (some .int) ∈ lw_tbl := List.mem_of_getElem? (i := 901) rfl
set_option maxRecDepth 20000 in
theorem lwm_490 : Cond.methodLink RL 35 yX8_write ∈ lw_tbl := by decide +kernel
set_option maxRecDepth 20000 in
theorem lwm_491 : Cond.instanceMethod yX8_write ∈ lw_tbl := by decide +kernel
set_option maxRecDepth 20000 in
theorem lwm_492 : Cond.selects RX8 yX8_write yX8_write ∈ lw_tbl := by decide +kernel
set_option maxRecDepth 20000 in
theorem lwm_493 : Cond.code yX8_write cX8_write 3 (some .int) ∈ lw_tbl := List.mem_of_getElem? (i := 440) rfl
set_option maxRecDepth 20000 in
theorem lwm_494 : Cond.instanceMethod yX8_show ∈ lw_tbl := by decide +kernel
set_option maxRecDepth 20000 in
theorem lwm_495 : Cond.methodLink RX8 115 yX8_show ∈ lw_tbl := by decide +kernel
set_option maxRecDepth 20000 in
theorem lwm_496 : Cond.methodLink RX6 36 yJ0_length_8abf5 ∈ lw_tbl := by decide +kernel
set_option maxRecDepth 20000 in
theorem lwm_497 : Cond.code yX6_addWord cX6_addWord 7 none ∈ lw_tbl := List.mem_of_getElem? (i := 458) rfl
set_option maxRecDepth 20000 in
theorem lwm_498 : Cond.selects RX6 yX6_addWord yX6_addWord ∈ lw_tbl := by decide +kernel
set_option maxRecDepth 20000 in
theorem lwm_499 : Cond.instanceMethod yX6_addWord ∈ lw_tbl := by decide +kernel
set_option maxRecDepth 20000 in
theorem lwm_500 : Cond.methodLink RX6 27 yX6_addWord ∈ lw_tbl := by decide +kernel
set_option maxRecDepth 20000 in
theorem lwm_501 : Cond.methodLink RX6 21 yX3_letter ∈ lw_tbl := by decide +kernel
set_option maxRecDepth 20000 in
theorem lwm_502 : Cond.code yX6_addNote cX6_addNote 2 none ∈ lw_tbl := List.mem_of_getElem? (i := 452) rfl
set_option maxRecDepth 20000 in
theorem lwm_503 : Cond.selects RX6 yX6_addNote yX6_addNote ∈ lw_tbl := by decide +kernel
set_option maxRecDepth 20000 in
theorem lwm_504 : Cond.instanceMethod yX6_addNote ∈ lw_tbl := by decide +kernel
set_option maxRecDepth 20000 in
theorem lwm_505 : Cond.methodLink RX8 210 yX6_addNote ∈ lw_tbl := by decide +kernel
set_option maxRecDepth 20000 in
theorem lwm_506 : Cond.fieldLink RX6 15 "LeadSheets$Text" "size" "I" ∈ lw_tbl := by decide +kernel
set_option maxRecDepth 20000 in
theorem lwm_507 : Cond.code yX6_clear cX6_clear 1 none ∈ lw_tbl := List.mem_of_getElem? (i := 448) rfl
set_option maxRecDepth 20000 in
theorem lwm_508 : Cond.selects RX6 yX6_clear yX6_clear ∈ lw_tbl := by decide +kernel
set_option maxRecDepth 20000 in
theorem lwm_509 : Cond.instanceMethod yX6_clear ∈ lw_tbl := by decide +kernel
set_option maxRecDepth 20000 in
theorem lwm_510 : Cond.methodLink RX8 172 yX6_clear ∈ lw_tbl := by decide +kernel
set_option maxRecDepth 20000 in
theorem lwm_511 : Cond.code yX8_show cX8_show 4 (some .int) ∈ lw_tbl := List.mem_of_getElem? (i := 444) rfl
set_option maxRecDepth 20000 in
theorem lwm_512 : Cond.selects RX8 yX8_show yX8_show ∈ lw_tbl := by decide +kernel
set_option maxRecDepth 20000 in
theorem lwm_513 : Cond.methodLink RX6 42 yJ0_charAt_5068e ∈ lw_tbl := by decide +kernel
set_option maxRecDepth 20000 in
theorem lwm_514 : Cond.instanceMethod yX6_add ∈ lw_tbl := by decide +kernel
set_option maxRecDepth 20000 in
theorem lwm_515 : Cond.methodLink RX6 46 yX6_add ∈ lw_tbl := by decide +kernel
set_option maxRecDepth 20000 in
theorem lwm_516 : Cond.methodLink RX8 180 yX6_add ∈ lw_tbl := by decide +kernel
set_option maxRecDepth 20000 in
theorem lwm_517 : Cond.methodLink RX8 216 yX6_addWord ∈ lw_tbl := by decide +kernel
set_option maxRecDepth 20000 in
theorem lwm_518 : Cond.methodLink RX6 33 yX3_signs ∈ lw_tbl := by decide +kernel
set_option maxRecDepth 20000 in
theorem lwm_519 : Cond.code yX6_add cX6_add 2 none ∈ lw_tbl := List.mem_of_getElem? (i := 464) rfl
set_option maxRecDepth 20000 in
theorem lwm_520 : Cond.selects RX6 yX6_add yX6_add ∈ lw_tbl := by decide +kernel
set_option maxRecDepth 20000 in
theorem lwm_521 : Cond.methodLink RL 39 yX9_write ∈ lw_tbl := by decide +kernel
set_option maxRecDepth 20000 in
theorem lwm_522 : Cond.instanceMethod yX9_write ∈ lw_tbl := by decide +kernel
set_option maxRecDepth 20000 in
theorem lwm_523 : Cond.selects RX9 yX9_write yX9_write ∈ lw_tbl := by decide +kernel
set_option maxRecDepth 20000 in
theorem lwm_524 : Cond.code yX9_write cX9_write 2 (some .int) ∈ lw_tbl := List.mem_of_getElem? (i := 905) rfl
set_option maxRecDepth 20000 in
theorem lwm_525 : Cond.constantLong RX9 316 (63) ∈ lw_tbl := by decide +kernel
set_option maxRecDepth 20000 in
theorem lwm_526 : Cond.code yX9_writes cX9_writes 4 none ∈ lw_tbl := List.mem_of_getElem? (i := 909) rfl
set_option maxRecDepth 20000 in
theorem lwm_527 : Cond.selects RX9 yX9_writes yX9_writes ∈ lw_tbl := by decide +kernel
set_option maxRecDepth 20000 in
theorem lwm_528 : Cond.instanceMethod yX9_writes ∈ lw_tbl := by decide +kernel
set_option maxRecDepth 20000 in
theorem lwm_529 : Cond.methodLink RX9 310 yX9_writes ∈ lw_tbl := by decide +kernel
set_option maxRecDepth 20000 in
theorem lwm_530 : Cond.fieldLink RX9 304 "LeadSheetsModel" "shownMany" "I" ∈ lw_tbl := by decide +kernel
set_option maxRecDepth 20000 in
theorem lwm_531 : Cond.code yX9_showsWord cX9_showsWord 5 none ∈ lw_tbl := List.mem_of_getElem? (i := 922) rfl
set_option maxRecDepth 20000 in
theorem lwm_532 : Cond.selects RX9 yX9_showsWord yX9_showsWord ∈ lw_tbl := by decide +kernel
set_option maxRecDepth 20000 in
theorem lwm_533 : Cond.instanceMethod yX9_showsWord ∈ lw_tbl := by decide +kernel
set_option maxRecDepth 20000 in
theorem lwm_534 : Cond.methodLink RX9 318 yX9_showsWord ∈ lw_tbl := by decide +kernel
set_option maxRecDepth 20000 in
theorem lwm_535 : Cond.code yX9_shows cX9_shows 2 none ∈ lw_tbl := List.mem_of_getElem? (i := 917) rfl
set_option maxRecDepth 20000 in
theorem lwm_536 : Cond.selects RX9 yX9_shows yX9_shows ∈ lw_tbl := by decide +kernel
set_option maxRecDepth 20000 in
theorem lwm_537 : Cond.instanceMethod yX9_shows ∈ lw_tbl := by decide +kernel
set_option maxRecDepth 20000 in
theorem lwm_538 : Cond.methodLink RX9 307 yX9_shows ∈ lw_tbl := by decide +kernel
set_option maxRecDepth 20000 in
theorem lwm_539 : Cond.code yX9_showsNote cX9_showsNote 4 none ∈ lw_tbl := List.mem_of_getElem? (i := 913) rfl
set_option maxRecDepth 20000 in
theorem lwm_540 : Cond.selects RX9 yX9_showsNote yX9_showsNote ∈ lw_tbl := by decide +kernel
set_option maxRecDepth 20000 in
theorem lwm_541 : Cond.instanceMethod yX9_showsNote ∈ lw_tbl := by decide +kernel
set_option maxRecDepth 20000 in
theorem lwm_542 : Cond.methodLink RX9 313 yX9_showsNote ∈ lw_tbl := by decide +kernel
set_option maxRecDepth 20000 in
theorem lwm_543 : Cond.methodLink RL 40 yX8_shown ∈ lw_tbl := by decide +kernel
set_option maxRecDepth 20000 in
theorem lwm_544 : Cond.instanceMethod yX8_shown ∈ lw_tbl := by decide +kernel
set_option maxRecDepth 20000 in
theorem lwm_545 : Cond.selects RX8 yX8_shown yX8_shown ∈ lw_tbl := by decide +kernel
set_option maxRecDepth 20000 in
theorem lwm_546 : Cond.code yX8_shown cX8_shown 2 (some .int) ∈ lw_tbl := List.mem_of_getElem? (i := 473) rfl
set_option maxRecDepth 20000 in
theorem lwm_547 : Cond.code yX6_byteAt cX6_byteAt 2 (some .int) ∈ lw_tbl := List.mem_of_getElem? (i := 477) rfl
set_option maxRecDepth 20000 in
theorem lwm_548 : Cond.selects RX6 yX6_byteAt yX6_byteAt ∈ lw_tbl := by decide +kernel
set_option maxRecDepth 20000 in
theorem lwm_549 : Cond.instanceMethod yX6_byteAt ∈ lw_tbl := by decide +kernel
set_option maxRecDepth 20000 in
theorem lwm_550 : Cond.methodLink RX8 118 yX6_byteAt ∈ lw_tbl := by decide +kernel
set_option maxRecDepth 20000 in
theorem lwm_551 : Cond.methodLink RL 43 yX9_shown ∈ lw_tbl := by decide +kernel
set_option maxRecDepth 20000 in
theorem lwm_552 : Cond.instanceMethod yX9_shown ∈ lw_tbl := by decide +kernel
set_option maxRecDepth 20000 in
theorem lwm_553 : Cond.selects RX9 yX9_shown yX9_shown ∈ lw_tbl := by decide +kernel
set_option maxRecDepth 20000 in
theorem lwm_554 : Cond.code yX9_shown cX9_shown 2 (some .int) ∈ lw_tbl := List.mem_of_getElem? (i := 926) rfl
set_option maxRecDepth 20000 in
theorem lwm_555 : Cond.methodLink RL 44 yX8_named ∈ lw_tbl := by decide +kernel
set_option maxRecDepth 20000 in
theorem lwm_556 : Cond.instanceMethod yX8_named ∈ lw_tbl := by decide +kernel
set_option maxRecDepth 20000 in
theorem lwm_557 : Cond.selects RX8 yX8_named yX8_named ∈ lw_tbl := by decide +kernel
set_option maxRecDepth 20000 in
theorem lwm_558 : Cond.code yX8_named cX8_named 3 (some .int) ∈ lw_tbl := List.mem_of_getElem? (i := 481) rfl
set_option maxRecDepth 20000 in
theorem lwm_559 : Cond.code yX2_bodyOf cX2_bodyOf 1 (some .int) ∈ lw_tbl := List.mem_of_getElem? (i := 495) rfl
set_option maxRecDepth 20000 in
theorem lwm_560 : Cond.static yX2_bodyOf ∈ lw_tbl := by decide +kernel
set_option maxRecDepth 20000 in
theorem lwm_561 : Cond.methodLink RX2 30 yX2_bodyOf ∈ lw_tbl := by decide +kernel
set_option maxRecDepth 20000 in
theorem lwm_562 : Cond.code yX2_means cX2_means 7 (some .boolean) ∈ lw_tbl := List.mem_of_getElem? (i := 492) rfl
set_option maxRecDepth 20000 in
theorem lwm_563 : Cond.selects RX2 yX2_means yX2_means ∈ lw_tbl := by decide +kernel
set_option maxRecDepth 20000 in
theorem lwm_564 : Cond.instanceMethod yX2_means ∈ lw_tbl := by decide +kernel
set_option maxRecDepth 20000 in
theorem lwm_565 : Cond.methodLink RX2 45 yX2_means ∈ lw_tbl := by decide +kernel
set_option maxRecDepth 20000 in
theorem lwm_566 : Cond.fieldLink RX2 42 "LeadSheets$Names" "size" "I" ∈ lw_tbl := by decide +kernel
set_option maxRecDepth 20000 in
theorem lwm_567 : Cond.fieldLink RX2 38 "LeadSheets$Names" "foundBass" "I" ∈ lw_tbl := by decide +kernel
set_option maxRecDepth 20000 in
theorem lwm_568 : Cond.code yX2_find cX2_find 4 (some .int) ∈ lw_tbl := List.mem_of_getElem? (i := 488) rfl
set_option maxRecDepth 20000 in
theorem lwm_569 : Cond.selects RX2 yX2_find yX2_find ∈ lw_tbl := by decide +kernel
set_option maxRecDepth 20000 in
theorem lwm_570 : Cond.instanceMethod yX2_find ∈ lw_tbl := by decide +kernel
set_option maxRecDepth 20000 in
theorem lwm_571 : Cond.methodLink RX8 125 yX2_find ∈ lw_tbl := by decide +kernel
set_option maxRecDepth 20000 in
theorem lwm_572 : Cond.code yX8_isPitch cX8_isPitch 1 (some .boolean) ∈ lw_tbl := List.mem_of_getElem? (i := 484) rfl
set_option maxRecDepth 20000 in
theorem lwm_573 : Cond.static yX8_isPitch ∈ lw_tbl := by decide +kernel
set_option maxRecDepth 20000 in
theorem lwm_574 : Cond.methodLink RX8 121 yX8_isPitch ∈ lw_tbl := by decide +kernel
set_option maxRecDepth 20000 in
theorem lwm_575 : Cond.methodLink RL 47 yX9_named ∈ lw_tbl := by decide +kernel
set_option maxRecDepth 20000 in
theorem lwm_576 : Cond.instanceMethod yX9_named ∈ lw_tbl := by decide +kernel
set_option maxRecDepth 20000 in
theorem lwm_577 : Cond.selects RX9 yX9_named yX9_named ∈ lw_tbl := by decide +kernel
set_option maxRecDepth 20000 in
theorem lwm_578 : Cond.code yX9_named cX9_named 4 (some .int) ∈ lw_tbl := List.mem_of_getElem? (i := 930) rfl
