set_option maxRecDepth 20000 in
theorem ww_330 : Cond.methodLink RX10 86 yX10_isMorning ∈ lwG := lwG_of 330 (by decide +kernel) rfl
set_option maxRecDepth 20000 in
theorem ww_331 : Cond.static yX10_isMorning ∈ lwG := lwG_of 331 (by decide +kernel) rfl
set_option maxRecDepth 20000 in
theorem ww_335 : Cond.code yX10_isSayable cX10_isSayable 1 (some .boolean) ∈ lwG := lwG_of 335 (by decide +kernel) rfl
set_option maxRecDepth 20000 in
theorem ww_333 : Cond.methodLink RX10 89 yX10_isSayable ∈ lwG := lwG_of 333 (by decide +kernel) rfl
set_option maxRecDepth 20000 in
theorem ww_334 : Cond.static yX10_isSayable ∈ lwG := lwG_of 334 (by decide +kernel) rfl
set_option maxRecDepth 20000 in
theorem ww_339 : Cond.methodLink RX10 92 yX4_heard ∈ lwG := lwG_of 339 (by decide +kernel) rfl
set_option maxRecDepth 20000 in
theorem ww_346 : Cond.code yX4_hear cX4_hear 4 none ∈ lwG := lwG_of 346 (by decide +kernel) rfl
set_option maxRecDepth 20000 in
theorem ww_343 : Cond.methodLink RX10 98 yX4_hear ∈ lwG := lwG_of 343 (by decide +kernel) rfl
set_option maxRecDepth 20000 in
theorem ww_344 : Cond.instanceMethod yX4_hear ∈ lwG := lwG_of 344 (by decide +kernel) rfl
set_option maxRecDepth 20000 in
theorem ww_345 : Cond.selects RX4 yX4_hear yX4_hear ∈ lwG := lwG_of 345 (by decide +kernel) rfl
set_option maxRecDepth 20000 in
theorem ww_358 : Cond.code yX8_refusal cX8_refusal 5 (some .int) ∈ lwG := lwG_of 358 (by decide +kernel) rfl
set_option maxRecDepth 20000 in
theorem ww_355 : Cond.methodLink RX10 102 yX8_refusal ∈ lwG := lwG_of 355 (by decide +kernel) rfl
set_option maxRecDepth 20000 in
theorem ww_356 : Cond.instanceMethod yX8_refusal ∈ lwG := lwG_of 356 (by decide +kernel) rfl
set_option maxRecDepth 20000 in
theorem ww_357 : Cond.selects RX8 yX8_refusal yX8_refusal ∈ lwG := lwG_of 357 (by decide +kernel) rfl
set_option maxRecDepth 20000 in
theorem ww_365 : Cond.code yX8_read cX8_read 3 (some .int) ∈ lwG := lwG_of 365 (by decide +kernel) rfl
set_option maxRecDepth 20000 in
theorem ww_362 : Cond.methodLink RX10 106 yX8_read ∈ lwG := lwG_of 362 (by decide +kernel) rfl
set_option maxRecDepth 20000 in
theorem ww_363 : Cond.instanceMethod yX8_read ∈ lwG := lwG_of 363 (by decide +kernel) rfl
set_option maxRecDepth 20000 in
theorem ww_364 : Cond.selects RX8 yX8_read yX8_read ∈ lwG := lwG_of 364 (by decide +kernel) rfl
set_option maxRecDepth 20000 in
theorem ww_336 : Cond.methodLink RX10 109 yX10_isIn ∈ lwG := lwG_of 336 (by decide +kernel) rfl
set_option maxRecDepth 20000 in
theorem ww_372 : Cond.code yX6_isTypeable cX6_isTypeable 4 (some .boolean) ∈ lwG := lwG_of 372 (by decide +kernel) rfl
set_option maxRecDepth 20000 in
theorem ww_370 : Cond.methodLink RX10 113 yX6_isTypeable ∈ lwG := lwG_of 370 (by decide +kernel) rfl
set_option maxRecDepth 20000 in
theorem ww_371 : Cond.static yX6_isTypeable ∈ lwG := lwG_of 371 (by decide +kernel) rfl
set_option maxRecDepth 20000 in
theorem ww_381 : Cond.code yX6_addToTape cX6_addToTape 5 (some .int) ∈ lwG := lwG_of 381 (by decide +kernel) rfl
set_option maxRecDepth 20000 in
theorem ww_378 : Cond.methodLink RX10 119 yX6_addToTape ∈ lwG := lwG_of 378 (by decide +kernel) rfl
set_option maxRecDepth 20000 in
theorem ww_379 : Cond.instanceMethod yX6_addToTape ∈ lwG := lwG_of 379 (by decide +kernel) rfl
set_option maxRecDepth 20000 in
theorem ww_380 : Cond.selects RX6 yX6_addToTape yX6_addToTape ∈ lwG := lwG_of 380 (by decide +kernel) rfl
set_option maxRecDepth 20000 in
theorem ww_389 : Cond.code yX6_mayStart cX6_mayStart 2 (some .boolean) ∈ lwG := lwG_of 389 (by decide +kernel) rfl
set_option maxRecDepth 20000 in
theorem ww_386 : Cond.methodLink RX10 123 yX6_mayStart ∈ lwG := lwG_of 386 (by decide +kernel) rfl
set_option maxRecDepth 20000 in
theorem ww_387 : Cond.instanceMethod yX6_mayStart ∈ lwG := lwG_of 387 (by decide +kernel) rfl
set_option maxRecDepth 20000 in
theorem ww_388 : Cond.selects RX6 yX6_mayStart yX6_mayStart ∈ lwG := lwG_of 388 (by decide +kernel) rfl
set_option maxRecDepth 20000 in
theorem ww_393 : Cond.code yX6_addEdition cX6_addEdition 4 (some .int) ∈ lwG := lwG_of 393 (by decide +kernel) rfl
set_option maxRecDepth 20000 in
theorem ww_390 : Cond.methodLink RX10 126 yX6_addEdition ∈ lwG := lwG_of 390 (by decide +kernel) rfl
set_option maxRecDepth 20000 in
theorem ww_391 : Cond.instanceMethod yX6_addEdition ∈ lwG := lwG_of 391 (by decide +kernel) rfl
set_option maxRecDepth 20000 in
theorem ww_392 : Cond.selects RX6 yX6_addEdition yX6_addEdition ∈ lwG := lwG_of 392 (by decide +kernel) rfl
set_option maxRecDepth 20000 in
theorem ww_426 : Cond.methodLink RX10 130 yX6_inForce ∈ lwG := lwG_of 426 (by decide +kernel) rfl
set_option maxRecDepth 20000 in
theorem ww_436 : Cond.code yX10_isBit cX10_isBit 1 (some .boolean) ∈ lwG := lwG_of 436 (by decide +kernel) rfl
set_option maxRecDepth 20000 in
theorem ww_434 : Cond.methodLink RX10 133 yX10_isBit ∈ lwG := lwG_of 434 (by decide +kernel) rfl
set_option maxRecDepth 20000 in
theorem ww_435 : Cond.static yX10_isBit ∈ lwG := lwG_of 435 (by decide +kernel) rfl
set_option maxRecDepth 20000 in
theorem ww_437 : Cond.constantLong RX10 136 (-1099511627777) ∈ lwG := lwG_of 437 (by decide +kernel) rfl
set_option maxRecDepth 20000 in
theorem ww_441 : Cond.code yX5_find cX5_find 3 (some .boolean) ∈ lwG := lwG_of 441 (by decide +kernel) rfl
set_option maxRecDepth 20000 in
theorem ww_438 : Cond.methodLink RX10 138 yX5_find ∈ lwG := lwG_of 438 (by decide +kernel) rfl
set_option maxRecDepth 20000 in
theorem ww_439 : Cond.instanceMethod yX5_find ∈ lwG := lwG_of 439 (by decide +kernel) rfl
set_option maxRecDepth 20000 in
theorem ww_440 : Cond.selects RX5 yX5_find yX5_find ∈ lwG := lwG_of 440 (by decide +kernel) rfl
set_option maxRecDepth 20000 in
theorem ww_473 : Cond.code yX2_part cX2_part 2 (some .long) ∈ lwG := lwG_of 473 (by decide +kernel) rfl
set_option maxRecDepth 20000 in
theorem ww_470 : Cond.methodLink RX10 142 yX2_part ∈ lwG := lwG_of 470 (by decide +kernel) rfl
set_option maxRecDepth 20000 in
theorem ww_471 : Cond.instanceMethod yX2_part ∈ lwG := lwG_of 471 (by decide +kernel) rfl
set_option maxRecDepth 20000 in
theorem ww_472 : Cond.selects RX2 yX2_part yX2_part ∈ lwG := lwG_of 472 (by decide +kernel) rfl
set_option maxRecDepth 20000 in
theorem ww_474 : Cond.constantLong RX10 146 (-1099511627780) ∈ lwG := lwG_of 474 (by decide +kernel) rfl
set_option maxRecDepth 20000 in
theorem ww_482 : Cond.code yX4_sideOf cX4_sideOf 4 (some .int) ∈ lwG := lwG_of 482 (by decide +kernel) rfl
set_option maxRecDepth 20000 in
theorem ww_479 : Cond.methodLink RX10 148 yX4_sideOf ∈ lwG := lwG_of 479 (by decide +kernel) rfl
set_option maxRecDepth 20000 in
theorem ww_480 : Cond.instanceMethod yX4_sideOf ∈ lwG := lwG_of 480 (by decide +kernel) rfl
set_option maxRecDepth 20000 in
theorem ww_481 : Cond.selects RX4 yX4_sideOf yX4_sideOf ∈ lwG := lwG_of 481 (by decide +kernel) rfl
set_option maxRecDepth 20000 in
theorem ww_490 : Cond.code yX5_findReach cX5_findReach 5 (some .boolean) ∈ lwG := lwG_of 490 (by decide +kernel) rfl
set_option maxRecDepth 20000 in
theorem ww_487 : Cond.methodLink RX10 151 yX5_findReach ∈ lwG := lwG_of 487 (by decide +kernel) rfl
set_option maxRecDepth 20000 in
theorem ww_488 : Cond.instanceMethod yX5_findReach ∈ lwG := lwG_of 488 (by decide +kernel) rfl
set_option maxRecDepth 20000 in
theorem ww_489 : Cond.selects RX5 yX5_findReach yX5_findReach ∈ lwG := lwG_of 489 (by decide +kernel) rfl
set_option maxRecDepth 20000 in
theorem ww_503 : Cond.methodLink RX10 155 yX5_findMove ∈ lwG := lwG_of 503 (by decide +kernel) rfl
set_option maxRecDepth 20000 in
theorem ww_519 : Cond.code yX5_fewest cX5_fewest 9 (some .int) ∈ lwG := lwG_of 519 (by decide +kernel) rfl
set_option maxRecDepth 20000 in
theorem ww_516 : Cond.methodLink RX10 159 yX5_fewest ∈ lwG := lwG_of 516 (by decide +kernel) rfl
set_option maxRecDepth 20000 in
theorem ww_517 : Cond.instanceMethod yX5_fewest ∈ lwG := lwG_of 517 (by decide +kernel) rfl
set_option maxRecDepth 20000 in
theorem ww_518 : Cond.selects RX5 yX5_fewest yX5_fewest ∈ lwG := lwG_of 518 (by decide +kernel) rfl
set_option maxRecDepth 20000 in
theorem ww_538 : Cond.code yX0_open cX0_open 2 (some .int) ∈ lwG := lwG_of 538 (by decide +kernel) rfl
set_option maxRecDepth 20000 in
theorem ww_535 : Cond.methodLink RX10 163 yX0_open ∈ lwG := lwG_of 535 (by decide +kernel) rfl
set_option maxRecDepth 20000 in
theorem ww_536 : Cond.instanceMethod yX0_open ∈ lwG := lwG_of 536 (by decide +kernel) rfl
set_option maxRecDepth 20000 in
theorem ww_537 : Cond.selects RX0 yX0_open yX0_open ∈ lwG := lwG_of 537 (by decide +kernel) rfl
set_option maxRecDepth 20000 in
theorem ww_546 : Cond.code yX0_areTwo cX0_areTwo 3 (some .boolean) ∈ lwG := lwG_of 546 (by decide +kernel) rfl
set_option maxRecDepth 20000 in
theorem ww_543 : Cond.methodLink RX10 166 yX0_areTwo ∈ lwG := lwG_of 543 (by decide +kernel) rfl
set_option maxRecDepth 20000 in
theorem ww_544 : Cond.instanceMethod yX0_areTwo ∈ lwG := lwG_of 544 (by decide +kernel) rfl
set_option maxRecDepth 20000 in
theorem ww_545 : Cond.selects RX0 yX0_areTwo yX0_areTwo ∈ lwG := lwG_of 545 (by decide +kernel) rfl
set_option maxRecDepth 20000 in
theorem ww_554 : Cond.code yX0_sign cX0_sign 6 (some .int) ∈ lwG := lwG_of 554 (by decide +kernel) rfl
set_option maxRecDepth 20000 in
theorem ww_551 : Cond.methodLink RX10 170 yX0_sign ∈ lwG := lwG_of 551 (by decide +kernel) rfl
set_option maxRecDepth 20000 in
theorem ww_552 : Cond.instanceMethod yX0_sign ∈ lwG := lwG_of 552 (by decide +kernel) rfl
set_option maxRecDepth 20000 in
theorem ww_553 : Cond.selects RX0 yX0_sign yX0_sign ∈ lwG := lwG_of 553 (by decide +kernel) rfl
set_option maxRecDepth 20000 in
theorem ww_559 : Cond.methodLink RX10 174 yX0_has ∈ lwG := lwG_of 559 (by decide +kernel) rfl
set_option maxRecDepth 20000 in
theorem ww_560 : Cond.methodLink RX10 177 yX0_deskGain ∈ lwG := lwG_of 560 (by decide +kernel) rfl
set_option maxRecDepth 20000 in
theorem ww_571 : Cond.code yX0_houseOf cX0_houseOf 2 (some .int) ∈ lwG := lwG_of 571 (by decide +kernel) rfl
set_option maxRecDepth 20000 in
theorem ww_568 : Cond.methodLink RX10 180 yX0_houseOf ∈ lwG := lwG_of 568 (by decide +kernel) rfl
set_option maxRecDepth 20000 in
theorem ww_569 : Cond.instanceMethod yX0_houseOf ∈ lwG := lwG_of 569 (by decide +kernel) rfl
set_option maxRecDepth 20000 in
theorem ww_570 : Cond.selects RX0 yX0_houseOf yX0_houseOf ∈ lwG := lwG_of 570 (by decide +kernel) rfl
set_option maxRecDepth 20000 in
theorem ww_575 : Cond.code yX0_houseGain cX0_houseGain 5 (some .int) ∈ lwG := lwG_of 575 (by decide +kernel) rfl
set_option maxRecDepth 20000 in
theorem ww_572 : Cond.methodLink RX10 183 yX0_houseGain ∈ lwG := lwG_of 572 (by decide +kernel) rfl
set_option maxRecDepth 20000 in
theorem ww_573 : Cond.instanceMethod yX0_houseGain ∈ lwG := lwG_of 573 (by decide +kernel) rfl
set_option maxRecDepth 20000 in
theorem ww_574 : Cond.selects RX0 yX0_houseGain yX0_houseGain ∈ lwG := lwG_of 574 (by decide +kernel) rfl
set_option maxRecDepth 20000 in
theorem ww_580 : Cond.methodLink RX10 186 yX2_put ∈ lwG := lwG_of 580 (by decide +kernel) rfl
set_option maxRecDepth 20000 in
theorem ww_584 : Cond.code yX0_strikeSum cX0_strikeSum 5 (some .int) ∈ lwG := lwG_of 584 (by decide +kernel) rfl
set_option maxRecDepth 20000 in
theorem ww_581 : Cond.methodLink RX10 190 yX0_strikeSum ∈ lwG := lwG_of 581 (by decide +kernel) rfl
set_option maxRecDepth 20000 in
theorem ww_582 : Cond.instanceMethod yX0_strikeSum ∈ lwG := lwG_of 582 (by decide +kernel) rfl
set_option maxRecDepth 20000 in
theorem ww_583 : Cond.selects RX0 yX0_strikeSum yX0_strikeSum ∈ lwG := lwG_of 583 (by decide +kernel) rfl
set_option maxRecDepth 20000 in
theorem ww_588 : Cond.code yX2_scale cX2_scale 3 none ∈ lwG := lwG_of 588 (by decide +kernel) rfl
set_option maxRecDepth 20000 in
theorem ww_585 : Cond.methodLink RX10 193 yX2_scale ∈ lwG := lwG_of 585 (by decide +kernel) rfl
set_option maxRecDepth 20000 in
theorem ww_586 : Cond.instanceMethod yX2_scale ∈ lwG := lwG_of 586 (by decide +kernel) rfl
set_option maxRecDepth 20000 in
theorem ww_587 : Cond.selects RX2 yX2_scale yX2_scale ∈ lwG := lwG_of 587 (by decide +kernel) rfl
set_option maxRecDepth 20000 in
theorem ww_596 : Cond.code yX0_housesGaining cX0_housesGaining 5 (some .int) ∈ lwG := lwG_of 596 (by decide +kernel) rfl
set_option maxRecDepth 20000 in
theorem ww_593 : Cond.methodLink RX10 197 yX0_housesGaining ∈ lwG := lwG_of 593 (by decide +kernel) rfl
set_option maxRecDepth 20000 in
theorem ww_594 : Cond.instanceMethod yX0_housesGaining ∈ lwG := lwG_of 594 (by decide +kernel) rfl
set_option maxRecDepth 20000 in
theorem ww_595 : Cond.selects RX0 yX0_housesGaining yX0_housesGaining ∈ lwG := lwG_of 595 (by decide +kernel) rfl
set_option maxRecDepth 20000 in
theorem ww_608 : Cond.code yX0_deskCount cX0_deskCount 1 (some .int) ∈ lwG := lwG_of 608 (by decide +kernel) rfl
set_option maxRecDepth 20000 in
theorem ww_605 : Cond.methodLink RX10 200 yX0_deskCount ∈ lwG := lwG_of 605 (by decide +kernel) rfl
set_option maxRecDepth 20000 in
theorem ww_606 : Cond.instanceMethod yX0_deskCount ∈ lwG := lwG_of 606 (by decide +kernel) rfl
set_option maxRecDepth 20000 in
theorem ww_607 : Cond.selects RX0 yX0_deskCount yX0_deskCount ∈ lwG := lwG_of 607 (by decide +kernel) rfl
set_option maxRecDepth 20000 in
theorem ww_612 : Cond.code yX0_contractCount cX0_contractCount 1 (some .int) ∈ lwG := lwG_of 612 (by decide +kernel) rfl
set_option maxRecDepth 20000 in
theorem ww_609 : Cond.methodLink RX10 204 yX0_contractCount ∈ lwG := lwG_of 609 (by decide +kernel) rfl
set_option maxRecDepth 20000 in
theorem ww_610 : Cond.instanceMethod yX0_contractCount ∈ lwG := lwG_of 610 (by decide +kernel) rfl
set_option maxRecDepth 20000 in
theorem ww_611 : Cond.selects RX0 yX0_contractCount yX0_contractCount ∈ lwG := lwG_of 611 (by decide +kernel) rfl
set_option maxRecDepth 20000 in
theorem ww_616 : Cond.code yX3_rowCount cX3_rowCount 1 (some .int) ∈ lwG := lwG_of 616 (by decide +kernel) rfl
set_option maxRecDepth 20000 in
theorem ww_613 : Cond.methodLink RX10 207 yX3_rowCount ∈ lwG := lwG_of 613 (by decide +kernel) rfl
set_option maxRecDepth 20000 in
theorem ww_614 : Cond.instanceMethod yX3_rowCount ∈ lwG := lwG_of 614 (by decide +kernel) rfl
set_option maxRecDepth 20000 in
theorem ww_615 : Cond.selects RX3 yX3_rowCount yX3_rowCount ∈ lwG := lwG_of 615 (by decide +kernel) rfl
set_option maxRecDepth 20000 in
theorem ww_620 : Cond.code yX7_runCount cX7_runCount 1 (some .int) ∈ lwG := lwG_of 620 (by decide +kernel) rfl
set_option maxRecDepth 20000 in
theorem ww_617 : Cond.methodLink RX10 210 yX7_runCount ∈ lwG := lwG_of 617 (by decide +kernel) rfl
set_option maxRecDepth 20000 in
theorem ww_618 : Cond.instanceMethod yX7_runCount ∈ lwG := lwG_of 618 (by decide +kernel) rfl
set_option maxRecDepth 20000 in
theorem ww_619 : Cond.selects RX7 yX7_runCount yX7_runCount ∈ lwG := lwG_of 619 (by decide +kernel) rfl
set_option maxRecDepth 20000 in
theorem ww_624 : Cond.code yX9_wordCount cX9_wordCount 1 (some .int) ∈ lwG := lwG_of 624 (by decide +kernel) rfl
set_option maxRecDepth 20000 in
theorem ww_621 : Cond.methodLink RX10 213 yX9_wordCount ∈ lwG := lwG_of 621 (by decide +kernel) rfl
set_option maxRecDepth 20000 in
theorem ww_622 : Cond.instanceMethod yX9_wordCount ∈ lwG := lwG_of 622 (by decide +kernel) rfl
set_option maxRecDepth 20000 in
theorem ww_623 : Cond.selects RX9 yX9_wordCount yX9_wordCount ∈ lwG := lwG_of 623 (by decide +kernel) rfl
set_option maxRecDepth 20000 in
theorem ww_628 : Cond.code yX6_editionCount cX6_editionCount 1 (some .int) ∈ lwG := lwG_of 628 (by decide +kernel) rfl
set_option maxRecDepth 20000 in
theorem ww_625 : Cond.methodLink RX10 216 yX6_editionCount ∈ lwG := lwG_of 625 (by decide +kernel) rfl
set_option maxRecDepth 20000 in
theorem ww_626 : Cond.instanceMethod yX6_editionCount ∈ lwG := lwG_of 626 (by decide +kernel) rfl
set_option maxRecDepth 20000 in
theorem ww_627 : Cond.selects RX6 yX6_editionCount yX6_editionCount ∈ lwG := lwG_of 627 (by decide +kernel) rfl
set_option maxRecDepth 20000 in
theorem ww_636 : Cond.code yX3_lend cX3_lend 4 (some .int) ∈ lwG := lwG_of 636 (by decide +kernel) rfl
set_option maxRecDepth 20000 in
theorem ww_633 : Cond.methodLink RX10 219 yX3_lend ∈ lwG := lwG_of 633 (by decide +kernel) rfl
set_option maxRecDepth 20000 in
theorem ww_634 : Cond.instanceMethod yX3_lend ∈ lwG := lwG_of 634 (by decide +kernel) rfl
set_option maxRecDepth 20000 in
theorem ww_635 : Cond.selects RX3 yX3_lend yX3_lend ∈ lwG := lwG_of 635 (by decide +kernel) rfl
set_option maxRecDepth 20000 in
theorem ww_644 : Cond.code yX10_findTrue cX10_findTrue 3 (some .boolean) ∈ lwG := lwG_of 644 (by decide +kernel) rfl
set_option maxRecDepth 20000 in
theorem ww_641 : Cond.methodLink RX10 222 yX10_findTrue ∈ lwG := lwG_of 641 (by decide +kernel) rfl
set_option maxRecDepth 20000 in
theorem ww_643 : Cond.instanceMethod yX10_findTrue ∈ lwG := lwG_of 643 (by decide +kernel) rfl
set_option maxRecDepth 20000 in
theorem ww_7 : Cond.selects RX10 yX10_findTrue yX10_findTrue ∈ lwG := lwG_of 7 (by decide +kernel) rfl
set_option maxRecDepth 20000 in
theorem ww_664 : Cond.code yX3_lowEnd cX3_lowEnd 1 (some .int) ∈ lwG := lwG_of 664 (by decide +kernel) rfl
set_option maxRecDepth 20000 in
theorem ww_661 : Cond.methodLink RX10 225 yX3_lowEnd ∈ lwG := lwG_of 661 (by decide +kernel) rfl
set_option maxRecDepth 20000 in
theorem ww_662 : Cond.instanceMethod yX3_lowEnd ∈ lwG := lwG_of 662 (by decide +kernel) rfl
set_option maxRecDepth 20000 in
theorem ww_663 : Cond.selects RX3 yX3_lowEnd yX3_lowEnd ∈ lwG := lwG_of 663 (by decide +kernel) rfl
set_option maxRecDepth 20000 in
theorem ww_668 : Cond.code yX3_highEnd cX3_highEnd 1 (some .int) ∈ lwG := lwG_of 668 (by decide +kernel) rfl
set_option maxRecDepth 20000 in
theorem ww_665 : Cond.methodLink RX10 228 yX3_highEnd ∈ lwG := lwG_of 665 (by decide +kernel) rfl
set_option maxRecDepth 20000 in
theorem ww_666 : Cond.instanceMethod yX3_highEnd ∈ lwG := lwG_of 666 (by decide +kernel) rfl
set_option maxRecDepth 20000 in
theorem ww_667 : Cond.selects RX3 yX3_highEnd yX3_highEnd ∈ lwG := lwG_of 667 (by decide +kernel) rfl
set_option maxRecDepth 20000 in
theorem ww_676 : Cond.code yX10_outSign cX10_outSign 4 (some .int) ∈ lwG := lwG_of 676 (by decide +kernel) rfl
set_option maxRecDepth 20000 in
theorem ww_673 : Cond.methodLink RX10 231 yX10_outSign ∈ lwG := lwG_of 673 (by decide +kernel) rfl
set_option maxRecDepth 20000 in
theorem ww_675 : Cond.instanceMethod yX10_outSign ∈ lwG := lwG_of 675 (by decide +kernel) rfl
set_option maxRecDepth 20000 in
theorem ww_9 : Cond.selects RX10 yX10_outSign yX10_outSign ∈ lwG := lwG_of 9 (by decide +kernel) rfl
set_option maxRecDepth 20000 in
theorem ww_684 : Cond.code yX10_findRight cX10_findRight 5 (some .boolean) ∈ lwG := lwG_of 684 (by decide +kernel) rfl
set_option maxRecDepth 20000 in
theorem ww_681 : Cond.methodLink RX10 234 yX10_findRight ∈ lwG := lwG_of 681 (by decide +kernel) rfl
set_option maxRecDepth 20000 in
theorem ww_683 : Cond.instanceMethod yX10_findRight ∈ lwG := lwG_of 683 (by decide +kernel) rfl
set_option maxRecDepth 20000 in
theorem ww_10 : Cond.selects RX10 yX10_findRight yX10_findRight ∈ lwG := lwG_of 10 (by decide +kernel) rfl
set_option maxRecDepth 20000 in
theorem ww_690 : Cond.methodLink RX10 237 yX2_putDifference ∈ lwG := lwG_of 690 (by decide +kernel) rfl
set_option maxRecDepth 20000 in
theorem ww_697 : Cond.code yX10_chance cX10_chance 7 (some .int) ∈ lwG := lwG_of 697 (by decide +kernel) rfl
set_option maxRecDepth 20000 in
theorem ww_695 : Cond.methodLink RX10 241 yX10_chance ∈ lwG := lwG_of 695 (by decide +kernel) rfl
set_option maxRecDepth 20000 in
theorem ww_696 : Cond.static yX10_chance ∈ lwG := lwG_of 696 (by decide +kernel) rfl
set_option maxRecDepth 20000 in
theorem ww_706 : Cond.code yX7_give cX7_give 3 (some .int) ∈ lwG := lwG_of 706 (by decide +kernel) rfl
set_option maxRecDepth 20000 in
theorem ww_703 : Cond.methodLink RX10 244 yX7_give ∈ lwG := lwG_of 703 (by decide +kernel) rfl
set_option maxRecDepth 20000 in
theorem ww_704 : Cond.instanceMethod yX7_give ∈ lwG := lwG_of 704 (by decide +kernel) rfl
set_option maxRecDepth 20000 in
theorem ww_705 : Cond.selects RX7 yX7_give yX7_give ∈ lwG := lwG_of 705 (by decide +kernel) rfl
set_option maxRecDepth 20000 in
theorem ww_714 : Cond.code yX7_has cX7_has 2 (some .boolean) ∈ lwG := lwG_of 714 (by decide +kernel) rfl
set_option maxRecDepth 20000 in
theorem ww_711 : Cond.methodLink RX10 247 yX7_has ∈ lwG := lwG_of 711 (by decide +kernel) rfl
set_option maxRecDepth 20000 in
theorem ww_712 : Cond.instanceMethod yX7_has ∈ lwG := lwG_of 712 (by decide +kernel) rfl
set_option maxRecDepth 20000 in
theorem ww_713 : Cond.selects RX7 yX7_has yX7_has ∈ lwG := lwG_of 713 (by decide +kernel) rfl
set_option maxRecDepth 20000 in
theorem ww_718 : Cond.code yX7_morningOf cX7_morningOf 2 (some .int) ∈ lwG := lwG_of 718 (by decide +kernel) rfl
set_option maxRecDepth 20000 in
theorem ww_715 : Cond.methodLink RX10 248 yX7_morningOf ∈ lwG := lwG_of 715 (by decide +kernel) rfl
set_option maxRecDepth 20000 in
theorem ww_716 : Cond.instanceMethod yX7_morningOf ∈ lwG := lwG_of 716 (by decide +kernel) rfl
set_option maxRecDepth 20000 in
theorem ww_717 : Cond.selects RX7 yX7_morningOf yX7_morningOf ∈ lwG := lwG_of 717 (by decide +kernel) rfl
set_option maxRecDepth 20000 in
theorem ww_719 : Cond.methodLink RX10 251 yX3_findAll ∈ lwG := lwG_of 719 (by decide +kernel) rfl
set_option maxRecDepth 20000 in
theorem ww_723 : Cond.code yX7_priceOf cX7_priceOf 2 (some .int) ∈ lwG := lwG_of 723 (by decide +kernel) rfl
set_option maxRecDepth 20000 in
theorem ww_720 : Cond.methodLink RX10 254 yX7_priceOf ∈ lwG := lwG_of 720 (by decide +kernel) rfl
set_option maxRecDepth 20000 in
theorem ww_721 : Cond.instanceMethod yX7_priceOf ∈ lwG := lwG_of 721 (by decide +kernel) rfl
set_option maxRecDepth 20000 in
theorem ww_722 : Cond.selects RX7 yX7_priceOf yX7_priceOf ∈ lwG := lwG_of 722 (by decide +kernel) rfl
set_option maxRecDepth 20000 in
theorem ww_735 : Cond.code yX9_tell cX9_tell 5 (some .int) ∈ lwG := lwG_of 735 (by decide +kernel) rfl
set_option maxRecDepth 20000 in
theorem ww_732 : Cond.methodLink RX10 257 yX9_tell ∈ lwG := lwG_of 732 (by decide +kernel) rfl
set_option maxRecDepth 20000 in
theorem ww_733 : Cond.instanceMethod yX9_tell ∈ lwG := lwG_of 733 (by decide +kernel) rfl
set_option maxRecDepth 20000 in
theorem ww_734 : Cond.selects RX9 yX9_tell yX9_tell ∈ lwG := lwG_of 734 (by decide +kernel) rfl
set_option maxRecDepth 20000 in
theorem ww_743 : Cond.code yX9_setWall cX9_setWall 5 (some .int) ∈ lwG := lwG_of 743 (by decide +kernel) rfl
set_option maxRecDepth 20000 in
theorem ww_740 : Cond.methodLink RX10 260 yX9_setWall ∈ lwG := lwG_of 740 (by decide +kernel) rfl
set_option maxRecDepth 20000 in
theorem ww_741 : Cond.instanceMethod yX9_setWall ∈ lwG := lwG_of 741 (by decide +kernel) rfl
set_option maxRecDepth 20000 in
theorem ww_742 : Cond.selects RX9 yX9_setWall yX9_setWall ∈ lwG := lwG_of 742 (by decide +kernel) rfl
set_option maxRecDepth 20000 in
theorem ww_751 : Cond.code yX9_crossings cX9_crossings 4 (some .int) ∈ lwG := lwG_of 751 (by decide +kernel) rfl
set_option maxRecDepth 20000 in
theorem ww_748 : Cond.methodLink RX10 264 yX9_crossings ∈ lwG := lwG_of 748 (by decide +kernel) rfl
set_option maxRecDepth 20000 in
theorem ww_749 : Cond.instanceMethod yX9_crossings ∈ lwG := lwG_of 749 (by decide +kernel) rfl
set_option maxRecDepth 20000 in
theorem ww_750 : Cond.selects RX9 yX9_crossings yX9_crossings ∈ lwG := lwG_of 750 (by decide +kernel) rfl
set_option maxRecDepth 20000 in
theorem ww_759 : Cond.code yX9_knowers cX9_knowers 6 (some .int) ∈ lwG := lwG_of 759 (by decide +kernel) rfl
set_option maxRecDepth 20000 in
theorem ww_756 : Cond.methodLink RX10 267 yX9_knowers ∈ lwG := lwG_of 756 (by decide +kernel) rfl
set_option maxRecDepth 20000 in
theorem ww_757 : Cond.instanceMethod yX9_knowers ∈ lwG := lwG_of 757 (by decide +kernel) rfl
set_option maxRecDepth 20000 in
theorem ww_758 : Cond.selects RX9 yX9_knowers yX9_knowers ∈ lwG := lwG_of 758 (by decide +kernel) rfl
set_option maxRecDepth 20000 in
theorem ww_778 : Cond.code yX9_fewestWords cX9_fewestWords 5 (some .int) ∈ lwG := lwG_of 778 (by decide +kernel) rfl
set_option maxRecDepth 20000 in
theorem ww_775 : Cond.methodLink RX10 270 yX9_fewestWords ∈ lwG := lwG_of 775 (by decide +kernel) rfl
set_option maxRecDepth 20000 in
theorem ww_776 : Cond.instanceMethod yX9_fewestWords ∈ lwG := lwG_of 776 (by decide +kernel) rfl
set_option maxRecDepth 20000 in
theorem ww_777 : Cond.selects RX9 yX9_fewestWords yX9_fewestWords ∈ lwG := lwG_of 777 (by decide +kernel) rfl
set_option maxRecDepth 20000 in
theorem ww_786 : Cond.code yX1_set cX1_set 5 (some .int) ∈ lwG := lwG_of 786 (by decide +kernel) rfl
set_option maxRecDepth 20000 in
theorem ww_783 : Cond.methodLink RX10 273 yX1_set ∈ lwG := lwG_of 783 (by decide +kernel) rfl
set_option maxRecDepth 20000 in
theorem ww_784 : Cond.instanceMethod yX1_set ∈ lwG := lwG_of 784 (by decide +kernel) rfl
set_option maxRecDepth 20000 in
theorem ww_785 : Cond.selects RX1 yX1_set yX1_set ∈ lwG := lwG_of 785 (by decide +kernel) rfl
set_option maxRecDepth 20000 in
theorem ww_794 : Cond.code yX1_balance cX1_balance 4 (some .int) ∈ lwG := lwG_of 794 (by decide +kernel) rfl
set_option maxRecDepth 20000 in
theorem ww_791 : Cond.methodLink RX10 276 yX1_balance ∈ lwG := lwG_of 791 (by decide +kernel) rfl
set_option maxRecDepth 20000 in
theorem ww_792 : Cond.instanceMethod yX1_balance ∈ lwG := lwG_of 792 (by decide +kernel) rfl
set_option maxRecDepth 20000 in
theorem ww_793 : Cond.selects RX1 yX1_balance yX1_balance ∈ lwG := lwG_of 793 (by decide +kernel) rfl
set_option maxRecDepth 20000 in
theorem ww_802 : Cond.code yX1_inRings cX1_inRings 3 (some .int) ∈ lwG := lwG_of 802 (by decide +kernel) rfl
set_option maxRecDepth 20000 in
theorem ww_799 : Cond.methodLink RX10 279 yX1_inRings ∈ lwG := lwG_of 799 (by decide +kernel) rfl
set_option maxRecDepth 20000 in
theorem ww_800 : Cond.instanceMethod yX1_inRings ∈ lwG := lwG_of 800 (by decide +kernel) rfl
set_option maxRecDepth 20000 in
theorem ww_801 : Cond.selects RX1 yX1_inRings yX1_inRings ∈ lwG := lwG_of 801 (by decide +kernel) rfl
set_option maxRecDepth 20000 in
theorem ww_813 : Cond.code yX10_isPlan cX10_isPlan 3 (some .boolean) ∈ lwG := lwG_of 813 (by decide +kernel) rfl
set_option maxRecDepth 20000 in
theorem ww_811 : Cond.methodLink RX10 282 yX10_isPlan ∈ lwG := lwG_of 811 (by decide +kernel) rfl
set_option maxRecDepth 20000 in
theorem ww_812 : Cond.static yX10_isPlan ∈ lwG := lwG_of 812 (by decide +kernel) rfl
set_option maxRecDepth 20000 in
theorem ww_817 : Cond.code yX5_bestCut cX5_bestCut 7 (some .int) ∈ lwG := lwG_of 817 (by decide +kernel) rfl
set_option maxRecDepth 20000 in
theorem ww_814 : Cond.methodLink RX10 285 yX5_bestCut ∈ lwG := lwG_of 814 (by decide +kernel) rfl
set_option maxRecDepth 20000 in
theorem ww_815 : Cond.instanceMethod yX5_bestCut ∈ lwG := lwG_of 815 (by decide +kernel) rfl
set_option maxRecDepth 20000 in
theorem ww_816 : Cond.selects RX5 yX5_bestCut yX5_bestCut ∈ lwG := lwG_of 816 (by decide +kernel) rfl
set_option maxRecDepth 20000 in
theorem ww_844 : Cond.methodLink RX10 289 yX8_isNamed ∈ lwG := lwG_of 844 (by decide +kernel) rfl
set_option maxRecDepth 20000 in
theorem ww_848 : Cond.code yX8_renew cX8_renew 5 none ∈ lwG := lwG_of 848 (by decide +kernel) rfl
set_option maxRecDepth 20000 in
theorem ww_845 : Cond.methodLink RX10 292 yX8_renew ∈ lwG := lwG_of 845 (by decide +kernel) rfl
set_option maxRecDepth 20000 in
theorem ww_846 : Cond.instanceMethod yX8_renew ∈ lwG := lwG_of 846 (by decide +kernel) rfl
set_option maxRecDepth 20000 in
theorem ww_847 : Cond.selects RX8 yX8_renew yX8_renew ∈ lwG := lwG_of 847 (by decide +kernel) rfl
set_option maxRecDepth 20000 in
theorem ww_856 : Cond.code yX8_clear cX8_clear 2 (some .int) ∈ lwG := lwG_of 856 (by decide +kernel) rfl
set_option maxRecDepth 20000 in
theorem ww_853 : Cond.methodLink RX10 295 yX8_clear ∈ lwG := lwG_of 853 (by decide +kernel) rfl
set_option maxRecDepth 20000 in
theorem ww_854 : Cond.instanceMethod yX8_clear ∈ lwG := lwG_of 854 (by decide +kernel) rfl
set_option maxRecDepth 20000 in
theorem ww_855 : Cond.selects RX8 yX8_clear yX8_clear ∈ lwG := lwG_of 855 (by decide +kernel) rfl
set_option maxRecDepth 20000 in
theorem ww_864 : Cond.code yX8_write cX8_write 4 none ∈ lwG := lwG_of 864 (by decide +kernel) rfl
set_option maxRecDepth 20000 in
theorem ww_861 : Cond.methodLink RX10 298 yX8_write ∈ lwG := lwG_of 861 (by decide +kernel) rfl
set_option maxRecDepth 20000 in
theorem ww_862 : Cond.instanceMethod yX8_write ∈ lwG := lwG_of 862 (by decide +kernel) rfl
set_option maxRecDepth 20000 in
theorem ww_863 : Cond.selects RX8 yX8_write yX8_write ∈ lwG := lwG_of 863 (by decide +kernel) rfl
set_option maxRecDepth 20000 in
theorem ww_648 : Cond.code yX3_findTrue cX3_findTrue 4 (some .boolean) ∈ lwG := lwG_of 648 (by decide +kernel) rfl
set_option maxRecDepth 20000 in
theorem ww_645 : Cond.methodLink RX10 301 yX3_findTrue ∈ lwG := lwG_of 645 (by decide +kernel) rfl
set_option maxRecDepth 20000 in
theorem ww_646 : Cond.instanceMethod yX3_findTrue ∈ lwG := lwG_of 646 (by decide +kernel) rfl
set_option maxRecDepth 20000 in
theorem ww_647 : Cond.selects RX3 yX3_findTrue yX3_findTrue ∈ lwG := lwG_of 647 (by decide +kernel) rfl
set_option maxRecDepth 20000 in
theorem ww_685 : Cond.methodLink RX10 303 yX5_findOf ∈ lwG := lwG_of 685 (by decide +kernel) rfl
set_option maxRecDepth 20000 in
theorem ww_698 : Cond.constantLong RX10 307 1000 ∈ lwG := lwG_of 698 (by decide +kernel) rfl
set_option maxRecDepth 20000 in
theorem ww_873 : Cond.methodLink RX11 1 objectInit ∈ lwG := lwG_of 873 (by decide +kernel) rfl
set_option maxRecDepth 20000 in
theorem ww_874 : Cond.fieldLink RX11 7 RX11 "saids" "[I" ∈ lwG := lwG_of 874 (by decide +kernel) rfl
set_option maxRecDepth 20000 in
theorem ww_875 : Cond.fieldLink RX11 13 RX11 "tape" "[I" ∈ lwG := lwG_of 875 (by decide +kernel) rfl
set_option maxRecDepth 20000 in
theorem ww_879 : Cond.fieldLink RX11 16 RX11 "editionFrom" "[I" ∈ lwG := lwG_of 879 (by decide +kernel) rfl
set_option maxRecDepth 20000 in
theorem ww_880 : Cond.fieldLink RX11 19 RX11 "numbers" "[I" ∈ lwG := lwG_of 880 (by decide +kernel) rfl
set_option maxRecDepth 20000 in
theorem ww_881 : Cond.fieldLink RX11 22 RX11 "read" "[I" ∈ lwG := lwG_of 881 (by decide +kernel) rfl
set_option maxRecDepth 20000 in
theorem ww_882 : Cond.fieldLink RX11 25 RX11 "lows" "[I" ∈ lwG := lwG_of 882 (by decide +kernel) rfl
set_option maxRecDepth 20000 in
theorem ww_883 : Cond.fieldLink RX11 28 RX11 "highs" "[I" ∈ lwG := lwG_of 883 (by decide +kernel) rfl
set_option maxRecDepth 20000 in
theorem ww_884 : Cond.fieldLink RX11 31 RX11 "firsts" "[I" ∈ lwG := lwG_of 884 (by decide +kernel) rfl
set_option maxRecDepth 20000 in
theorem ww_885 : Cond.fieldLink RX11 34 RX11 "now" "[I" ∈ lwG := lwG_of 885 (by decide +kernel) rfl
set_option maxRecDepth 20000 in
theorem ww_886 : Cond.fieldLink RX11 37 RX11 "order" "[I" ∈ lwG := lwG_of 886 (by decide +kernel) rfl
set_option maxRecDepth 20000 in
theorem ww_892 : Cond.fieldLink RX11 40 RX11 "houseOf" "[I" ∈ lwG := lwG_of 892 (by decide +kernel) rfl
set_option maxRecDepth 20000 in
theorem ww_894 : Cond.fieldLink RX11 43 RX11 "getter" "[I" ∈ lwG := lwG_of 894 (by decide +kernel) rfl
set_option maxRecDepth 20000 in
theorem ww_895 : Cond.fieldLink RX11 46 RX11 "giver" "[I" ∈ lwG := lwG_of 895 (by decide +kernel) rfl
set_option maxRecDepth 20000 in
theorem ww_896 : Cond.fieldLink RX11 49 RX11 "onMorning" "[I" ∈ lwG := lwG_of 896 (by decide +kernel) rfl
set_option maxRecDepth 20000 in
theorem ww_897 : Cond.fieldLink RX11 52 RX11 "much" "[I" ∈ lwG := lwG_of 897 (by decide +kernel) rfl
set_option maxRecDepth 20000 in
theorem ww_898 : Cond.fieldLink RX11 55 RX11 "strikes" "[I" ∈ lwG := lwG_of 898 (by decide +kernel) rfl
set_option maxRecDepth 20000 in
theorem ww_900 : Cond.fieldLink RX11 58 RX11 "lentHouse" "[I" ∈ lwG := lwG_of 900 (by decide +kernel) rfl
set_option maxRecDepth 20000 in
theorem ww_901 : Cond.fieldLink RX11 61 RX11 "lentMorning" "[I" ∈ lwG := lwG_of 901 (by decide +kernel) rfl
set_option maxRecDepth 20000 in
theorem ww_902 : Cond.fieldLink RX11 64 RX11 "lentAt" "[I" ∈ lwG := lwG_of 902 (by decide +kernel) rfl
set_option maxRecDepth 20000 in
theorem ww_906 : Cond.fieldLink RX11 67 RX11 "runMorning" "[I" ∈ lwG := lwG_of 906 (by decide +kernel) rfl
set_option maxRecDepth 20000 in
theorem ww_907 : Cond.fieldLink RX11 70 RX11 "runPrice" "[I" ∈ lwG := lwG_of 907 (by decide +kernel) rfl
set_option maxRecDepth 20000 in
theorem ww_909 : Cond.fieldLink RX11 73 RX11 "wordFrom" "[I" ∈ lwG := lwG_of 909 (by decide +kernel) rfl
set_option maxRecDepth 20000 in
theorem ww_910 : Cond.fieldLink RX11 76 RX11 "wordTo" "[I" ∈ lwG := lwG_of 910 (by decide +kernel) rfl
set_option maxRecDepth 20000 in
theorem ww_911 : Cond.fieldLink RX11 79 RX11 "wordMorning" "[I" ∈ lwG := lwG_of 911 (by decide +kernel) rfl
set_option maxRecDepth 20000 in
theorem ww_912 : Cond.fieldLink RX11 82 RX11 "wordMinute" "[I" ∈ lwG := lwG_of 912 (by decide +kernel) rfl
set_option maxRecDepth 20000 in
theorem ww_1025 : Cond.arrayClass .boolean ∈ lwG := lwG_of 1025 (by decide +kernel) rfl
set_option maxRecDepth 20000 in
theorem ww_913 : Cond.fieldLink RX11 85 RX11 "isWall" "[Z" ∈ lwG := lwG_of 913 (by decide +kernel) rfl
set_option maxRecDepth 20000 in
theorem ww_914 : Cond.fieldLink RX11 89 RX11 "owes" "[I" ∈ lwG := lwG_of 914 (by decide +kernel) rfl
set_option maxRecDepth 20000 in
theorem ww_915 : Cond.fieldLink RX11 92 RX11 "toldAt" "[I" ∈ lwG := lwG_of 915 (by decide +kernel) rfl
set_option maxRecDepth 20000 in
theorem ww_916 : Cond.fieldLink RX11 95 RX11 "steps" "[I" ∈ lwG := lwG_of 916 (by decide +kernel) rfl
set_option maxRecDepth 20000 in
theorem ww_921 : Cond.fieldLink RX11 98 RX11 "lanes" "[I" ∈ lwG := lwG_of 921 (by decide +kernel) rfl
set_option maxRecDepth 20000 in
theorem ww_922 : Cond.fieldLink RX11 101 RX11 "sizes" "[I" ∈ lwG := lwG_of 922 (by decide +kernel) rfl
set_option maxRecDepth 20000 in
theorem ww_923 : Cond.fieldLink RX11 104 RX11 "items" "[I" ∈ lwG := lwG_of 923 (by decide +kernel) rfl
set_option maxRecDepth 20000 in
theorem ww_1033 : Cond.constantLong RX11 107 7 ∈ lwG := lwG_of 1033 (by decide +kernel) rfl
set_option maxRecDepth 20000 in
theorem ww_1036 : Cond.code yX11_in cX11_in 6 (some .boolean) ∈ lwG := lwG_of 1036 (by decide +kernel) rfl
set_option maxRecDepth 20000 in
theorem ww_47 : Cond.initialized RX11 ∈ lwG := lwG_of 47 (by decide +kernel) rfl
set_option maxRecDepth 20000 in
theorem ww_1034 : Cond.methodLink RX11 109 yX11_in ∈ lwG := lwG_of 1034 (by decide +kernel) rfl
set_option maxRecDepth 20000 in
theorem ww_1035 : Cond.static yX11_in ∈ lwG := lwG_of 1035 (by decide +kernel) rfl
set_option maxRecDepth 20000 in
theorem ww_1040 : Cond.constantLong RX11 113 29 ∈ lwG := lwG_of 1040 (by decide +kernel) rfl
set_option maxRecDepth 20000 in
theorem ww_1110 : Cond.code yX11_common cX11_common 10 (some .long) ∈ lwG := lwG_of 1110 (by decide +kernel) rfl
set_option maxRecDepth 20000 in
theorem ww_1108 : Cond.methodLink RX11 115 yX11_common ∈ lwG := lwG_of 1108 (by decide +kernel) rfl
set_option maxRecDepth 20000 in
theorem ww_1109 : Cond.static yX11_common ∈ lwG := lwG_of 1109 (by decide +kernel) rfl
set_option maxRecDepth 20000 in
theorem ww_1044 : Cond.constantLong RX11 119 (-1) ∈ lwG := lwG_of 1044 (by decide +kernel) rfl
set_option maxRecDepth 20000 in
theorem ww_1045 : Cond.constantLong RX11 121 999 ∈ lwG := lwG_of 1045 (by decide +kernel) rfl
set_option maxRecDepth 20000 in
theorem ww_1032 : Cond.code yX11_isHouse cX11_isHouse 1 (some .boolean) ∈ lwG := lwG_of 1032 (by decide +kernel) rfl
set_option maxRecDepth 20000 in
theorem ww_1030 : Cond.methodLink RX11 123 yX11_isHouse ∈ lwG := lwG_of 1030 (by decide +kernel) rfl
set_option maxRecDepth 20000 in
theorem ww_1031 : Cond.static yX11_isHouse ∈ lwG := lwG_of 1031 (by decide +kernel) rfl
set_option maxRecDepth 20000 in
theorem ww_1039 : Cond.code yX11_isMorning cX11_isMorning 1 (some .boolean) ∈ lwG := lwG_of 1039 (by decide +kernel) rfl
set_option maxRecDepth 20000 in
theorem ww_1037 : Cond.methodLink RX11 127 yX11_isMorning ∈ lwG := lwG_of 1037 (by decide +kernel) rfl
set_option maxRecDepth 20000 in
theorem ww_1038 : Cond.static yX11_isMorning ∈ lwG := lwG_of 1038 (by decide +kernel) rfl
set_option maxRecDepth 20000 in
theorem ww_1043 : Cond.code yX11_isSaid cX11_isSaid 1 (some .boolean) ∈ lwG := lwG_of 1043 (by decide +kernel) rfl
set_option maxRecDepth 20000 in
theorem ww_1041 : Cond.methodLink RX11 130 yX11_isSaid ∈ lwG := lwG_of 1041 (by decide +kernel) rfl
set_option maxRecDepth 20000 in
theorem ww_1042 : Cond.static yX11_isSaid ∈ lwG := lwG_of 1042 (by decide +kernel) rfl
set_option maxRecDepth 20000 in
theorem ww_1054 : Cond.constantLong RX11 133 8 ∈ lwG := lwG_of 1054 (by decide +kernel) rfl
set_option maxRecDepth 20000 in
theorem ww_1055 : Cond.constantLong RX11 135 255 ∈ lwG := lwG_of 1055 (by decide +kernel) rfl
set_option maxRecDepth 20000 in
theorem ww_1056 : Cond.constantLong RX11 137 32 ∈ lwG := lwG_of 1056 (by decide +kernel) rfl
set_option maxRecDepth 20000 in
theorem ww_1057 : Cond.constantLong RX11 139 126 ∈ lwG := lwG_of 1057 (by decide +kernel) rfl
set_option maxRecDepth 20000 in
theorem ww_876 : Cond.fieldLink RX11 141 RX11 "taped" "I" ∈ lwG := lwG_of 876 (by decide +kernel) rfl
set_option maxRecDepth 20000 in
theorem ww_877 : Cond.fieldLink RX11 145 RX11 "at" "I" ∈ lwG := lwG_of 877 (by decide +kernel) rfl
set_option maxRecDepth 20000 in
theorem ww_1073 : Cond.code yX11_next cX11_next 1 (some .int) ∈ lwG := lwG_of 1073 (by decide +kernel) rfl
set_option maxRecDepth 20000 in
theorem ww_1070 : Cond.methodLink RX11 148 yX11_next ∈ lwG := lwG_of 1070 (by decide +kernel) rfl
set_option maxRecDepth 20000 in
theorem ww_1072 : Cond.instanceMethod yX11_next ∈ lwG := lwG_of 1072 (by decide +kernel) rfl
set_option maxRecDepth 20000 in
theorem ww_17 : Cond.selects RX11 yX11_next yX11_next ∈ lwG := lwG_of 17 (by decide +kernel) rfl
set_option maxRecDepth 20000 in
theorem ww_1074 : Cond.constantLong RX11 152 48 ∈ lwG := lwG_of 1074 (by decide +kernel) rfl
set_option maxRecDepth 20000 in
theorem ww_1075 : Cond.constantLong RX11 154 57 ∈ lwG := lwG_of 1075 (by decide +kernel) rfl
set_option maxRecDepth 20000 in
theorem ww_878 : Cond.fieldLink RX11 156 RX11 "editions" "I" ∈ lwG := lwG_of 878 (by decide +kernel) rfl
set_option maxRecDepth 20000 in
theorem ww_1069 : Cond.code yX11_readClause cX11_readClause 6 (some .boolean) ∈ lwG := lwG_of 1069 (by decide +kernel) rfl
set_option maxRecDepth 20000 in
theorem ww_1066 : Cond.methodLink RX11 159 yX11_readClause ∈ lwG := lwG_of 1066 (by decide +kernel) rfl
set_option maxRecDepth 20000 in
theorem ww_1068 : Cond.instanceMethod yX11_readClause ∈ lwG := lwG_of 1068 (by decide +kernel) rfl
set_option maxRecDepth 20000 in
theorem ww_16 : Cond.selects RX11 yX11_readClause yX11_readClause ∈ lwG := lwG_of 16 (by decide +kernel) rfl
set_option maxRecDepth 20000 in
theorem ww_1065 : Cond.code yX11_readRules cX11_readRules 4 (some .boolean) ∈ lwG := lwG_of 1065 (by decide +kernel) rfl
set_option maxRecDepth 20000 in
theorem ww_1062 : Cond.methodLink RX11 163 yX11_readRules ∈ lwG := lwG_of 1062 (by decide +kernel) rfl
set_option maxRecDepth 20000 in
theorem ww_1064 : Cond.instanceMethod yX11_readRules ∈ lwG := lwG_of 1064 (by decide +kernel) rfl
set_option maxRecDepth 20000 in
theorem ww_15 : Cond.selects RX11 yX11_readRules yX11_readRules ∈ lwG := lwG_of 15 (by decide +kernel) rfl
set_option maxRecDepth 20000 in
theorem ww_1080 : Cond.constantLong RX11 166 2 ∈ lwG := lwG_of 1080 (by decide +kernel) rfl
set_option maxRecDepth 20000 in
theorem ww_1084 : Cond.code yX11_ruleOn cX11_ruleOn 5 (some .int) ∈ lwG := lwG_of 1084 (by decide +kernel) rfl
