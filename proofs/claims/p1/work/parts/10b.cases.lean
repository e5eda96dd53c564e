theorem tw_348 : Cond.code yX7_days cX7_days 3 (some .int) ∈ zz_all := zz_m3 31 rfl rfl
theorem tw_349 : Cond.methodLink RL 64 yX7_days ∈ zz_all := zz_m3 28 rfl rfl
theorem tw_350 : Cond.instanceMethod yX7_days ∈ zz_all := zz_m3 29 rfl rfl
theorem tw_351 : Cond.selects RX7 yX7_days yX7_days ∈ zz_all := zz_m3 30 rfl rfl
theorem tw_352 : Cond.code yX8_days cX8_days 3 (some .int) ∈ zz_all := zz_m4 214 rfl rfl
theorem tw_353 : Cond.methodLink RL 67 yX8_days ∈ zz_all := zz_m4 211 rfl rfl
theorem tw_354 : Cond.instanceMethod yX8_days ∈ zz_all := zz_m4 212 rfl rfl
theorem tw_355 : Cond.selects RX8 yX8_days yX8_days ∈ zz_all := zz_m4 213 rfl rfl
theorem tw_356 : Cond.code yX7_houseOf cX7_houseOf 4 (some .int) ∈ zz_all := zz_m3 44 rfl rfl
theorem tw_357 : Cond.methodLink RL 68 yX7_houseOf ∈ zz_all := zz_m3 41 rfl rfl
theorem tw_358 : Cond.instanceMethod yX7_houseOf ∈ zz_all := zz_m3 42 rfl rfl
theorem tw_359 : Cond.selects RX7 yX7_houseOf yX7_houseOf ∈ zz_all := zz_m3 43 rfl rfl
theorem tw_360 : Cond.code yX8_houseOf cX8_houseOf 5 (some .int) ∈ zz_all := zz_m4 222 rfl rfl
theorem tw_361 : Cond.methodLink RL 71 yX8_houseOf ∈ zz_all := zz_m4 219 rfl rfl
theorem tw_362 : Cond.instanceMethod yX8_houseOf ∈ zz_all := zz_m4 220 rfl rfl
theorem tw_363 : Cond.selects RX8 yX8_houseOf yX8_houseOf ∈ zz_all := zz_m4 221 rfl rfl
theorem tw_364 : Cond.code yX7_fieldOf cX7_fieldOf 4 (some .int) ∈ zz_all := zz_m3 53 rfl rfl
theorem tw_365 : Cond.methodLink RL 72 yX7_fieldOf ∈ zz_all := zz_m3 50 rfl rfl
theorem tw_366 : Cond.instanceMethod yX7_fieldOf ∈ zz_all := zz_m3 51 rfl rfl
theorem tw_367 : Cond.selects RX7 yX7_fieldOf yX7_fieldOf ∈ zz_all := zz_m3 52 rfl rfl
theorem tw_368 : Cond.code yX8_fieldOf cX8_fieldOf 3 (some .int) ∈ zz_all := zz_m4 231 rfl rfl
theorem tw_369 : Cond.methodLink RL 75 yX8_fieldOf ∈ zz_all := zz_m4 228 rfl rfl
theorem tw_370 : Cond.instanceMethod yX8_fieldOf ∈ zz_all := zz_m4 229 rfl rfl
theorem tw_371 : Cond.selects RX8 yX8_fieldOf yX8_fieldOf ∈ zz_all := zz_m4 230 rfl rfl
theorem tw_372 : Cond.code yX7_owes cX7_owes 3 (some .int) ∈ zz_all := zz_m3 57 rfl rfl
theorem tw_373 : Cond.methodLink RL 76 yX7_owes ∈ zz_all := zz_m3 54 rfl rfl
theorem tw_374 : Cond.instanceMethod yX7_owes ∈ zz_all := zz_m3 55 rfl rfl
theorem tw_375 : Cond.selects RX7 yX7_owes yX7_owes ∈ zz_all := zz_m3 56 rfl rfl
theorem tw_376 : Cond.code yX8_owes cX8_owes 3 (some .int) ∈ zz_all := zz_m4 235 rfl rfl
theorem tw_377 : Cond.methodLink RL 79 yX8_owes ∈ zz_all := zz_m4 232 rfl rfl
theorem tw_378 : Cond.instanceMethod yX8_owes ∈ zz_all := zz_m4 233 rfl rfl
theorem tw_379 : Cond.selects RX8 yX8_owes yX8_owes ∈ zz_all := zz_m4 234 rfl rfl
theorem tw_380 : Cond.code yX7_oldest cX7_oldest 3 (some .int) ∈ zz_all := zz_m3 69 rfl rfl
theorem tw_381 : Cond.methodLink RL 80 yX7_oldest ∈ zz_all := zz_m3 66 rfl rfl
theorem tw_382 : Cond.instanceMethod yX7_oldest ∈ zz_all := zz_m3 67 rfl rfl
theorem tw_383 : Cond.selects RX7 yX7_oldest yX7_oldest ∈ zz_all := zz_m3 68 rfl rfl
theorem tw_384 : Cond.code yX8_oldest cX8_oldest 4 (some .int) ∈ zz_all := zz_m5 3 rfl rfl
theorem tw_385 : Cond.methodLink RL 83 yX8_oldest ∈ zz_all := zz_m5 0 rfl rfl
theorem tw_386 : Cond.instanceMethod yX8_oldest ∈ zz_all := zz_m5 1 rfl rfl
theorem tw_387 : Cond.selects RX8 yX8_oldest yX8_oldest ∈ zz_all := zz_m5 2 rfl rfl
theorem tw_388 : Cond.code yX7_payments cX7_payments 1 (some .int) ∈ zz_all := zz_m3 77 rfl rfl
theorem tw_389 : Cond.methodLink RL 84 yX7_payments ∈ zz_all := zz_m3 74 rfl rfl
theorem tw_390 : Cond.instanceMethod yX7_payments ∈ zz_all := zz_m3 75 rfl rfl
theorem tw_391 : Cond.selects RX7 yX7_payments yX7_payments ∈ zz_all := zz_m3 76 rfl rfl
theorem tw_392 : Cond.code yX8_payments cX8_payments 1 (some .int) ∈ zz_all := zz_m5 7 rfl rfl
theorem tw_393 : Cond.methodLink RL 87 yX8_payments ∈ zz_all := zz_m5 4 rfl rfl
theorem tw_394 : Cond.instanceMethod yX8_payments ∈ zz_all := zz_m5 5 rfl rfl
theorem tw_395 : Cond.selects RX8 yX8_payments yX8_payments ∈ zz_all := zz_m5 6 rfl rfl
theorem tw_396 : Cond.code yX7_payment cX7_payment 3 (some .int) ∈ zz_all := zz_m3 112 rfl rfl
theorem tw_397 : Cond.methodLink RL 88 yX7_payment ∈ zz_all := zz_m3 109 rfl rfl
theorem tw_398 : Cond.instanceMethod yX7_payment ∈ zz_all := zz_m3 110 rfl rfl
theorem tw_399 : Cond.selects RX7 yX7_payment yX7_payment ∈ zz_all := zz_m3 111 rfl rfl
theorem tw_400 : Cond.code yX8_payment cX8_payment 3 (some .int) ∈ zz_all := zz_m5 34 rfl rfl
theorem tw_401 : Cond.methodLink RL 91 yX8_payment ∈ zz_all := zz_m5 31 rfl rfl
theorem tw_402 : Cond.instanceMethod yX8_payment ∈ zz_all := zz_m5 32 rfl rfl
theorem tw_403 : Cond.selects RX8 yX8_payment yX8_payment ∈ zz_all := zz_m5 33 rfl rfl
theorem tw_404 : Cond.code yX7_even cX7_even 2 (some .int) ∈ zz_all := zz_m3 116 rfl rfl
theorem tw_405 : Cond.methodLink RL 92 yX7_even ∈ zz_all := zz_m3 113 rfl rfl
theorem tw_406 : Cond.instanceMethod yX7_even ∈ zz_all := zz_m3 114 rfl rfl
theorem tw_407 : Cond.selects RX7 yX7_even yX7_even ∈ zz_all := zz_m3 115 rfl rfl
theorem tw_408 : Cond.code yX8_even cX8_even 1 (some .int) ∈ zz_all := zz_m5 38 rfl rfl
theorem tw_409 : Cond.methodLink RL 95 yX8_even ∈ zz_all := zz_m5 35 rfl rfl
theorem tw_410 : Cond.instanceMethod yX8_even ∈ zz_all := zz_m5 36 rfl rfl
theorem tw_411 : Cond.selects RX8 yX8_even yX8_even ∈ zz_all := zz_m5 37 rfl rfl
theorem tw_412 : Cond.code yX7_plan cX7_plan 3 (some .int) ∈ zz_all := zz_m3 120 rfl rfl
theorem tw_413 : Cond.methodLink RL 96 yX7_plan ∈ zz_all := zz_m3 117 rfl rfl
theorem tw_414 : Cond.instanceMethod yX7_plan ∈ zz_all := zz_m3 118 rfl rfl
theorem tw_415 : Cond.selects RX7 yX7_plan yX7_plan ∈ zz_all := zz_m3 119 rfl rfl
theorem tw_416 : Cond.code yX8_plan cX8_plan 7 (some .int) ∈ zz_all := zz_m5 42 rfl rfl
theorem tw_417 : Cond.methodLink RL 99 yX8_plan ∈ zz_all := zz_m5 39 rfl rfl
theorem tw_418 : Cond.instanceMethod yX8_plan ∈ zz_all := zz_m5 40 rfl rfl
theorem tw_419 : Cond.selects RX8 yX8_plan yX8_plan ∈ zz_all := zz_m5 41 rfl rfl
theorem tw_420 : Cond.code yX7_planned cX7_planned 2 (some .int) ∈ zz_all := zz_m3 154 rfl rfl
theorem tw_421 : Cond.methodLink RL 100 yX7_planned ∈ zz_all := zz_m3 151 rfl rfl
theorem tw_422 : Cond.instanceMethod yX7_planned ∈ zz_all := zz_m3 152 rfl rfl
theorem tw_423 : Cond.selects RX7 yX7_planned yX7_planned ∈ zz_all := zz_m3 153 rfl rfl
theorem tw_424 : Cond.code yX8_planned cX8_planned 2 (some .int) ∈ zz_all := zz_m5 59 rfl rfl
theorem tw_425 : Cond.methodLink RL 103 yX8_planned ∈ zz_all := zz_m5 56 rfl rfl
theorem tw_426 : Cond.instanceMethod yX8_planned ∈ zz_all := zz_m5 57 rfl rfl
theorem tw_427 : Cond.selects RX8 yX8_planned yX8_planned ∈ zz_all := zz_m5 58 rfl rfl
theorem tw_428 : Cond.code yX7_about cX7_about 2 (some .int) ∈ zz_all := zz_m3 158 rfl rfl
theorem tw_429 : Cond.methodLink RL 104 yX7_about ∈ zz_all := zz_m3 155 rfl rfl
theorem tw_430 : Cond.instanceMethod yX7_about ∈ zz_all := zz_m3 156 rfl rfl
theorem tw_431 : Cond.selects RX7 yX7_about yX7_about ∈ zz_all := zz_m3 157 rfl rfl
theorem tw_432 : Cond.code yX8_about cX8_about 2 (some .int) ∈ zz_all := zz_m5 63 rfl rfl
theorem tw_433 : Cond.methodLink RL 107 yX8_about ∈ zz_all := zz_m5 60 rfl rfl
theorem tw_434 : Cond.instanceMethod yX8_about ∈ zz_all := zz_m5 61 rfl rfl
theorem tw_435 : Cond.selects RX8 yX8_about yX8_about ∈ zz_all := zz_m5 62 rfl rfl
theorem dL_law_535 : decode cL_law 535 = .ok (.aload_n 1, 1) := by decide +kernel
theorem dL_law_536 : decode cL_law 536 = .ok (.aload_n 0, 1) := by decide +kernel
theorem dL_law_537 : decode cL_law 537 = .ok (.iload_n 3, 1) := by decide +kernel
theorem dL_law_538 : decode cL_law 538 = .ok (.iconst 1, 1) := by decide +kernel
theorem dL_law_539 : decode cL_law 539 = .ok (.iadd, 1) := by decide +kernel
theorem dL_law_540 : decode cL_law 540 = .ok (.iaload, 1) := by decide +kernel
theorem dL_law_541 : decode cL_law 541 = .ok (.invokevirtual 64, 3) := by decide +kernel
theorem dL_law_544 : decode cL_law 544 = .ok (.aload_n 2, 1) := by decide +kernel
theorem dL_law_545 : decode cL_law 545 = .ok (.aload_n 0, 1) := by decide +kernel
theorem dL_law_546 : decode cL_law 546 = .ok (.iload_n 3, 1) := by decide +kernel
theorem dL_law_547 : decode cL_law 547 = .ok (.iconst 1, 1) := by decide +kernel
theorem dL_law_548 : decode cL_law 548 = .ok (.iadd, 1) := by decide +kernel
theorem dL_law_549 : decode cL_law 549 = .ok (.iaload, 1) := by decide +kernel
theorem dL_law_550 : decode cL_law 550 = .ok (.invokevirtual 67, 3) := by decide +kernel
theorem dL_law_553 : decode cL_law 553 = .ok (.if_icmp .eq 265, 3) := by decide +kernel
theorem dL_law_558 : decode cL_law 558 = .ok (.aload_n 1, 1) := by decide +kernel
theorem dL_law_559 : decode cL_law 559 = .ok (.aload_n 0, 1) := by decide +kernel
theorem dL_law_560 : decode cL_law 560 = .ok (.iload_n 3, 1) := by decide +kernel
theorem dL_law_561 : decode cL_law 561 = .ok (.iconst 1, 1) := by decide +kernel
theorem dL_law_562 : decode cL_law 562 = .ok (.iadd, 1) := by decide +kernel
theorem dL_law_563 : decode cL_law 563 = .ok (.iaload, 1) := by decide +kernel
theorem dL_law_564 : decode cL_law 564 = .ok (.aload_n 0, 1) := by decide +kernel
theorem dL_law_565 : decode cL_law 565 = .ok (.iload_n 3, 1) := by decide +kernel
theorem dL_law_566 : decode cL_law 566 = .ok (.iconst 2, 1) := by decide +kernel
theorem dL_law_567 : decode cL_law 567 = .ok (.iadd, 1) := by decide +kernel
theorem dL_law_568 : decode cL_law 568 = .ok (.iaload, 1) := by decide +kernel
theorem dL_law_569 : decode cL_law 569 = .ok (.invokevirtual 68, 3) := by decide +kernel
theorem dL_law_572 : decode cL_law 572 = .ok (.aload_n 2, 1) := by decide +kernel
theorem dL_law_573 : decode cL_law 573 = .ok (.aload_n 0, 1) := by decide +kernel
theorem dL_law_574 : decode cL_law 574 = .ok (.iload_n 3, 1) := by decide +kernel
theorem dL_law_575 : decode cL_law 575 = .ok (.iconst 1, 1) := by decide +kernel
theorem dL_law_576 : decode cL_law 576 = .ok (.iadd, 1) := by decide +kernel
theorem dL_law_577 : decode cL_law 577 = .ok (.iaload, 1) := by decide +kernel
theorem dL_law_578 : decode cL_law 578 = .ok (.aload_n 0, 1) := by decide +kernel
theorem dL_law_579 : decode cL_law 579 = .ok (.iload_n 3, 1) := by decide +kernel
theorem dL_law_580 : decode cL_law 580 = .ok (.iconst 2, 1) := by decide +kernel
theorem dL_law_581 : decode cL_law 581 = .ok (.iadd, 1) := by decide +kernel
theorem dL_law_582 : decode cL_law 582 = .ok (.iaload, 1) := by decide +kernel
theorem dL_law_583 : decode cL_law 583 = .ok (.invokevirtual 71, 3) := by decide +kernel
theorem dL_law_586 : decode cL_law 586 = .ok (.if_icmp .eq 232, 3) := by decide +kernel
theorem dL_law_591 : decode cL_law 591 = .ok (.aload_n 1, 1) := by decide +kernel
theorem dL_law_592 : decode cL_law 592 = .ok (.aload_n 0, 1) := by decide +kernel
theorem dL_law_593 : decode cL_law 593 = .ok (.iload_n 3, 1) := by decide +kernel
theorem dL_law_594 : decode cL_law 594 = .ok (.iconst 1, 1) := by decide +kernel
theorem dL_law_595 : decode cL_law 595 = .ok (.iadd, 1) := by decide +kernel
theorem dL_law_596 : decode cL_law 596 = .ok (.iaload, 1) := by decide +kernel
theorem dL_law_597 : decode cL_law 597 = .ok (.aload_n 0, 1) := by decide +kernel
theorem dL_law_598 : decode cL_law 598 = .ok (.iload_n 3, 1) := by decide +kernel
theorem dL_law_599 : decode cL_law 599 = .ok (.iconst 2, 1) := by decide +kernel
theorem dL_law_600 : decode cL_law 600 = .ok (.iadd, 1) := by decide +kernel
theorem dL_law_601 : decode cL_law 601 = .ok (.iaload, 1) := by decide +kernel
theorem dL_law_602 : decode cL_law 602 = .ok (.invokevirtual 72, 3) := by decide +kernel
theorem dL_law_605 : decode cL_law 605 = .ok (.aload_n 2, 1) := by decide +kernel
theorem dL_law_606 : decode cL_law 606 = .ok (.aload_n 0, 1) := by decide +kernel
theorem dL_law_607 : decode cL_law 607 = .ok (.iload_n 3, 1) := by decide +kernel
theorem dL_law_608 : decode cL_law 608 = .ok (.iconst 1, 1) := by decide +kernel
theorem dL_law_609 : decode cL_law 609 = .ok (.iadd, 1) := by decide +kernel
theorem dL_law_610 : decode cL_law 610 = .ok (.iaload, 1) := by decide +kernel
theorem dL_law_611 : decode cL_law 611 = .ok (.aload_n 0, 1) := by decide +kernel
theorem dL_law_612 : decode cL_law 612 = .ok (.iload_n 3, 1) := by decide +kernel
theorem dL_law_613 : decode cL_law 613 = .ok (.iconst 2, 1) := by decide +kernel
theorem dL_law_614 : decode cL_law 614 = .ok (.iadd, 1) := by decide +kernel
theorem dL_law_615 : decode cL_law 615 = .ok (.iaload, 1) := by decide +kernel
theorem dL_law_616 : decode cL_law 616 = .ok (.invokevirtual 75, 3) := by decide +kernel
theorem dL_law_619 : decode cL_law 619 = .ok (.if_icmp .eq 199, 3) := by decide +kernel
theorem dL_law_624 : decode cL_law 624 = .ok (.aload_n 1, 1) := by decide +kernel
theorem dL_law_625 : decode cL_law 625 = .ok (.aload_n 0, 1) := by decide +kernel
theorem dL_law_626 : decode cL_law 626 = .ok (.iload_n 3, 1) := by decide +kernel
theorem dL_law_627 : decode cL_law 627 = .ok (.iconst 1, 1) := by decide +kernel
theorem dL_law_628 : decode cL_law 628 = .ok (.iadd, 1) := by decide +kernel
theorem dL_law_629 : decode cL_law 629 = .ok (.iaload, 1) := by decide +kernel
theorem dL_law_630 : decode cL_law 630 = .ok (.aload_n 0, 1) := by decide +kernel
theorem dL_law_631 : decode cL_law 631 = .ok (.iload_n 3, 1) := by decide +kernel
theorem dL_law_632 : decode cL_law 632 = .ok (.iconst 2, 1) := by decide +kernel
theorem dL_law_633 : decode cL_law 633 = .ok (.iadd, 1) := by decide +kernel
theorem dL_law_634 : decode cL_law 634 = .ok (.iaload, 1) := by decide +kernel
theorem dL_law_635 : decode cL_law 635 = .ok (.invokevirtual 76, 3) := by decide +kernel
theorem dL_law_638 : decode cL_law 638 = .ok (.aload_n 2, 1) := by decide +kernel
theorem dL_law_639 : decode cL_law 639 = .ok (.aload_n 0, 1) := by decide +kernel
theorem dL_law_640 : decode cL_law 640 = .ok (.iload_n 3, 1) := by decide +kernel
theorem dL_law_641 : decode cL_law 641 = .ok (.iconst 1, 1) := by decide +kernel
theorem dL_law_642 : decode cL_law 642 = .ok (.iadd, 1) := by decide +kernel
theorem dL_law_643 : decode cL_law 643 = .ok (.iaload, 1) := by decide +kernel
theorem dL_law_644 : decode cL_law 644 = .ok (.aload_n 0, 1) := by decide +kernel
theorem dL_law_645 : decode cL_law 645 = .ok (.iload_n 3, 1) := by decide +kernel
theorem dL_law_646 : decode cL_law 646 = .ok (.iconst 2, 1) := by decide +kernel
theorem dL_law_647 : decode cL_law 647 = .ok (.iadd, 1) := by decide +kernel
theorem dL_law_648 : decode cL_law 648 = .ok (.iaload, 1) := by decide +kernel
theorem dL_law_649 : decode cL_law 649 = .ok (.invokevirtual 79, 3) := by decide +kernel
theorem dL_law_652 : decode cL_law 652 = .ok (.if_icmp .eq 166, 3) := by decide +kernel
theorem dL_law_657 : decode cL_law 657 = .ok (.aload_n 1, 1) := by decide +kernel
theorem dL_law_658 : decode cL_law 658 = .ok (.aload_n 0, 1) := by decide +kernel
theorem dL_law_659 : decode cL_law 659 = .ok (.iload_n 3, 1) := by decide +kernel
theorem dL_law_660 : decode cL_law 660 = .ok (.iconst 1, 1) := by decide +kernel
theorem dL_law_661 : decode cL_law 661 = .ok (.iadd, 1) := by decide +kernel
theorem dL_law_662 : decode cL_law 662 = .ok (.iaload, 1) := by decide +kernel
theorem dL_law_663 : decode cL_law 663 = .ok (.aload_n 0, 1) := by decide +kernel
theorem dL_law_664 : decode cL_law 664 = .ok (.iload_n 3, 1) := by decide +kernel
theorem dL_law_665 : decode cL_law 665 = .ok (.iconst 2, 1) := by decide +kernel
theorem dL_law_666 : decode cL_law 666 = .ok (.iadd, 1) := by decide +kernel
theorem dL_law_667 : decode cL_law 667 = .ok (.iaload, 1) := by decide +kernel
theorem dL_law_668 : decode cL_law 668 = .ok (.invokevirtual 80, 3) := by decide +kernel
theorem dL_law_671 : decode cL_law 671 = .ok (.aload_n 2, 1) := by decide +kernel
theorem dL_law_672 : decode cL_law 672 = .ok (.aload_n 0, 1) := by decide +kernel
theorem dL_law_673 : decode cL_law 673 = .ok (.iload_n 3, 1) := by decide +kernel
theorem dL_law_674 : decode cL_law 674 = .ok (.iconst 1, 1) := by decide +kernel
theorem dL_law_675 : decode cL_law 675 = .ok (.iadd, 1) := by decide +kernel
theorem dL_law_676 : decode cL_law 676 = .ok (.iaload, 1) := by decide +kernel
theorem dL_law_677 : decode cL_law 677 = .ok (.aload_n 0, 1) := by decide +kernel
theorem dL_law_678 : decode cL_law 678 = .ok (.iload_n 3, 1) := by decide +kernel
theorem dL_law_679 : decode cL_law 679 = .ok (.iconst 2, 1) := by decide +kernel
theorem dL_law_680 : decode cL_law 680 = .ok (.iadd, 1) := by decide +kernel
theorem dL_law_681 : decode cL_law 681 = .ok (.iaload, 1) := by decide +kernel
theorem dL_law_682 : decode cL_law 682 = .ok (.invokevirtual 83, 3) := by decide +kernel
theorem dL_law_685 : decode cL_law 685 = .ok (.if_icmp .eq 133, 3) := by decide +kernel
theorem dL_law_690 : decode cL_law 690 = .ok (.aload_n 1, 1) := by decide +kernel
theorem dL_law_691 : decode cL_law 691 = .ok (.invokevirtual 84, 3) := by decide +kernel
theorem dL_law_694 : decode cL_law 694 = .ok (.aload_n 2, 1) := by decide +kernel
theorem dL_law_695 : decode cL_law 695 = .ok (.invokevirtual 87, 3) := by decide +kernel
theorem dL_law_698 : decode cL_law 698 = .ok (.if_icmp .eq 120, 3) := by decide +kernel
theorem dL_law_703 : decode cL_law 703 = .ok (.aload_n 1, 1) := by decide +kernel
theorem dL_law_704 : decode cL_law 704 = .ok (.aload_n 0, 1) := by decide +kernel
theorem dL_law_705 : decode cL_law 705 = .ok (.iload_n 3, 1) := by decide +kernel
theorem dL_law_706 : decode cL_law 706 = .ok (.iconst 1, 1) := by decide +kernel
theorem dL_law_707 : decode cL_law 707 = .ok (.iadd, 1) := by decide +kernel
theorem dL_law_708 : decode cL_law 708 = .ok (.iaload, 1) := by decide +kernel
theorem dL_law_709 : decode cL_law 709 = .ok (.aload_n 0, 1) := by decide +kernel
theorem dL_law_710 : decode cL_law 710 = .ok (.iload_n 3, 1) := by decide +kernel
theorem dL_law_711 : decode cL_law 711 = .ok (.iconst 2, 1) := by decide +kernel
theorem dL_law_712 : decode cL_law 712 = .ok (.iadd, 1) := by decide +kernel
theorem dL_law_713 : decode cL_law 713 = .ok (.iaload, 1) := by decide +kernel
theorem dL_law_714 : decode cL_law 714 = .ok (.invokevirtual 88, 3) := by decide +kernel
theorem dL_law_717 : decode cL_law 717 = .ok (.aload_n 2, 1) := by decide +kernel
theorem dL_law_718 : decode cL_law 718 = .ok (.aload_n 0, 1) := by decide +kernel
theorem dL_law_719 : decode cL_law 719 = .ok (.iload_n 3, 1) := by decide +kernel
theorem dL_law_720 : decode cL_law 720 = .ok (.iconst 1, 1) := by decide +kernel
theorem dL_law_721 : decode cL_law 721 = .ok (.iadd, 1) := by decide +kernel
theorem dL_law_722 : decode cL_law 722 = .ok (.iaload, 1) := by decide +kernel
theorem dL_law_723 : decode cL_law 723 = .ok (.aload_n 0, 1) := by decide +kernel
theorem dL_law_724 : decode cL_law 724 = .ok (.iload_n 3, 1) := by decide +kernel
theorem dL_law_725 : decode cL_law 725 = .ok (.iconst 2, 1) := by decide +kernel
theorem dL_law_726 : decode cL_law 726 = .ok (.iadd, 1) := by decide +kernel
theorem dL_law_727 : decode cL_law 727 = .ok (.iaload, 1) := by decide +kernel
theorem dL_law_728 : decode cL_law 728 = .ok (.invokevirtual 91, 3) := by decide +kernel
theorem dL_law_731 : decode cL_law 731 = .ok (.if_icmp .eq 87, 3) := by decide +kernel
theorem dL_law_736 : decode cL_law 736 = .ok (.aload_n 1, 1) := by decide +kernel
theorem dL_law_737 : decode cL_law 737 = .ok (.invokevirtual 92, 3) := by decide +kernel
theorem dL_law_740 : decode cL_law 740 = .ok (.aload_n 2, 1) := by decide +kernel
theorem dL_law_741 : decode cL_law 741 = .ok (.invokevirtual 95, 3) := by decide +kernel
theorem dL_law_744 : decode cL_law 744 = .ok (.if_icmp .eq 74, 3) := by decide +kernel
theorem dL_law_749 : decode cL_law 749 = .ok (.aload_n 1, 1) := by decide +kernel
theorem dL_law_750 : decode cL_law 750 = .ok (.aload_n 0, 1) := by decide +kernel
theorem dL_law_751 : decode cL_law 751 = .ok (.iload_n 3, 1) := by decide +kernel
theorem dL_law_752 : decode cL_law 752 = .ok (.iconst 1, 1) := by decide +kernel
theorem dL_law_753 : decode cL_law 753 = .ok (.iadd, 1) := by decide +kernel
theorem dL_law_754 : decode cL_law 754 = .ok (.iaload, 1) := by decide +kernel
theorem dL_law_755 : decode cL_law 755 = .ok (.invokevirtual 96, 3) := by decide +kernel
theorem dL_law_758 : decode cL_law 758 = .ok (.aload_n 2, 1) := by decide +kernel
theorem dL_law_759 : decode cL_law 759 = .ok (.aload_n 0, 1) := by decide +kernel
theorem dL_law_760 : decode cL_law 760 = .ok (.iload_n 3, 1) := by decide +kernel
theorem dL_law_761 : decode cL_law 761 = .ok (.iconst 1, 1) := by decide +kernel
theorem dL_law_762 : decode cL_law 762 = .ok (.iadd, 1) := by decide +kernel
theorem dL_law_763 : decode cL_law 763 = .ok (.iaload, 1) := by decide +kernel
theorem dL_law_764 : decode cL_law 764 = .ok (.invokevirtual 99, 3) := by decide +kernel
theorem dL_law_767 : decode cL_law 767 = .ok (.if_icmp .eq 51, 3) := by decide +kernel
theorem dL_law_772 : decode cL_law 772 = .ok (.aload_n 1, 1) := by decide +kernel
theorem dL_law_773 : decode cL_law 773 = .ok (.aload_n 0, 1) := by decide +kernel
theorem dL_law_774 : decode cL_law 774 = .ok (.iload_n 3, 1) := by decide +kernel
theorem dL_law_775 : decode cL_law 775 = .ok (.iconst 1, 1) := by decide +kernel
theorem dL_law_776 : decode cL_law 776 = .ok (.iadd, 1) := by decide +kernel
theorem dL_law_777 : decode cL_law 777 = .ok (.iaload, 1) := by decide +kernel
theorem dL_law_778 : decode cL_law 778 = .ok (.invokevirtual 100, 3) := by decide +kernel
theorem dL_law_781 : decode cL_law 781 = .ok (.aload_n 2, 1) := by decide +kernel
theorem dL_law_782 : decode cL_law 782 = .ok (.aload_n 0, 1) := by decide +kernel
theorem dL_law_783 : decode cL_law 783 = .ok (.iload_n 3, 1) := by decide +kernel
theorem dL_law_784 : decode cL_law 784 = .ok (.iconst 1, 1) := by decide +kernel
theorem dL_law_785 : decode cL_law 785 = .ok (.iadd, 1) := by decide +kernel
theorem dL_law_786 : decode cL_law 786 = .ok (.iaload, 1) := by decide +kernel
theorem dL_law_787 : decode cL_law 787 = .ok (.invokevirtual 103, 3) := by decide +kernel
theorem dL_law_790 : decode cL_law 790 = .ok (.if_icmp .eq 28, 3) := by decide +kernel
theorem dL_law_795 : decode cL_law 795 = .ok (.aload_n 1, 1) := by decide +kernel
theorem dL_law_796 : decode cL_law 796 = .ok (.aload_n 0, 1) := by decide +kernel
theorem dL_law_797 : decode cL_law 797 = .ok (.iload_n 3, 1) := by decide +kernel
theorem dL_law_798 : decode cL_law 798 = .ok (.iconst 1, 1) := by decide +kernel
theorem dL_law_799 : decode cL_law 799 = .ok (.iadd, 1) := by decide +kernel
theorem dL_law_800 : decode cL_law 800 = .ok (.iaload, 1) := by decide +kernel
theorem dL_law_801 : decode cL_law 801 = .ok (.invokevirtual 104, 3) := by decide +kernel
theorem dL_law_804 : decode cL_law 804 = .ok (.aload_n 2, 1) := by decide +kernel
theorem dL_law_805 : decode cL_law 805 = .ok (.aload_n 0, 1) := by decide +kernel
theorem dL_law_806 : decode cL_law 806 = .ok (.iload_n 3, 1) := by decide +kernel
theorem dL_law_807 : decode cL_law 807 = .ok (.iconst 1, 1) := by decide +kernel
theorem dL_law_808 : decode cL_law 808 = .ok (.iadd, 1) := by decide +kernel
theorem dL_law_809 : decode cL_law 809 = .ok (.iaload, 1) := by decide +kernel
theorem dL_law_810 : decode cL_law 810 = .ok (.invokevirtual 107, 3) := by decide +kernel
theorem dL_law_813 : decode cL_law 813 = .ok (.if_icmp .eq 5, 3) := by decide +kernel
set_option maxHeartbeats 4000000 in
set_option maxRecDepth 100000 in
theorem lc_days {p : Program} {e : Env} {s : State} {m : MethodId} {below : List Frame} {meth : Method} {c : Code} (l : Launch) {sb L : Nat} {xs : Nat → Int32} (hL6 : L = 6) (C0 : lw_At p s m meth c sb L xs) {dC : Nat → ClassId} {dI : Nat → Nat → Nat} (hN : zz_N s) (a : Nat → Nat) (b : Nat → Nat) {H : Heap} {locs : List Loc} {ls : Array Slot} (hK : va_K (dC, dI) vwCl [] s) (hP : va_P (dC, dI) vwCl [(a 0, .inr (7, [.ref (a 1), .ref (a 10), .ref (a 23), .ref (a 24), .ref (a 26), .ref (a 29), .ref (a 34), .ref (a 43), .int 0, .int 0, .int 0, .int 0])), (a 29, .inr (1, [.ref (a 30), .ref (a 31), .ref (a 32), .ref (a 33), .int 0])), (b 0, .inr (8, [.ref (b 1), .int 0, .int 0, .int 0, .int 0, .int 0, .int 0, .int 0, .int (-1), .int (-1), .ref (b 11), .ref (b 12), .ref (b 13), .int 0, .int 0, .ref (b 16), .ref (b 17), .ref (b 18), .ref (b 19), .ref (b 20), .ref (b 21), .ref (b 22), .ref (b 23), .ref (b 24), .int 0, .ref (b 26), .ref (b 27), .ref (b 28), .ref (b 29), .ref (b 30), .ref (b 31), .ref (b 32), .int 0, .int 0, .ref (b 35), .ref (b 36), .ref (b 37), .ref (b 38), .ref (b 39), .ref (b 40), .int 0, .ref (b 42), .ref (b 43), .ref (b 44), .int 0, .ref (b 46), .ref (b 47), .int 0, .ref (b 49)]))] H) (hD : va_D (fun q : Nat => s.heap.size ≤ q) [(a 0, .inr (7, [.ref (a 1), .ref (a 10), .ref (a 23), .ref (a 24), .ref (a 26), .ref (a 29), .ref (a 34), .ref (a 43), .int 0, .int 0, .int 0, .int 0])), (a 29, .inr (1, [.ref (a 30), .ref (a 31), .ref (a 32), .ref (a 33), .int 0])), (b 0, .inr (8, [.ref (b 1), .int 0, .int 0, .int 0, .int 0, .int 0, .int 0, .int 0, .int (-1), .int (-1), .ref (b 11), .ref (b 12), .ref (b 13), .int 0, .int 0, .ref (b 16), .ref (b 17), .ref (b 18), .ref (b 19), .ref (b 20), .ref (b 21), .ref (b 22), .ref (b 23), .ref (b 24), .int 0, .ref (b 26), .ref (b 27), .ref (b 28), .ref (b 29), .ref (b 30), .ref (b 31), .ref (b 32), .int 0, .int 0, .ref (b 35), .ref (b 36), .ref (b 37), .ref (b 38), .ref (b 39), .ref (b 40), .int 0, .ref (b 42), .ref (b 43), .ref (b 44), .int 0, .ref (b 46), .ref (b 47), .int 0, .ref (b 49)]))]) (hS : va_S (fun q : Nat => s.heap.size ≤ q) s.heap H locs) (hl : lv_has ls 4 [(3, .int 0), (2, .ref (b 0)), (1, .ref (a 0)), (0, .ref sb)]) : W p l e room_1 s m #[Value.ref sb] below meth c H locs 85 4448 (lw_Z below #[Value.ref sb] s) (F0 m 535 ls []) := by
  obtain ⟨hx, hb, hr, hml, hown, hts, hX, hbl, hlocks, hgv⟩ := id C0
  have hw : ∀ w ∈ zz_all, w.before #[Value.ref sb] s = true := fun w h => hts w (zz_in_tbl h)
  have hown : s.vm.findClass RL = some m.cls := hown
  have hA : ∀ q : Nat, s.heap.size ≤ q → (fun q : Nat => s.heap.size ≤ q) q := fun _ h => h
  have hbA : ¬ (fun q : Nat => s.heap.size ≤ q) sb := Nat.not_le.mpr hbl
  refine lv_aload_n hx hb dL_law_535 rfl (lv_at hl 2 rfl) ?_
  refine lv_aload_n hx hb dL_law_536 rfl (lv_at hl 3 rfl) ?_
  refine lv_iload_n hx hb dL_law_537 rfl (lv_at hl 0 rfl) ?_
  refine lv_iconst (v := 1) hx hb dL_law_538 (by decide) ?_
  refine lv_iadd hx hb dL_law_539 ?_
  refine zz_seti 1 (by decide) ?_
  refine va_sld hx hb hX hbl hbA hS (by rw [hL6]; exact zz_vin (by decide)) dL_law_540 ?_
  have hPc := hP.sub (ws' := [(a 0, .inr (7, [.ref (a 1), .ref (a 10), .ref (a 23), .ref (a 24), .ref (a 26), .ref (a 29), .ref (a 34), .ref (a 43), .int 0, .int 0, .int 0, .int 0])), (a 29, .inr (1, [.ref (a 30), .ref (a 31), .ref (a 32), .ref (a 33), .int 0]))]) [0, 1] rfl
  have hDc := hD.sub (ws' := [(a 0, .inr (7, [.ref (a 1), .ref (a 10), .ref (a 23), .ref (a 24), .ref (a 26), .ref (a 29), .ref (a 34), .ref (a 43), .int 0, .int 0, .int 0, .int 0])), (a 29, .inr (1, [.ref (a 30), .ref (a 31), .ref (a 32), .ref (a 33), .int 0]))]) [0, 1] (by decide) rfl
  have hKc := hK.sub (tys' := []) [] rfl
  have hFc := va_free (wc := [(a 0, .inr (7, [.ref (a 1), .ref (a 10), .ref (a 23), .ref (a 24), .ref (a 26), .ref (a 29), .ref (a 34), .ref (a 43), .int 0, .int 0, .int 0, .int 0])), (a 29, .inr (1, [.ref (a 30), .ref (a 31), .ref (a 32), .ref (a 33), .int 0]))]) hD hS hA [0, 1] rfl
  refine va_calli (va_runV (As := [.int (xs (Int32.toNatClampNeg 1))]) (rest := []) ⟨hx, hb, hml, hown, hw⟩ (k_days l dC dI a (xs (Int32.toNatClampNeg 1)) H.size) ⟨callB_of 1 hw (zz_good tw_348) rfl rfl rfl (hw _ tw_2) (hw _ tw_349) (by decide +kernel) ⟨Nat.le_of_ble_eq_true rfl, Nat.le_of_ble_eq_true rfl⟩, (hw _ tw_350), (hw _ tw_351)⟩ ⟨zz_blind, va_recv hKc hPc (ci := 7) (q0 := 0) rfl rfl, zz_pre hPc hKc hDc hN⟩ rfl rfl hl.1 rfl (lv_room (Nat.le_of_ble_eq_true rfl)) dL_law_541 ⟨Nat.le_of_ble_eq_true rfl, Nat.le_of_ble_eq_true rfl⟩) hS (fun q _ h => hFc q h) hFc (fun r_1 u_1 t H1 locs ht hvm e_1 hB hz1 hk1 hS => ?_)
  try dsimp only at e_1
  have hP1 : va_P (dC, dI) vwCl [] H1 := zz_P0
  have hD1 : va_D (va_A [(a 0, .inr (7, [.ref (a 1), .ref (a 10), .ref (a 23), .ref (a 24), .ref (a 26), .ref (a 29), .ref (a 34), .ref (a 43), .int 0, .int 0, .int 0, .int 0])), (a 29, .inr (1, [.ref (a 30), .ref (a 31), .ref (a 32), .ref (a 33), .int 0]))] H.size) [] := zz_D0
  obtain ⟨hP, hD⟩ := va_join (wr := [(b 0, .inr (8, [.ref (b 1), .int 0, .int 0, .int 0, .int 0, .int 0, .int 0, .int 0, .int (-1), .int (-1), .ref (b 11), .ref (b 12), .ref (b 13), .int 0, .int 0, .ref (b 16), .ref (b 17), .ref (b 18), .ref (b 19), .ref (b 20), .ref (b 21), .ref (b 22), .ref (b 23), .ref (b 24), .int 0, .ref (b 26), .ref (b 27), .ref (b 28), .ref (b 29), .ref (b 30), .ref (b 31), .ref (b 32), .int 0, .int 0, .ref (b 35), .ref (b 36), .ref (b 37), .ref (b 38), .ref (b 39), .ref (b 40), .int 0, .ref (b 42), .ref (b 43), .ref (b 44), .int 0, .ref (b 46), .ref (b 47), .int 0, .ref (b 49)]))]) (w1 := []) hP hD [0, 1] [2] rfl rfl (by decide) (by decide) hk1 hFc hP1 hD1
  clear hk1 ht hvm
  generalize H1 = H at hP hS ⊢
  have hP : va_P (dC, dI) vwCl [(b 0, .inr (8, [.ref (b 1), .int 0, .int 0, .int 0, .int 0, .int 0, .int 0, .int 0, .int (-1), .int (-1), .ref (b 11), .ref (b 12), .ref (b 13), .int 0, .int 0, .ref (b 16), .ref (b 17), .ref (b 18), .ref (b 19), .ref (b 20), .ref (b 21), .ref (b 22), .ref (b 23), .ref (b 24), .int 0, .ref (b 26), .ref (b 27), .ref (b 28), .ref (b 29), .ref (b 30), .ref (b 31), .ref (b 32), .int 0, .int 0, .ref (b 35), .ref (b 36), .ref (b 37), .ref (b 38), .ref (b 39), .ref (b 40), .int 0, .ref (b 42), .ref (b 43), .ref (b 44), .int 0, .ref (b 46), .ref (b 47), .int 0, .ref (b 49)]))] H := hP
  have hD : va_D (fun q : Nat => s.heap.size ≤ q) [(b 0, .inr (8, [.ref (b 1), .int 0, .int 0, .int 0, .int 0, .int 0, .int 0, .int 0, .int (-1), .int (-1), .ref (b 11), .ref (b 12), .ref (b 13), .int 0, .int 0, .ref (b 16), .ref (b 17), .ref (b 18), .ref (b 19), .ref (b 20), .ref (b 21), .ref (b 22), .ref (b 23), .ref (b 24), .int 0, .ref (b 26), .ref (b 27), .ref (b 28), .ref (b 29), .ref (b 30), .ref (b 31), .ref (b 32), .int 0, .int 0, .ref (b 35), .ref (b 36), .ref (b 37), .ref (b 38), .ref (b 39), .ref (b 40), .int 0, .ref (b 42), .ref (b 43), .ref (b 44), .int 0, .ref (b 46), .ref (b 47), .int 0, .ref (b 49)]))] := hD
  refine lv_aload_n hx hb dL_law_544 rfl (lv_at hl 1 rfl) ?_
  refine lv_aload_n hx hb dL_law_545 rfl (lv_at hl 3 rfl) ?_
  refine lv_iload_n hx hb dL_law_546 rfl (lv_at hl 0 rfl) ?_
  refine lv_iconst (v := 1) hx hb dL_law_547 (by decide) ?_
  refine lv_iadd hx hb dL_law_548 ?_
  refine zz_seti 1 (by decide) ?_
  refine va_sld hx hb hX hbl hbA hS (by rw [hL6]; exact zz_vin (by decide)) dL_law_549 ?_
  have hPc := hP.sub (ws' := [(b 0, .inr (8, [.ref (b 1), .int 0, .int 0, .int 0, .int 0, .int 0, .int 0, .int 0, .int (-1), .int (-1), .ref (b 11), .ref (b 12), .ref (b 13), .int 0, .int 0, .ref (b 16), .ref (b 17), .ref (b 18), .ref (b 19), .ref (b 20), .ref (b 21), .ref (b 22), .ref (b 23), .ref (b 24), .int 0, .ref (b 26), .ref (b 27), .ref (b 28), .ref (b 29), .ref (b 30), .ref (b 31), .ref (b 32), .int 0, .int 0, .ref (b 35), .ref (b 36), .ref (b 37), .ref (b 38), .ref (b 39), .ref (b 40), .int 0, .ref (b 42), .ref (b 43), .ref (b 44), .int 0, .ref (b 46), .ref (b 47), .int 0, .ref (b 49)]))]) [0] rfl
  have hDc := hD.sub (ws' := [(b 0, .inr (8, [.ref (b 1), .int 0, .int 0, .int 0, .int 0, .int 0, .int 0, .int 0, .int (-1), .int (-1), .ref (b 11), .ref (b 12), .ref (b 13), .int 0, .int 0, .ref (b 16), .ref (b 17), .ref (b 18), .ref (b 19), .ref (b 20), .ref (b 21), .ref (b 22), .ref (b 23), .ref (b 24), .int 0, .ref (b 26), .ref (b 27), .ref (b 28), .ref (b 29), .ref (b 30), .ref (b 31), .ref (b 32), .int 0, .int 0, .ref (b 35), .ref (b 36), .ref (b 37), .ref (b 38), .ref (b 39), .ref (b 40), .int 0, .ref (b 42), .ref (b 43), .ref (b 44), .int 0, .ref (b 46), .ref (b 47), .int 0, .ref (b 49)]))]) [0] (by decide) rfl
  have hKc := hK.sub (tys' := []) [] rfl
  have hFc := va_free (wc := [(b 0, .inr (8, [.ref (b 1), .int 0, .int 0, .int 0, .int 0, .int 0, .int 0, .int 0, .int (-1), .int (-1), .ref (b 11), .ref (b 12), .ref (b 13), .int 0, .int 0, .ref (b 16), .ref (b 17), .ref (b 18), .ref (b 19), .ref (b 20), .ref (b 21), .ref (b 22), .ref (b 23), .ref (b 24), .int 0, .ref (b 26), .ref (b 27), .ref (b 28), .ref (b 29), .ref (b 30), .ref (b 31), .ref (b 32), .int 0, .int 0, .ref (b 35), .ref (b 36), .ref (b 37), .ref (b 38), .ref (b 39), .ref (b 40), .int 0, .ref (b 42), .ref (b 43), .ref (b 44), .int 0, .ref (b 46), .ref (b 47), .int 0, .ref (b 49)]))]) hD hS hA [0] rfl
  refine va_calli (va_runV (As := [.int (xs (Int32.toNatClampNeg 1))]) (rest := [.int r_1]) ⟨hx, hb, hml, hown, hw⟩ (m_days l dC dI b (xs (Int32.toNatClampNeg 1)) H.size) ⟨callB_of 1 hw (zz_good tw_352) rfl rfl rfl (hw _ tw_95) (hw _ tw_353) (by decide +kernel) ⟨Nat.le_of_ble_eq_true rfl, Nat.le_of_ble_eq_true rfl⟩, (hw _ tw_354), (hw _ tw_355)⟩ ⟨zz_blind, va_recv hKc hPc (ci := 8) (q0 := 0) rfl rfl, zz_pre hPc hKc hDc hN⟩ rfl rfl hl.1 rfl (lv_room (Nat.le_of_ble_eq_true rfl)) dL_law_550 ⟨Nat.le_of_ble_eq_true rfl, Nat.le_of_ble_eq_true rfl⟩) hS (fun q _ h => hFc q h) hFc (fun r_2 u_2 t H1 locs ht hvm e_2 hB hz1 hk1 hS => ?_)
  try dsimp only at e_2
  have hP1 : va_P (dC, dI) vwCl [] H1 := zz_P0
  have hD1 : va_D (va_A [(b 0, .inr (8, [.ref (b 1), .int 0, .int 0, .int 0, .int 0, .int 0, .int 0, .int 0, .int (-1), .int (-1), .ref (b 11), .ref (b 12), .ref (b 13), .int 0, .int 0, .ref (b 16), .ref (b 17), .ref (b 18), .ref (b 19), .ref (b 20), .ref (b 21), .ref (b 22), .ref (b 23), .ref (b 24), .int 0, .ref (b 26), .ref (b 27), .ref (b 28), .ref (b 29), .ref (b 30), .ref (b 31), .ref (b 32), .int 0, .int 0, .ref (b 35), .ref (b 36), .ref (b 37), .ref (b 38), .ref (b 39), .ref (b 40), .int 0, .ref (b 42), .ref (b 43), .ref (b 44), .int 0, .ref (b 46), .ref (b 47), .int 0, .ref (b 49)]))] H.size) [] := zz_D0
  obtain ⟨hP, hD⟩ := va_join (wr := []) (w1 := []) hP hD [0] [] rfl rfl (by decide) (by decide) hk1 hFc hP1 hD1
  clear hk1 ht hvm
  generalize H1 = H at hP hS ⊢
  have hP : va_P (dC, dI) vwCl [] H := hP
  have hD : va_D (fun q : Nat => s.heap.size ≤ q) [] := hD
  refine lv_icmp_eq (tgt := 818) hx hb dL_law_553 (by decide) (fun _ => ?_) (fun c_3 => absurd c_3 (fun z9 => z9 (e_1.trans e_2.symm)))
  exact law_end l hL6 C0 hS (lv_sub hl [0, 3] rfl) (by decide) (by decide)


set_option maxHeartbeats 4000000 in
set_option maxRecDepth 100000 in
theorem lc_houseOf {p : Program} {e : Env} {s : State} {m : MethodId} {below : List Frame} {meth : Method} {c : Code} (l : Launch) {sb L : Nat} {xs : Nat → Int32} (hL6 : L = 6) (C0 : lw_At p s m meth c sb L xs) {dC : Nat → ClassId} {dI : Nat → Nat → Nat} (hN : zz_N s) (a : Nat → Nat) (b : Nat → Nat) {H : Heap} {locs : List Loc} {ls : Array Slot} (hK : va_K (dC, dI) vwCl [] s) (hP : va_P (dC, dI) vwCl [(a 0, .inr (7, [.ref (a 1), .ref (a 10), .ref (a 23), .ref (a 24), .ref (a 26), .ref (a 29), .ref (a 34), .ref (a 43), .int 0, .int 0, .int 0, .int 0])), (b 0, .inr (8, [.ref (b 1), .int 0, .int 0, .int 0, .int 0, .int 0, .int 0, .int 0, .int (-1), .int (-1), .ref (b 11), .ref (b 12), .ref (b 13), .int 0, .int 0, .ref (b 16), .ref (b 17), .ref (b 18), .ref (b 19), .ref (b 20), .ref (b 21), .ref (b 22), .ref (b 23), .ref (b 24), .int 0, .ref (b 26), .ref (b 27), .ref (b 28), .ref (b 29), .ref (b 30), .ref (b 31), .ref (b 32), .int 0, .int 0, .ref (b 35), .ref (b 36), .ref (b 37), .ref (b 38), .ref (b 39), .ref (b 40), .int 0, .ref (b 42), .ref (b 43), .ref (b 44), .int 0, .ref (b 46), .ref (b 47), .int 0, .ref (b 49)]))] H) (hD : va_D (fun q : Nat => s.heap.size ≤ q) [(a 0, .inr (7, [.ref (a 1), .ref (a 10), .ref (a 23), .ref (a 24), .ref (a 26), .ref (a 29), .ref (a 34), .ref (a 43), .int 0, .int 0, .int 0, .int 0])), (b 0, .inr (8, [.ref (b 1), .int 0, .int 0, .int 0, .int 0, .int 0, .int 0, .int 0, .int (-1), .int (-1), .ref (b 11), .ref (b 12), .ref (b 13), .int 0, .int 0, .ref (b 16), .ref (b 17), .ref (b 18), .ref (b 19), .ref (b 20), .ref (b 21), .ref (b 22), .ref (b 23), .ref (b 24), .int 0, .ref (b 26), .ref (b 27), .ref (b 28), .ref (b 29), .ref (b 30), .ref (b 31), .ref (b 32), .int 0, .int 0, .ref (b 35), .ref (b 36), .ref (b 37), .ref (b 38), .ref (b 39), .ref (b 40), .int 0, .ref (b 42), .ref (b 43), .ref (b 44), .int 0, .ref (b 46), .ref (b 47), .int 0, .ref (b 49)]))]) (hS : va_S (fun q : Nat => s.heap.size ≤ q) s.heap H locs) (hl : lv_has ls 4 [(3, .int 0), (2, .ref (b 0)), (1, .ref (a 0)), (0, .ref sb)]) : W p l e room_1 s m #[Value.ref sb] below meth c H locs 85 4448 (lw_Z below #[Value.ref sb] s) (F0 m 558 ls []) := by
  obtain ⟨hx, hb, hr, hml, hown, hts, hX, hbl, hlocks, hgv⟩ := id C0
  have hw : ∀ w ∈ zz_all, w.before #[Value.ref sb] s = true := fun w h => hts w (zz_in_tbl h)
  have hown : s.vm.findClass RL = some m.cls := hown
  have hA : ∀ q : Nat, s.heap.size ≤ q → (fun q : Nat => s.heap.size ≤ q) q := fun _ h => h
  have hbA : ¬ (fun q : Nat => s.heap.size ≤ q) sb := Nat.not_le.mpr hbl
  refine lv_aload_n hx hb dL_law_558 rfl (lv_at hl 2 rfl) ?_
  refine lv_aload_n hx hb dL_law_559 rfl (lv_at hl 3 rfl) ?_
  refine lv_iload_n hx hb dL_law_560 rfl (lv_at hl 0 rfl) ?_
  refine lv_iconst (v := 1) hx hb dL_law_561 (by decide) ?_
  refine lv_iadd hx hb dL_law_562 ?_
  refine zz_seti 1 (by decide) ?_
  refine va_sld hx hb hX hbl hbA hS (by rw [hL6]; exact zz_vin (by decide)) dL_law_563 ?_
  refine lv_aload_n hx hb dL_law_564 rfl (lv_at hl 3 rfl) ?_
  refine lv_iload_n hx hb dL_law_565 rfl (lv_at hl 0 rfl) ?_
  refine lv_iconst (v := 2) hx hb dL_law_566 (by decide) ?_
  refine lv_iadd hx hb dL_law_567 ?_
  refine zz_seti 2 (by decide) ?_
  refine va_sld hx hb hX hbl hbA hS (by rw [hL6]; exact zz_vin (by decide)) dL_law_568 ?_
  have hPc := hP.sub (ws' := [(a 0, .inr (7, [.ref (a 1), .ref (a 10), .ref (a 23), .ref (a 24), .ref (a 26), .ref (a 29), .ref (a 34), .ref (a 43), .int 0, .int 0, .int 0, .int 0]))]) [0] rfl
  have hDc := hD.sub (ws' := [(a 0, .inr (7, [.ref (a 1), .ref (a 10), .ref (a 23), .ref (a 24), .ref (a 26), .ref (a 29), .ref (a 34), .ref (a 43), .int 0, .int 0, .int 0, .int 0]))]) [0] (by decide) rfl
  have hKc := hK.sub (tys' := []) [] rfl
  have hFc := zz_free0 hS hA
  refine va_calli (va_runV (As := [.int (xs (Int32.toNatClampNeg 1)), .int (xs (Int32.toNatClampNeg 2))]) (rest := []) ⟨hx, hb, hml, hown, hw⟩ (k_houseOf l dC dI a (xs (Int32.toNatClampNeg 1)) (xs (Int32.toNatClampNeg 2)) H.size) ⟨callB_of 2 hw (zz_good tw_356) rfl rfl rfl (hw _ tw_2) (hw _ tw_357) (by decide +kernel) ⟨Nat.le_of_ble_eq_true rfl, Nat.le_of_ble_eq_true rfl⟩, (hw _ tw_358), (hw _ tw_359)⟩ ⟨zz_blind, va_recv hKc hPc (ci := 7) (q0 := 0) rfl rfl, zz_pre hPc hKc hDc hN⟩ rfl rfl hl.1 rfl (lv_room (Nat.le_of_ble_eq_true rfl)) dL_law_569 ⟨Nat.le_of_ble_eq_true rfl, Nat.le_of_ble_eq_true rfl⟩) hS (fun q _ h => hFc q h) hFc (fun r_1 u_1 t H1 locs ht hvm e_1 hB hz1 hk1 hS => ?_)
  try dsimp only at e_1
  have hP := zz_keep hP hk1
  clear hk1 hB ht hvm
  generalize H1 = H at hP hS ⊢
  have hP : va_P (dC, dI) vwCl [(a 0, .inr (7, [.ref (a 1), .ref (a 10), .ref (a 23), .ref (a 24), .ref (a 26), .ref (a 29), .ref (a 34), .ref (a 43), .int 0, .int 0, .int 0, .int 0])), (b 0, .inr (8, [.ref (b 1), .int 0, .int 0, .int 0, .int 0, .int 0, .int 0, .int 0, .int (-1), .int (-1), .ref (b 11), .ref (b 12), .ref (b 13), .int 0, .int 0, .ref (b 16), .ref (b 17), .ref (b 18), .ref (b 19), .ref (b 20), .ref (b 21), .ref (b 22), .ref (b 23), .ref (b 24), .int 0, .ref (b 26), .ref (b 27), .ref (b 28), .ref (b 29), .ref (b 30), .ref (b 31), .ref (b 32), .int 0, .int 0, .ref (b 35), .ref (b 36), .ref (b 37), .ref (b 38), .ref (b 39), .ref (b 40), .int 0, .ref (b 42), .ref (b 43), .ref (b 44), .int 0, .ref (b 46), .ref (b 47), .int 0, .ref (b 49)]))] H := hP
  have hD : va_D (fun q : Nat => s.heap.size ≤ q) [(a 0, .inr (7, [.ref (a 1), .ref (a 10), .ref (a 23), .ref (a 24), .ref (a 26), .ref (a 29), .ref (a 34), .ref (a 43), .int 0, .int 0, .int 0, .int 0])), (b 0, .inr (8, [.ref (b 1), .int 0, .int 0, .int 0, .int 0, .int 0, .int 0, .int 0, .int (-1), .int (-1), .ref (b 11), .ref (b 12), .ref (b 13), .int 0, .int 0, .ref (b 16), .ref (b 17), .ref (b 18), .ref (b 19), .ref (b 20), .ref (b 21), .ref (b 22), .ref (b 23), .ref (b 24), .int 0, .ref (b 26), .ref (b 27), .ref (b 28), .ref (b 29), .ref (b 30), .ref (b 31), .ref (b 32), .int 0, .int 0, .ref (b 35), .ref (b 36), .ref (b 37), .ref (b 38), .ref (b 39), .ref (b 40), .int 0, .ref (b 42), .ref (b 43), .ref (b 44), .int 0, .ref (b 46), .ref (b 47), .int 0, .ref (b 49)]))] := hD
  refine lv_aload_n hx hb dL_law_572 rfl (lv_at hl 1 rfl) ?_
  refine lv_aload_n hx hb dL_law_573 rfl (lv_at hl 3 rfl) ?_
  refine lv_iload_n hx hb dL_law_574 rfl (lv_at hl 0 rfl) ?_
  refine lv_iconst (v := 1) hx hb dL_law_575 (by decide) ?_
  refine lv_iadd hx hb dL_law_576 ?_
  refine zz_seti 1 (by decide) ?_
  refine va_sld hx hb hX hbl hbA hS (by rw [hL6]; exact zz_vin (by decide)) dL_law_577 ?_
  refine lv_aload_n hx hb dL_law_578 rfl (lv_at hl 3 rfl) ?_
  refine lv_iload_n hx hb dL_law_579 rfl (lv_at hl 0 rfl) ?_
  refine lv_iconst (v := 2) hx hb dL_law_580 (by decide) ?_
  refine lv_iadd hx hb dL_law_581 ?_
  refine zz_seti 2 (by decide) ?_
  refine va_sld hx hb hX hbl hbA hS (by rw [hL6]; exact zz_vin (by decide)) dL_law_582 ?_
  have hPc := hP.sub (ws' := [(b 0, .inr (8, [.ref (b 1), .int 0, .int 0, .int 0, .int 0, .int 0, .int 0, .int 0, .int (-1), .int (-1), .ref (b 11), .ref (b 12), .ref (b 13), .int 0, .int 0, .ref (b 16), .ref (b 17), .ref (b 18), .ref (b 19), .ref (b 20), .ref (b 21), .ref (b 22), .ref (b 23), .ref (b 24), .int 0, .ref (b 26), .ref (b 27), .ref (b 28), .ref (b 29), .ref (b 30), .ref (b 31), .ref (b 32), .int 0, .int 0, .ref (b 35), .ref (b 36), .ref (b 37), .ref (b 38), .ref (b 39), .ref (b 40), .int 0, .ref (b 42), .ref (b 43), .ref (b 44), .int 0, .ref (b 46), .ref (b 47), .int 0, .ref (b 49)]))]) [1] rfl
  have hDc := hD.sub (ws' := [(b 0, .inr (8, [.ref (b 1), .int 0, .int 0, .int 0, .int 0, .int 0, .int 0, .int 0, .int (-1), .int (-1), .ref (b 11), .ref (b 12), .ref (b 13), .int 0, .int 0, .ref (b 16), .ref (b 17), .ref (b 18), .ref (b 19), .ref (b 20), .ref (b 21), .ref (b 22), .ref (b 23), .ref (b 24), .int 0, .ref (b 26), .ref (b 27), .ref (b 28), .ref (b 29), .ref (b 30), .ref (b 31), .ref (b 32), .int 0, .int 0, .ref (b 35), .ref (b 36), .ref (b 37), .ref (b 38), .ref (b 39), .ref (b 40), .int 0, .ref (b 42), .ref (b 43), .ref (b 44), .int 0, .ref (b 46), .ref (b 47), .int 0, .ref (b 49)]))]) [1] (by decide) rfl
  have hKc := hK.sub (tys' := []) [] rfl
  have hFc := zz_free0 hS hA
  refine va_calli (va_runV (As := [.int (xs (Int32.toNatClampNeg 1)), .int (xs (Int32.toNatClampNeg 2))]) (rest := [.int r_1]) ⟨hx, hb, hml, hown, hw⟩ (m_houseOf l dC dI b (xs (Int32.toNatClampNeg 1)) (xs (Int32.toNatClampNeg 2)) H.size) ⟨callB_of 2 hw (zz_good tw_360) rfl rfl rfl (hw _ tw_95) (hw _ tw_361) (by decide +kernel) ⟨Nat.le_of_ble_eq_true rfl, Nat.le_of_ble_eq_true rfl⟩, (hw _ tw_362), (hw _ tw_363)⟩ ⟨zz_blind, va_recv hKc hPc (ci := 8) (q0 := 0) rfl rfl, zz_pre hPc hKc hDc hN⟩ rfl rfl hl.1 rfl (lv_room (Nat.le_of_ble_eq_true rfl)) dL_law_583 ⟨Nat.le_of_ble_eq_true rfl, Nat.le_of_ble_eq_true rfl⟩) hS (fun q _ h => hFc q h) hFc (fun r_2 u_2 t H1 locs ht hvm e_2 hB hz1 hk1 hS => ?_)
  try dsimp only at e_2
  have hP := zz_keep hP hk1
  clear hk1 hB ht hvm
  generalize H1 = H at hP hS ⊢
  have hP : va_P (dC, dI) vwCl [(a 0, .inr (7, [.ref (a 1), .ref (a 10), .ref (a 23), .ref (a 24), .ref (a 26), .ref (a 29), .ref (a 34), .ref (a 43), .int 0, .int 0, .int 0, .int 0])), (b 0, .inr (8, [.ref (b 1), .int 0, .int 0, .int 0, .int 0, .int 0, .int 0, .int 0, .int (-1), .int (-1), .ref (b 11), .ref (b 12), .ref (b 13), .int 0, .int 0, .ref (b 16), .ref (b 17), .ref (b 18), .ref (b 19), .ref (b 20), .ref (b 21), .ref (b 22), .ref (b 23), .ref (b 24), .int 0, .ref (b 26), .ref (b 27), .ref (b 28), .ref (b 29), .ref (b 30), .ref (b 31), .ref (b 32), .int 0, .int 0, .ref (b 35), .ref (b 36), .ref (b 37), .ref (b 38), .ref (b 39), .ref (b 40), .int 0, .ref (b 42), .ref (b 43), .ref (b 44), .int 0, .ref (b 46), .ref (b 47), .int 0, .ref (b 49)]))] H := hP
  have hD : va_D (fun q : Nat => s.heap.size ≤ q) [(a 0, .inr (7, [.ref (a 1), .ref (a 10), .ref (a 23), .ref (a 24), .ref (a 26), .ref (a 29), .ref (a 34), .ref (a 43), .int 0, .int 0, .int 0, .int 0])), (b 0, .inr (8, [.ref (b 1), .int 0, .int 0, .int 0, .int 0, .int 0, .int 0, .int 0, .int (-1), .int (-1), .ref (b 11), .ref (b 12), .ref (b 13), .int 0, .int 0, .ref (b 16), .ref (b 17), .ref (b 18), .ref (b 19), .ref (b 20), .ref (b 21), .ref (b 22), .ref (b 23), .ref (b 24), .int 0, .ref (b 26), .ref (b 27), .ref (b 28), .ref (b 29), .ref (b 30), .ref (b 31), .ref (b 32), .int 0, .int 0, .ref (b 35), .ref (b 36), .ref (b 37), .ref (b 38), .ref (b 39), .ref (b 40), .int 0, .ref (b 42), .ref (b 43), .ref (b 44), .int 0, .ref (b 46), .ref (b 47), .int 0, .ref (b 49)]))] := hD
  refine lv_icmp_eq (tgt := 818) hx hb dL_law_586 (by decide) (fun _ => ?_) (fun c_3 => absurd c_3 (fun z9 => z9 (e_1.trans e_2.symm)))
  exact law_end l hL6 C0 hS (lv_sub hl [0, 3] rfl) (by decide) (by decide)


set_option maxHeartbeats 4000000 in
set_option maxRecDepth 100000 in
theorem lc_fieldOf {p : Program} {e : Env} {s : State} {m : MethodId} {below : List Frame} {meth : Method} {c : Code} (l : Launch) {sb L : Nat} {xs : Nat → Int32} (hL6 : L = 6) (C0 : lw_At p s m meth c sb L xs) {dC : Nat → ClassId} {dI : Nat → Nat → Nat} (hN : zz_N s) (a : Nat → Nat) (b : Nat → Nat) {H : Heap} {locs : List Loc} {ls : Array Slot} (hK : va_K (dC, dI) vwCl [] s) (hP : va_P (dC, dI) vwCl [(a 0, .inr (7, [.ref (a 1), .ref (a 10), .ref (a 23), .ref (a 24), .ref (a 26), .ref (a 29), .ref (a 34), .ref (a 43), .int 0, .int 0, .int 0, .int 0])), (b 0, .inr (8, [.ref (b 1), .int 0, .int 0, .int 0, .int 0, .int 0, .int 0, .int 0, .int (-1), .int (-1), .ref (b 11), .ref (b 12), .ref (b 13), .int 0, .int 0, .ref (b 16), .ref (b 17), .ref (b 18), .ref (b 19), .ref (b 20), .ref (b 21), .ref (b 22), .ref (b 23), .ref (b 24), .int 0, .ref (b 26), .ref (b 27), .ref (b 28), .ref (b 29), .ref (b 30), .ref (b 31), .ref (b 32), .int 0, .int 0, .ref (b 35), .ref (b 36), .ref (b 37), .ref (b 38), .ref (b 39), .ref (b 40), .int 0, .ref (b 42), .ref (b 43), .ref (b 44), .int 0, .ref (b 46), .ref (b 47), .int 0, .ref (b 49)]))] H) (hD : va_D (fun q : Nat => s.heap.size ≤ q) [(a 0, .inr (7, [.ref (a 1), .ref (a 10), .ref (a 23), .ref (a 24), .ref (a 26), .ref (a 29), .ref (a 34), .ref (a 43), .int 0, .int 0, .int 0, .int 0])), (b 0, .inr (8, [.ref (b 1), .int 0, .int 0, .int 0, .int 0, .int 0, .int 0, .int 0, .int (-1), .int (-1), .ref (b 11), .ref (b 12), .ref (b 13), .int 0, .int 0, .ref (b 16), .ref (b 17), .ref (b 18), .ref (b 19), .ref (b 20), .ref (b 21), .ref (b 22), .ref (b 23), .ref (b 24), .int 0, .ref (b 26), .ref (b 27), .ref (b 28), .ref (b 29), .ref (b 30), .ref (b 31), .ref (b 32), .int 0, .int 0, .ref (b 35), .ref (b 36), .ref (b 37), .ref (b 38), .ref (b 39), .ref (b 40), .int 0, .ref (b 42), .ref (b 43), .ref (b 44), .int 0, .ref (b 46), .ref (b 47), .int 0, .ref (b 49)]))]) (hS : va_S (fun q : Nat => s.heap.size ≤ q) s.heap H locs) (hl : lv_has ls 4 [(3, .int 0), (2, .ref (b 0)), (1, .ref (a 0)), (0, .ref sb)]) : W p l e room_1 s m #[Value.ref sb] below meth c H locs 85 4448 (lw_Z below #[Value.ref sb] s) (F0 m 591 ls []) := by
  obtain ⟨hx, hb, hr, hml, hown, hts, hX, hbl, hlocks, hgv⟩ := id C0
  have hw : ∀ w ∈ zz_all, w.before #[Value.ref sb] s = true := fun w h => hts w (zz_in_tbl h)
  have hown : s.vm.findClass RL = some m.cls := hown
  have hA : ∀ q : Nat, s.heap.size ≤ q → (fun q : Nat => s.heap.size ≤ q) q := fun _ h => h
  have hbA : ¬ (fun q : Nat => s.heap.size ≤ q) sb := Nat.not_le.mpr hbl
  refine lv_aload_n hx hb dL_law_591 rfl (lv_at hl 2 rfl) ?_
  refine lv_aload_n hx hb dL_law_592 rfl (lv_at hl 3 rfl) ?_
  refine lv_iload_n hx hb dL_law_593 rfl (lv_at hl 0 rfl) ?_
  refine lv_iconst (v := 1) hx hb dL_law_594 (by decide) ?_
  refine lv_iadd hx hb dL_law_595 ?_
  refine zz_seti 1 (by decide) ?_
  refine va_sld hx hb hX hbl hbA hS (by rw [hL6]; exact zz_vin (by decide)) dL_law_596 ?_
  refine lv_aload_n hx hb dL_law_597 rfl (lv_at hl 3 rfl) ?_
  refine lv_iload_n hx hb dL_law_598 rfl (lv_at hl 0 rfl) ?_
  refine lv_iconst (v := 2) hx hb dL_law_599 (by decide) ?_
  refine lv_iadd hx hb dL_law_600 ?_
  refine zz_seti 2 (by decide) ?_
  refine va_sld hx hb hX hbl hbA hS (by rw [hL6]; exact zz_vin (by decide)) dL_law_601 ?_
  have hPc := hP.sub (ws' := [(a 0, .inr (7, [.ref (a 1), .ref (a 10), .ref (a 23), .ref (a 24), .ref (a 26), .ref (a 29), .ref (a 34), .ref (a 43), .int 0, .int 0, .int 0, .int 0]))]) [0] rfl
  have hDc := hD.sub (ws' := [(a 0, .inr (7, [.ref (a 1), .ref (a 10), .ref (a 23), .ref (a 24), .ref (a 26), .ref (a 29), .ref (a 34), .ref (a 43), .int 0, .int 0, .int 0, .int 0]))]) [0] (by decide) rfl
  have hKc := hK.sub (tys' := []) [] rfl
  have hFc := zz_free0 hS hA
  refine va_calli (va_runV (As := [.int (xs (Int32.toNatClampNeg 1)), .int (xs (Int32.toNatClampNeg 2))]) (rest := []) ⟨hx, hb, hml, hown, hw⟩ (k_fieldOf l dC dI a (xs (Int32.toNatClampNeg 1)) (xs (Int32.toNatClampNeg 2)) H.size) ⟨callB_of 2 hw (zz_good tw_364) rfl rfl rfl (hw _ tw_2) (hw _ tw_365) (by decide +kernel) ⟨Nat.le_of_ble_eq_true rfl, Nat.le_of_ble_eq_true rfl⟩, (hw _ tw_366), (hw _ tw_367)⟩ ⟨zz_blind, va_recv hKc hPc (ci := 7) (q0 := 0) rfl rfl, zz_pre hPc hKc hDc hN⟩ rfl rfl hl.1 rfl (lv_room (Nat.le_of_ble_eq_true rfl)) dL_law_602 ⟨Nat.le_of_ble_eq_true rfl, Nat.le_of_ble_eq_true rfl⟩) hS (fun q _ h => hFc q h) hFc (fun r_1 u_1 t H1 locs ht hvm e_1 hB hz1 hk1 hS => ?_)
  try dsimp only at e_1
  have hP := zz_keep hP hk1
  clear hk1 hB ht hvm
  generalize H1 = H at hP hS ⊢
  have hP : va_P (dC, dI) vwCl [(a 0, .inr (7, [.ref (a 1), .ref (a 10), .ref (a 23), .ref (a 24), .ref (a 26), .ref (a 29), .ref (a 34), .ref (a 43), .int 0, .int 0, .int 0, .int 0])), (b 0, .inr (8, [.ref (b 1), .int 0, .int 0, .int 0, .int 0, .int 0, .int 0, .int 0, .int (-1), .int (-1), .ref (b 11), .ref (b 12), .ref (b 13), .int 0, .int 0, .ref (b 16), .ref (b 17), .ref (b 18), .ref (b 19), .ref (b 20), .ref (b 21), .ref (b 22), .ref (b 23), .ref (b 24), .int 0, .ref (b 26), .ref (b 27), .ref (b 28), .ref (b 29), .ref (b 30), .ref (b 31), .ref (b 32), .int 0, .int 0, .ref (b 35), .ref (b 36), .ref (b 37), .ref (b 38), .ref (b 39), .ref (b 40), .int 0, .ref (b 42), .ref (b 43), .ref (b 44), .int 0, .ref (b 46), .ref (b 47), .int 0, .ref (b 49)]))] H := hP
  have hD : va_D (fun q : Nat => s.heap.size ≤ q) [(a 0, .inr (7, [.ref (a 1), .ref (a 10), .ref (a 23), .ref (a 24), .ref (a 26), .ref (a 29), .ref (a 34), .ref (a 43), .int 0, .int 0, .int 0, .int 0])), (b 0, .inr (8, [.ref (b 1), .int 0, .int 0, .int 0, .int 0, .int 0, .int 0, .int 0, .int (-1), .int (-1), .ref (b 11), .ref (b 12), .ref (b 13), .int 0, .int 0, .ref (b 16), .ref (b 17), .ref (b 18), .ref (b 19), .ref (b 20), .ref (b 21), .ref (b 22), .ref (b 23), .ref (b 24), .int 0, .ref (b 26), .ref (b 27), .ref (b 28), .ref (b 29), .ref (b 30), .ref (b 31), .ref (b 32), .int 0, .int 0, .ref (b 35), .ref (b 36), .ref (b 37), .ref (b 38), .ref (b 39), .ref (b 40), .int 0, .ref (b 42), .ref (b 43), .ref (b 44), .int 0, .ref (b 46), .ref (b 47), .int 0, .ref (b 49)]))] := hD
  refine lv_aload_n hx hb dL_law_605 rfl (lv_at hl 1 rfl) ?_
  refine lv_aload_n hx hb dL_law_606 rfl (lv_at hl 3 rfl) ?_
  refine lv_iload_n hx hb dL_law_607 rfl (lv_at hl 0 rfl) ?_
  refine lv_iconst (v := 1) hx hb dL_law_608 (by decide) ?_
  refine lv_iadd hx hb dL_law_609 ?_
  refine zz_seti 1 (by decide) ?_
  refine va_sld hx hb hX hbl hbA hS (by rw [hL6]; exact zz_vin (by decide)) dL_law_610 ?_
  refine lv_aload_n hx hb dL_law_611 rfl (lv_at hl 3 rfl) ?_
  refine lv_iload_n hx hb dL_law_612 rfl (lv_at hl 0 rfl) ?_
  refine lv_iconst (v := 2) hx hb dL_law_613 (by decide) ?_
  refine lv_iadd hx hb dL_law_614 ?_
  refine zz_seti 2 (by decide) ?_
  refine va_sld hx hb hX hbl hbA hS (by rw [hL6]; exact zz_vin (by decide)) dL_law_615 ?_
  have hPc := hP.sub (ws' := [(b 0, .inr (8, [.ref (b 1), .int 0, .int 0, .int 0, .int 0, .int 0, .int 0, .int 0, .int (-1), .int (-1), .ref (b 11), .ref (b 12), .ref (b 13), .int 0, .int 0, .ref (b 16), .ref (b 17), .ref (b 18), .ref (b 19), .ref (b 20), .ref (b 21), .ref (b 22), .ref (b 23), .ref (b 24), .int 0, .ref (b 26), .ref (b 27), .ref (b 28), .ref (b 29), .ref (b 30), .ref (b 31), .ref (b 32), .int 0, .int 0, .ref (b 35), .ref (b 36), .ref (b 37), .ref (b 38), .ref (b 39), .ref (b 40), .int 0, .ref (b 42), .ref (b 43), .ref (b 44), .int 0, .ref (b 46), .ref (b 47), .int 0, .ref (b 49)]))]) [1] rfl
  have hDc := hD.sub (ws' := [(b 0, .inr (8, [.ref (b 1), .int 0, .int 0, .int 0, .int 0, .int 0, .int 0, .int 0, .int (-1), .int (-1), .ref (b 11), .ref (b 12), .ref (b 13), .int 0, .int 0, .ref (b 16), .ref (b 17), .ref (b 18), .ref (b 19), .ref (b 20), .ref (b 21), .ref (b 22), .ref (b 23), .ref (b 24), .int 0, .ref (b 26), .ref (b 27), .ref (b 28), .ref (b 29), .ref (b 30), .ref (b 31), .ref (b 32), .int 0, .int 0, .ref (b 35), .ref (b 36), .ref (b 37), .ref (b 38), .ref (b 39), .ref (b 40), .int 0, .ref (b 42), .ref (b 43), .ref (b 44), .int 0, .ref (b 46), .ref (b 47), .int 0, .ref (b 49)]))]) [1] (by decide) rfl
  have hKc := hK.sub (tys' := []) [] rfl
  have hFc := zz_free0 hS hA
  refine va_calli (va_runV (As := [.int (xs (Int32.toNatClampNeg 1)), .int (xs (Int32.toNatClampNeg 2))]) (rest := [.int r_1]) ⟨hx, hb, hml, hown, hw⟩ (m_fieldOf l dC dI b (xs (Int32.toNatClampNeg 1)) (xs (Int32.toNatClampNeg 2)) H.size) ⟨callB_of 2 hw (zz_good tw_368) rfl rfl rfl (hw _ tw_95) (hw _ tw_369) (by decide +kernel) ⟨Nat.le_of_ble_eq_true rfl, Nat.le_of_ble_eq_true rfl⟩, (hw _ tw_370), (hw _ tw_371)⟩ ⟨zz_blind, va_recv hKc hPc (ci := 8) (q0 := 0) rfl rfl, zz_pre hPc hKc hDc hN⟩ rfl rfl hl.1 rfl (lv_room (Nat.le_of_ble_eq_true rfl)) dL_law_616 ⟨Nat.le_of_ble_eq_true rfl, Nat.le_of_ble_eq_true rfl⟩) hS (fun q _ h => hFc q h) hFc (fun r_2 u_2 t H1 locs ht hvm e_2 hB hz1 hk1 hS => ?_)
  try dsimp only at e_2
  have hP := zz_keep hP hk1
  clear hk1 hB ht hvm
  generalize H1 = H at hP hS ⊢
  have hP : va_P (dC, dI) vwCl [(a 0, .inr (7, [.ref (a 1), .ref (a 10), .ref (a 23), .ref (a 24), .ref (a 26), .ref (a 29), .ref (a 34), .ref (a 43), .int 0, .int 0, .int 0, .int 0])), (b 0, .inr (8, [.ref (b 1), .int 0, .int 0, .int 0, .int 0, .int 0, .int 0, .int 0, .int (-1), .int (-1), .ref (b 11), .ref (b 12), .ref (b 13), .int 0, .int 0, .ref (b 16), .ref (b 17), .ref (b 18), .ref (b 19), .ref (b 20), .ref (b 21), .ref (b 22), .ref (b 23), .ref (b 24), .int 0, .ref (b 26), .ref (b 27), .ref (b 28), .ref (b 29), .ref (b 30), .ref (b 31), .ref (b 32), .int 0, .int 0, .ref (b 35), .ref (b 36), .ref (b 37), .ref (b 38), .ref (b 39), .ref (b 40), .int 0, .ref (b 42), .ref (b 43), .ref (b 44), .int 0, .ref (b 46), .ref (b 47), .int 0, .ref (b 49)]))] H := hP
  have hD : va_D (fun q : Nat => s.heap.size ≤ q) [(a 0, .inr (7, [.ref (a 1), .ref (a 10), .ref (a 23), .ref (a 24), .ref (a 26), .ref (a 29), .ref (a 34), .ref (a 43), .int 0, .int 0, .int 0, .int 0])), (b 0, .inr (8, [.ref (b 1), .int 0, .int 0, .int 0, .int 0, .int 0, .int 0, .int 0, .int (-1), .int (-1), .ref (b 11), .ref (b 12), .ref (b 13), .int 0, .int 0, .ref (b 16), .ref (b 17), .ref (b 18), .ref (b 19), .ref (b 20), .ref (b 21), .ref (b 22), .ref (b 23), .ref (b 24), .int 0, .ref (b 26), .ref (b 27), .ref (b 28), .ref (b 29), .ref (b 30), .ref (b 31), .ref (b 32), .int 0, .int 0, .ref (b 35), .ref (b 36), .ref (b 37), .ref (b 38), .ref (b 39), .ref (b 40), .int 0, .ref (b 42), .ref (b 43), .ref (b 44), .int 0, .ref (b 46), .ref (b 47), .int 0, .ref (b 49)]))] := hD
  refine lv_icmp_eq (tgt := 818) hx hb dL_law_619 (by decide) (fun _ => ?_) (fun c_3 => absurd c_3 (fun z9 => z9 (e_1.trans e_2.symm)))
  exact law_end l hL6 C0 hS (lv_sub hl [0, 3] rfl) (by decide) (by decide)


set_option maxHeartbeats 4000000 in
set_option maxRecDepth 100000 in
theorem lc_owes {p : Program} {e : Env} {s : State} {m : MethodId} {below : List Frame} {meth : Method} {c : Code} (l : Launch) {sb L : Nat} {xs : Nat → Int32} (hL6 : L = 6) (C0 : lw_At p s m meth c sb L xs) {dC : Nat → ClassId} {dI : Nat → Nat → Nat} (hN : zz_N s) (a : Nat → Nat) (b : Nat → Nat) {H : Heap} {locs : List Loc} {ls : Array Slot} (hK : va_K (dC, dI) vwCl [] s) (hP : va_P (dC, dI) vwCl [(a 0, .inr (7, [.ref (a 1), .ref (a 10), .ref (a 23), .ref (a 24), .ref (a 26), .ref (a 29), .ref (a 34), .ref (a 43), .int 0, .int 0, .int 0, .int 0])), (b 0, .inr (8, [.ref (b 1), .int 0, .int 0, .int 0, .int 0, .int 0, .int 0, .int 0, .int (-1), .int (-1), .ref (b 11), .ref (b 12), .ref (b 13), .int 0, .int 0, .ref (b 16), .ref (b 17), .ref (b 18), .ref (b 19), .ref (b 20), .ref (b 21), .ref (b 22), .ref (b 23), .ref (b 24), .int 0, .ref (b 26), .ref (b 27), .ref (b 28), .ref (b 29), .ref (b 30), .ref (b 31), .ref (b 32), .int 0, .int 0, .ref (b 35), .ref (b 36), .ref (b 37), .ref (b 38), .ref (b 39), .ref (b 40), .int 0, .ref (b 42), .ref (b 43), .ref (b 44), .int 0, .ref (b 46), .ref (b 47), .int 0, .ref (b 49)]))] H) (hD : va_D (fun q : Nat => s.heap.size ≤ q) [(a 0, .inr (7, [.ref (a 1), .ref (a 10), .ref (a 23), .ref (a 24), .ref (a 26), .ref (a 29), .ref (a 34), .ref (a 43), .int 0, .int 0, .int 0, .int 0])), (b 0, .inr (8, [.ref (b 1), .int 0, .int 0, .int 0, .int 0, .int 0, .int 0, .int 0, .int (-1), .int (-1), .ref (b 11), .ref (b 12), .ref (b 13), .int 0, .int 0, .ref (b 16), .ref (b 17), .ref (b 18), .ref (b 19), .ref (b 20), .ref (b 21), .ref (b 22), .ref (b 23), .ref (b 24), .int 0, .ref (b 26), .ref (b 27), .ref (b 28), .ref (b 29), .ref (b 30), .ref (b 31), .ref (b 32), .int 0, .int 0, .ref (b 35), .ref (b 36), .ref (b 37), .ref (b 38), .ref (b 39), .ref (b 40), .int 0, .ref (b 42), .ref (b 43), .ref (b 44), .int 0, .ref (b 46), .ref (b 47), .int 0, .ref (b 49)]))]) (hS : va_S (fun q : Nat => s.heap.size ≤ q) s.heap H locs) (hl : lv_has ls 4 [(3, .int 0), (2, .ref (b 0)), (1, .ref (a 0)), (0, .ref sb)]) : W p l e room_1 s m #[Value.ref sb] below meth c H locs 85 4448 (lw_Z below #[Value.ref sb] s) (F0 m 624 ls []) := by
  obtain ⟨hx, hb, hr, hml, hown, hts, hX, hbl, hlocks, hgv⟩ := id C0
  have hw : ∀ w ∈ zz_all, w.before #[Value.ref sb] s = true := fun w h => hts w (zz_in_tbl h)
  have hown : s.vm.findClass RL = some m.cls := hown
  have hA : ∀ q : Nat, s.heap.size ≤ q → (fun q : Nat => s.heap.size ≤ q) q := fun _ h => h
  have hbA : ¬ (fun q : Nat => s.heap.size ≤ q) sb := Nat.not_le.mpr hbl
  refine lv_aload_n hx hb dL_law_624 rfl (lv_at hl 2 rfl) ?_
  refine lv_aload_n hx hb dL_law_625 rfl (lv_at hl 3 rfl) ?_
  refine lv_iload_n hx hb dL_law_626 rfl (lv_at hl 0 rfl) ?_
  refine lv_iconst (v := 1) hx hb dL_law_627 (by decide) ?_
  refine lv_iadd hx hb dL_law_628 ?_
  refine zz_seti 1 (by decide) ?_
  refine va_sld hx hb hX hbl hbA hS (by rw [hL6]; exact zz_vin (by decide)) dL_law_629 ?_
  refine lv_aload_n hx hb dL_law_630 rfl (lv_at hl 3 rfl) ?_
  refine lv_iload_n hx hb dL_law_631 rfl (lv_at hl 0 rfl) ?_
  refine lv_iconst (v := 2) hx hb dL_law_632 (by decide) ?_
  refine lv_iadd hx hb dL_law_633 ?_
  refine zz_seti 2 (by decide) ?_
  refine va_sld hx hb hX hbl hbA hS (by rw [hL6]; exact zz_vin (by decide)) dL_law_634 ?_
  have hPc := hP.sub (ws' := [(a 0, .inr (7, [.ref (a 1), .ref (a 10), .ref (a 23), .ref (a 24), .ref (a 26), .ref (a 29), .ref (a 34), .ref (a 43), .int 0, .int 0, .int 0, .int 0]))]) [0] rfl
  have hDc := hD.sub (ws' := [(a 0, .inr (7, [.ref (a 1), .ref (a 10), .ref (a 23), .ref (a 24), .ref (a 26), .ref (a 29), .ref (a 34), .ref (a 43), .int 0, .int 0, .int 0, .int 0]))]) [0] (by decide) rfl
  have hKc := hK.sub (tys' := []) [] rfl
  have hFc := zz_free0 hS hA
  refine va_calli (va_runV (As := [.int (xs (Int32.toNatClampNeg 1)), .int (xs (Int32.toNatClampNeg 2))]) (rest := []) ⟨hx, hb, hml, hown, hw⟩ (k_owes l dC dI a (xs (Int32.toNatClampNeg 1)) (xs (Int32.toNatClampNeg 2)) H.size) ⟨callB_of 2 hw (zz_good tw_372) rfl rfl rfl (hw _ tw_2) (hw _ tw_373) (by decide +kernel) ⟨Nat.le_of_ble_eq_true rfl, Nat.le_of_ble_eq_true rfl⟩, (hw _ tw_374), (hw _ tw_375)⟩ ⟨zz_blind, va_recv hKc hPc (ci := 7) (q0 := 0) rfl rfl, zz_pre hPc hKc hDc hN⟩ rfl rfl hl.1 rfl (lv_room (Nat.le_of_ble_eq_true rfl)) dL_law_635 ⟨Nat.le_of_ble_eq_true rfl, Nat.le_of_ble_eq_true rfl⟩) hS (fun q _ h => hFc q h) hFc (fun r_1 u_1 t H1 locs ht hvm e_1 hB hz1 hk1 hS => ?_)
  try dsimp only at e_1
  have hP := zz_keep hP hk1
  clear hk1 hB ht hvm
  generalize H1 = H at hP hS ⊢
  have hP : va_P (dC, dI) vwCl [(a 0, .inr (7, [.ref (a 1), .ref (a 10), .ref (a 23), .ref (a 24), .ref (a 26), .ref (a 29), .ref (a 34), .ref (a 43), .int 0, .int 0, .int 0, .int 0])), (b 0, .inr (8, [.ref (b 1), .int 0, .int 0, .int 0, .int 0, .int 0, .int 0, .int 0, .int (-1), .int (-1), .ref (b 11), .ref (b 12), .ref (b 13), .int 0, .int 0, .ref (b 16), .ref (b 17), .ref (b 18), .ref (b 19), .ref (b 20), .ref (b 21), .ref (b 22), .ref (b 23), .ref (b 24), .int 0, .ref (b 26), .ref (b 27), .ref (b 28), .ref (b 29), .ref (b 30), .ref (b 31), .ref (b 32), .int 0, .int 0, .ref (b 35), .ref (b 36), .ref (b 37), .ref (b 38), .ref (b 39), .ref (b 40), .int 0, .ref (b 42), .ref (b 43), .ref (b 44), .int 0, .ref (b 46), .ref (b 47), .int 0, .ref (b 49)]))] H := hP
  have hD : va_D (fun q : Nat => s.heap.size ≤ q) [(a 0, .inr (7, [.ref (a 1), .ref (a 10), .ref (a 23), .ref (a 24), .ref (a 26), .ref (a 29), .ref (a 34), .ref (a 43), .int 0, .int 0, .int 0, .int 0])), (b 0, .inr (8, [.ref (b 1), .int 0, .int 0, .int 0, .int 0, .int 0, .int 0, .int 0, .int (-1), .int (-1), .ref (b 11), .ref (b 12), .ref (b 13), .int 0, .int 0, .ref (b 16), .ref (b 17), .ref (b 18), .ref (b 19), .ref (b 20), .ref (b 21), .ref (b 22), .ref (b 23), .ref (b 24), .int 0, .ref (b 26), .ref (b 27), .ref (b 28), .ref (b 29), .ref (b 30), .ref (b 31), .ref (b 32), .int 0, .int 0, .ref (b 35), .ref (b 36), .ref (b 37), .ref (b 38), .ref (b 39), .ref (b 40), .int 0, .ref (b 42), .ref (b 43), .ref (b 44), .int 0, .ref (b 46), .ref (b 47), .int 0, .ref (b 49)]))] := hD
  refine lv_aload_n hx hb dL_law_638 rfl (lv_at hl 1 rfl) ?_
  refine lv_aload_n hx hb dL_law_639 rfl (lv_at hl 3 rfl) ?_
  refine lv_iload_n hx hb dL_law_640 rfl (lv_at hl 0 rfl) ?_
  refine lv_iconst (v := 1) hx hb dL_law_641 (by decide) ?_
  refine lv_iadd hx hb dL_law_642 ?_
  refine zz_seti 1 (by decide) ?_
  refine va_sld hx hb hX hbl hbA hS (by rw [hL6]; exact zz_vin (by decide)) dL_law_643 ?_
  refine lv_aload_n hx hb dL_law_644 rfl (lv_at hl 3 rfl) ?_
  refine lv_iload_n hx hb dL_law_645 rfl (lv_at hl 0 rfl) ?_
  refine lv_iconst (v := 2) hx hb dL_law_646 (by decide) ?_
  refine lv_iadd hx hb dL_law_647 ?_
  refine zz_seti 2 (by decide) ?_
  refine va_sld hx hb hX hbl hbA hS (by rw [hL6]; exact zz_vin (by decide)) dL_law_648 ?_
  have hPc := hP.sub (ws' := [(b 0, .inr (8, [.ref (b 1), .int 0, .int 0, .int 0, .int 0, .int 0, .int 0, .int 0, .int (-1), .int (-1), .ref (b 11), .ref (b 12), .ref (b 13), .int 0, .int 0, .ref (b 16), .ref (b 17), .ref (b 18), .ref (b 19), .ref (b 20), .ref (b 21), .ref (b 22), .ref (b 23), .ref (b 24), .int 0, .ref (b 26), .ref (b 27), .ref (b 28), .ref (b 29), .ref (b 30), .ref (b 31), .ref (b 32), .int 0, .int 0, .ref (b 35), .ref (b 36), .ref (b 37), .ref (b 38), .ref (b 39), .ref (b 40), .int 0, .ref (b 42), .ref (b 43), .ref (b 44), .int 0, .ref (b 46), .ref (b 47), .int 0, .ref (b 49)]))]) [1] rfl
  have hDc := hD.sub (ws' := [(b 0, .inr (8, [.ref (b 1), .int 0, .int 0, .int 0, .int 0, .int 0, .int 0, .int 0, .int (-1), .int (-1), .ref (b 11), .ref (b 12), .ref (b 13), .int 0, .int 0, .ref (b 16), .ref (b 17), .ref (b 18), .ref (b 19), .ref (b 20), .ref (b 21), .ref (b 22), .ref (b 23), .ref (b 24), .int 0, .ref (b 26), .ref (b 27), .ref (b 28), .ref (b 29), .ref (b 30), .ref (b 31), .ref (b 32), .int 0, .int 0, .ref (b 35), .ref (b 36), .ref (b 37), .ref (b 38), .ref (b 39), .ref (b 40), .int 0, .ref (b 42), .ref (b 43), .ref (b 44), .int 0, .ref (b 46), .ref (b 47), .int 0, .ref (b 49)]))]) [1] (by decide) rfl
  have hKc := hK.sub (tys' := []) [] rfl
  have hFc := zz_free0 hS hA
  refine va_calli (va_runV (As := [.int (xs (Int32.toNatClampNeg 1)), .int (xs (Int32.toNatClampNeg 2))]) (rest := [.int r_1]) ⟨hx, hb, hml, hown, hw⟩ (m_owes l dC dI b (xs (Int32.toNatClampNeg 1)) (xs (Int32.toNatClampNeg 2)) H.size) ⟨callB_of 2 hw (zz_good tw_376) rfl rfl rfl (hw _ tw_95) (hw _ tw_377) (by decide +kernel) ⟨Nat.le_of_ble_eq_true rfl, Nat.le_of_ble_eq_true rfl⟩, (hw _ tw_378), (hw _ tw_379)⟩ ⟨zz_blind, va_recv hKc hPc (ci := 8) (q0 := 0) rfl rfl, zz_pre hPc hKc hDc hN⟩ rfl rfl hl.1 rfl (lv_room (Nat.le_of_ble_eq_true rfl)) dL_law_649 ⟨Nat.le_of_ble_eq_true rfl, Nat.le_of_ble_eq_true rfl⟩) hS (fun q _ h => hFc q h) hFc (fun r_2 u_2 t H1 locs ht hvm e_2 hB hz1 hk1 hS => ?_)
  try dsimp only at e_2
  have hP := zz_keep hP hk1
  clear hk1 hB ht hvm
  generalize H1 = H at hP hS ⊢
  have hP : va_P (dC, dI) vwCl [(a 0, .inr (7, [.ref (a 1), .ref (a 10), .ref (a 23), .ref (a 24), .ref (a 26), .ref (a 29), .ref (a 34), .ref (a 43), .int 0, .int 0, .int 0, .int 0])), (b 0, .inr (8, [.ref (b 1), .int 0, .int 0, .int 0, .int 0, .int 0, .int 0, .int 0, .int (-1), .int (-1), .ref (b 11), .ref (b 12), .ref (b 13), .int 0, .int 0, .ref (b 16), .ref (b 17), .ref (b 18), .ref (b 19), .ref (b 20), .ref (b 21), .ref (b 22), .ref (b 23), .ref (b 24), .int 0, .ref (b 26), .ref (b 27), .ref (b 28), .ref (b 29), .ref (b 30), .ref (b 31), .ref (b 32), .int 0, .int 0, .ref (b 35), .ref (b 36), .ref (b 37), .ref (b 38), .ref (b 39), .ref (b 40), .int 0, .ref (b 42), .ref (b 43), .ref (b 44), .int 0, .ref (b 46), .ref (b 47), .int 0, .ref (b 49)]))] H := hP
  have hD : va_D (fun q : Nat => s.heap.size ≤ q) [(a 0, .inr (7, [.ref (a 1), .ref (a 10), .ref (a 23), .ref (a 24), .ref (a 26), .ref (a 29), .ref (a 34), .ref (a 43), .int 0, .int 0, .int 0, .int 0])), (b 0, .inr (8, [.ref (b 1), .int 0, .int 0, .int 0, .int 0, .int 0, .int 0, .int 0, .int (-1), .int (-1), .ref (b 11), .ref (b 12), .ref (b 13), .int 0, .int 0, .ref (b 16), .ref (b 17), .ref (b 18), .ref (b 19), .ref (b 20), .ref (b 21), .ref (b 22), .ref (b 23), .ref (b 24), .int 0, .ref (b 26), .ref (b 27), .ref (b 28), .ref (b 29), .ref (b 30), .ref (b 31), .ref (b 32), .int 0, .int 0, .ref (b 35), .ref (b 36), .ref (b 37), .ref (b 38), .ref (b 39), .ref (b 40), .int 0, .ref (b 42), .ref (b 43), .ref (b 44), .int 0, .ref (b 46), .ref (b 47), .int 0, .ref (b 49)]))] := hD
  refine lv_icmp_eq (tgt := 818) hx hb dL_law_652 (by decide) (fun _ => ?_) (fun c_3 => absurd c_3 (fun z9 => z9 (e_1.trans e_2.symm)))
  exact law_end l hL6 C0 hS (lv_sub hl [0, 3] rfl) (by decide) (by decide)


set_option maxHeartbeats 4000000 in
set_option maxRecDepth 100000 in
theorem lc_oldest {p : Program} {e : Env} {s : State} {m : MethodId} {below : List Frame} {meth : Method} {c : Code} (l : Launch) {sb L : Nat} {xs : Nat → Int32} (hL6 : L = 6) (C0 : lw_At p s m meth c sb L xs) {dC : Nat → ClassId} {dI : Nat → Nat → Nat} (hN : zz_N s) (a : Nat → Nat) (b : Nat → Nat) {H : Heap} {locs : List Loc} {ls : Array Slot} (hK : va_K (dC, dI) vwCl [] s) (hP : va_P (dC, dI) vwCl [(a 0, .inr (7, [.ref (a 1), .ref (a 10), .ref (a 23), .ref (a 24), .ref (a 26), .ref (a 29), .ref (a 34), .ref (a 43), .int 0, .int 0, .int 0, .int 0])), (b 0, .inr (8, [.ref (b 1), .int 0, .int 0, .int 0, .int 0, .int 0, .int 0, .int 0, .int (-1), .int (-1), .ref (b 11), .ref (b 12), .ref (b 13), .int 0, .int 0, .ref (b 16), .ref (b 17), .ref (b 18), .ref (b 19), .ref (b 20), .ref (b 21), .ref (b 22), .ref (b 23), .ref (b 24), .int 0, .ref (b 26), .ref (b 27), .ref (b 28), .ref (b 29), .ref (b 30), .ref (b 31), .ref (b 32), .int 0, .int 0, .ref (b 35), .ref (b 36), .ref (b 37), .ref (b 38), .ref (b 39), .ref (b 40), .int 0, .ref (b 42), .ref (b 43), .ref (b 44), .int 0, .ref (b 46), .ref (b 47), .int 0, .ref (b 49)]))] H) (hD : va_D (fun q : Nat => s.heap.size ≤ q) [(a 0, .inr (7, [.ref (a 1), .ref (a 10), .ref (a 23), .ref (a 24), .ref (a 26), .ref (a 29), .ref (a 34), .ref (a 43), .int 0, .int 0, .int 0, .int 0])), (b 0, .inr (8, [.ref (b 1), .int 0, .int 0, .int 0, .int 0, .int 0, .int 0, .int 0, .int (-1), .int (-1), .ref (b 11), .ref (b 12), .ref (b 13), .int 0, .int 0, .ref (b 16), .ref (b 17), .ref (b 18), .ref (b 19), .ref (b 20), .ref (b 21), .ref (b 22), .ref (b 23), .ref (b 24), .int 0, .ref (b 26), .ref (b 27), .ref (b 28), .ref (b 29), .ref (b 30), .ref (b 31), .ref (b 32), .int 0, .int 0, .ref (b 35), .ref (b 36), .ref (b 37), .ref (b 38), .ref (b 39), .ref (b 40), .int 0, .ref (b 42), .ref (b 43), .ref (b 44), .int 0, .ref (b 46), .ref (b 47), .int 0, .ref (b 49)]))]) (hS : va_S (fun q : Nat => s.heap.size ≤ q) s.heap H locs) (hl : lv_has ls 4 [(3, .int 0), (2, .ref (b 0)), (1, .ref (a 0)), (0, .ref sb)]) : W p l e room_1 s m #[Value.ref sb] below meth c H locs 85 4448 (lw_Z below #[Value.ref sb] s) (F0 m 657 ls []) := by
  obtain ⟨hx, hb, hr, hml, hown, hts, hX, hbl, hlocks, hgv⟩ := id C0
  have hw : ∀ w ∈ zz_all, w.before #[Value.ref sb] s = true := fun w h => hts w (zz_in_tbl h)
  have hown : s.vm.findClass RL = some m.cls := hown
  have hA : ∀ q : Nat, s.heap.size ≤ q → (fun q : Nat => s.heap.size ≤ q) q := fun _ h => h
  have hbA : ¬ (fun q : Nat => s.heap.size ≤ q) sb := Nat.not_le.mpr hbl
  refine lv_aload_n hx hb dL_law_657 rfl (lv_at hl 2 rfl) ?_
  refine lv_aload_n hx hb dL_law_658 rfl (lv_at hl 3 rfl) ?_
  refine lv_iload_n hx hb dL_law_659 rfl (lv_at hl 0 rfl) ?_
  refine lv_iconst (v := 1) hx hb dL_law_660 (by decide) ?_
  refine lv_iadd hx hb dL_law_661 ?_
  refine zz_seti 1 (by decide) ?_
  refine va_sld hx hb hX hbl hbA hS (by rw [hL6]; exact zz_vin (by decide)) dL_law_662 ?_
  refine lv_aload_n hx hb dL_law_663 rfl (lv_at hl 3 rfl) ?_
  refine lv_iload_n hx hb dL_law_664 rfl (lv_at hl 0 rfl) ?_
  refine lv_iconst (v := 2) hx hb dL_law_665 (by decide) ?_
  refine lv_iadd hx hb dL_law_666 ?_
  refine zz_seti 2 (by decide) ?_
  refine va_sld hx hb hX hbl hbA hS (by rw [hL6]; exact zz_vin (by decide)) dL_law_667 ?_
  have hPc := hP.sub (ws' := [(a 0, .inr (7, [.ref (a 1), .ref (a 10), .ref (a 23), .ref (a 24), .ref (a 26), .ref (a 29), .ref (a 34), .ref (a 43), .int 0, .int 0, .int 0, .int 0]))]) [0] rfl
  have hDc := hD.sub (ws' := [(a 0, .inr (7, [.ref (a 1), .ref (a 10), .ref (a 23), .ref (a 24), .ref (a 26), .ref (a 29), .ref (a 34), .ref (a 43), .int 0, .int 0, .int 0, .int 0]))]) [0] (by decide) rfl
  have hKc := hK.sub (tys' := []) [] rfl
  have hFc := zz_free0 hS hA
  refine va_calli (va_runV (As := [.int (xs (Int32.toNatClampNeg 1)), .int (xs (Int32.toNatClampNeg 2))]) (rest := []) ⟨hx, hb, hml, hown, hw⟩ (k_oldest l dC dI a (xs (Int32.toNatClampNeg 1)) (xs (Int32.toNatClampNeg 2)) H.size) ⟨callB_of 2 hw (zz_good tw_380) rfl rfl rfl (hw _ tw_2) (hw _ tw_381) (by decide +kernel) ⟨Nat.le_of_ble_eq_true rfl, Nat.le_of_ble_eq_true rfl⟩, (hw _ tw_382), (hw _ tw_383)⟩ ⟨zz_blind, va_recv hKc hPc (ci := 7) (q0 := 0) rfl rfl, zz_pre hPc hKc hDc hN⟩ rfl rfl hl.1 rfl (lv_room (Nat.le_of_ble_eq_true rfl)) dL_law_668 ⟨Nat.le_of_ble_eq_true rfl, Nat.le_of_ble_eq_true rfl⟩) hS (fun q _ h => hFc q h) hFc (fun r_1 u_1 t H1 locs ht hvm e_1 hB hz1 hk1 hS => ?_)
  try dsimp only at e_1
  have hP := zz_keep hP hk1
  clear hk1 hB ht hvm
  generalize H1 = H at hP hS ⊢
  have hP : va_P (dC, dI) vwCl [(a 0, .inr (7, [.ref (a 1), .ref (a 10), .ref (a 23), .ref (a 24), .ref (a 26), .ref (a 29), .ref (a 34), .ref (a 43), .int 0, .int 0, .int 0, .int 0])), (b 0, .inr (8, [.ref (b 1), .int 0, .int 0, .int 0, .int 0, .int 0, .int 0, .int 0, .int (-1), .int (-1), .ref (b 11), .ref (b 12), .ref (b 13), .int 0, .int 0, .ref (b 16), .ref (b 17), .ref (b 18), .ref (b 19), .ref (b 20), .ref (b 21), .ref (b 22), .ref (b 23), .ref (b 24), .int 0, .ref (b 26), .ref (b 27), .ref (b 28), .ref (b 29), .ref (b 30), .ref (b 31), .ref (b 32), .int 0, .int 0, .ref (b 35), .ref (b 36), .ref (b 37), .ref (b 38), .ref (b 39), .ref (b 40), .int 0, .ref (b 42), .ref (b 43), .ref (b 44), .int 0, .ref (b 46), .ref (b 47), .int 0, .ref (b 49)]))] H := hP
  have hD : va_D (fun q : Nat => s.heap.size ≤ q) [(a 0, .inr (7, [.ref (a 1), .ref (a 10), .ref (a 23), .ref (a 24), .ref (a 26), .ref (a 29), .ref (a 34), .ref (a 43), .int 0, .int 0, .int 0, .int 0])), (b 0, .inr (8, [.ref (b 1), .int 0, .int 0, .int 0, .int 0, .int 0, .int 0, .int 0, .int (-1), .int (-1), .ref (b 11), .ref (b 12), .ref (b 13), .int 0, .int 0, .ref (b 16), .ref (b 17), .ref (b 18), .ref (b 19), .ref (b 20), .ref (b 21), .ref (b 22), .ref (b 23), .ref (b 24), .int 0, .ref (b 26), .ref (b 27), .ref (b 28), .ref (b 29), .ref (b 30), .ref (b 31), .ref (b 32), .int 0, .int 0, .ref (b 35), .ref (b 36), .ref (b 37), .ref (b 38), .ref (b 39), .ref (b 40), .int 0, .ref (b 42), .ref (b 43), .ref (b 44), .int 0, .ref (b 46), .ref (b 47), .int 0, .ref (b 49)]))] := hD
  refine lv_aload_n hx hb dL_law_671 rfl (lv_at hl 1 rfl) ?_
  refine lv_aload_n hx hb dL_law_672 rfl (lv_at hl 3 rfl) ?_
  refine lv_iload_n hx hb dL_law_673 rfl (lv_at hl 0 rfl) ?_
  refine lv_iconst (v := 1) hx hb dL_law_674 (by decide) ?_
  refine lv_iadd hx hb dL_law_675 ?_
  refine zz_seti 1 (by decide) ?_
  refine va_sld hx hb hX hbl hbA hS (by rw [hL6]; exact zz_vin (by decide)) dL_law_676 ?_
  refine lv_aload_n hx hb dL_law_677 rfl (lv_at hl 3 rfl) ?_
  refine lv_iload_n hx hb dL_law_678 rfl (lv_at hl 0 rfl) ?_
  refine lv_iconst (v := 2) hx hb dL_law_679 (by decide) ?_
  refine lv_iadd hx hb dL_law_680 ?_
  refine zz_seti 2 (by decide) ?_
  refine va_sld hx hb hX hbl hbA hS (by rw [hL6]; exact zz_vin (by decide)) dL_law_681 ?_
  have hPc := hP.sub (ws' := [(b 0, .inr (8, [.ref (b 1), .int 0, .int 0, .int 0, .int 0, .int 0, .int 0, .int 0, .int (-1), .int (-1), .ref (b 11), .ref (b 12), .ref (b 13), .int 0, .int 0, .ref (b 16), .ref (b 17), .ref (b 18), .ref (b 19), .ref (b 20), .ref (b 21), .ref (b 22), .ref (b 23), .ref (b 24), .int 0, .ref (b 26), .ref (b 27), .ref (b 28), .ref (b 29), .ref (b 30), .ref (b 31), .ref (b 32), .int 0, .int 0, .ref (b 35), .ref (b 36), .ref (b 37), .ref (b 38), .ref (b 39), .ref (b 40), .int 0, .ref (b 42), .ref (b 43), .ref (b 44), .int 0, .ref (b 46), .ref (b 47), .int 0, .ref (b 49)]))]) [1] rfl
  have hDc := hD.sub (ws' := [(b 0, .inr (8, [.ref (b 1), .int 0, .int 0, .int 0, .int 0, .int 0, .int 0, .int 0, .int (-1), .int (-1), .ref (b 11), .ref (b 12), .ref (b 13), .int 0, .int 0, .ref (b 16), .ref (b 17), .ref (b 18), .ref (b 19), .ref (b 20), .ref (b 21), .ref (b 22), .ref (b 23), .ref (b 24), .int 0, .ref (b 26), .ref (b 27), .ref (b 28), .ref (b 29), .ref (b 30), .ref (b 31), .ref (b 32), .int 0, .int 0, .ref (b 35), .ref (b 36), .ref (b 37), .ref (b 38), .ref (b 39), .ref (b 40), .int 0, .ref (b 42), .ref (b 43), .ref (b 44), .int 0, .ref (b 46), .ref (b 47), .int 0, .ref (b 49)]))]) [1] (by decide) rfl
  have hKc := hK.sub (tys' := []) [] rfl
  have hFc := zz_free0 hS hA
  refine va_calli (va_runV (As := [.int (xs (Int32.toNatClampNeg 1)), .int (xs (Int32.toNatClampNeg 2))]) (rest := [.int r_1]) ⟨hx, hb, hml, hown, hw⟩ (m_oldest l dC dI b (xs (Int32.toNatClampNeg 1)) (xs (Int32.toNatClampNeg 2)) H.size) ⟨callB_of 2 hw (zz_good tw_384) rfl rfl rfl (hw _ tw_95) (hw _ tw_385) (by decide +kernel) ⟨Nat.le_of_ble_eq_true rfl, Nat.le_of_ble_eq_true rfl⟩, (hw _ tw_386), (hw _ tw_387)⟩ ⟨zz_blind, va_recv hKc hPc (ci := 8) (q0 := 0) rfl rfl, zz_pre hPc hKc hDc hN⟩ rfl rfl hl.1 rfl (lv_room (Nat.le_of_ble_eq_true rfl)) dL_law_682 ⟨Nat.le_of_ble_eq_true rfl, Nat.le_of_ble_eq_true rfl⟩) hS (fun q _ h => hFc q h) hFc (fun r_2 u_2 t H1 locs ht hvm e_2 hB hz1 hk1 hS => ?_)
  try dsimp only at e_2
  have hP := zz_keep hP hk1
  clear hk1 hB ht hvm
  generalize H1 = H at hP hS ⊢
  have hP : va_P (dC, dI) vwCl [(a 0, .inr (7, [.ref (a 1), .ref (a 10), .ref (a 23), .ref (a 24), .ref (a 26), .ref (a 29), .ref (a 34), .ref (a 43), .int 0, .int 0, .int 0, .int 0])), (b 0, .inr (8, [.ref (b 1), .int 0, .int 0, .int 0, .int 0, .int 0, .int 0, .int 0, .int (-1), .int (-1), .ref (b 11), .ref (b 12), .ref (b 13), .int 0, .int 0, .ref (b 16), .ref (b 17), .ref (b 18), .ref (b 19), .ref (b 20), .ref (b 21), .ref (b 22), .ref (b 23), .ref (b 24), .int 0, .ref (b 26), .ref (b 27), .ref (b 28), .ref (b 29), .ref (b 30), .ref (b 31), .ref (b 32), .int 0, .int 0, .ref (b 35), .ref (b 36), .ref (b 37), .ref (b 38), .ref (b 39), .ref (b 40), .int 0, .ref (b 42), .ref (b 43), .ref (b 44), .int 0, .ref (b 46), .ref (b 47), .int 0, .ref (b 49)]))] H := hP
  have hD : va_D (fun q : Nat => s.heap.size ≤ q) [(a 0, .inr (7, [.ref (a 1), .ref (a 10), .ref (a 23), .ref (a 24), .ref (a 26), .ref (a 29), .ref (a 34), .ref (a 43), .int 0, .int 0, .int 0, .int 0])), (b 0, .inr (8, [.ref (b 1), .int 0, .int 0, .int 0, .int 0, .int 0, .int 0, .int 0, .int (-1), .int (-1), .ref (b 11), .ref (b 12), .ref (b 13), .int 0, .int 0, .ref (b 16), .ref (b 17), .ref (b 18), .ref (b 19), .ref (b 20), .ref (b 21), .ref (b 22), .ref (b 23), .ref (b 24), .int 0, .ref (b 26), .ref (b 27), .ref (b 28), .ref (b 29), .ref (b 30), .ref (b 31), .ref (b 32), .int 0, .int 0, .ref (b 35), .ref (b 36), .ref (b 37), .ref (b 38), .ref (b 39), .ref (b 40), .int 0, .ref (b 42), .ref (b 43), .ref (b 44), .int 0, .ref (b 46), .ref (b 47), .int 0, .ref (b 49)]))] := hD
  refine lv_icmp_eq (tgt := 818) hx hb dL_law_685 (by decide) (fun _ => ?_) (fun c_3 => absurd c_3 (fun z9 => z9 (e_1.trans e_2.symm)))
  exact law_end l hL6 C0 hS (lv_sub hl [0, 3] rfl) (by decide) (by decide)


set_option maxHeartbeats 4000000 in
set_option maxRecDepth 100000 in
theorem lc_payments {p : Program} {e : Env} {s : State} {m : MethodId} {below : List Frame} {meth : Method} {c : Code} (l : Launch) {sb L : Nat} {xs : Nat → Int32} (hL6 : L = 6) (C0 : lw_At p s m meth c sb L xs) {dC : Nat → ClassId} {dI : Nat → Nat → Nat} (hN : zz_N s) (a : Nat → Nat) (cI : ClassId) (b : Nat → Nat) {H : Heap} {locs : List Loc} {ls : Array Slot} (hK : va_K (dC, dI) vwCl [(cI, .int)] s) (hP : va_P (dC, dI) vwCl [(a 0, .inr (7, [.ref (a 1), .ref (a 10), .ref (a 23), .ref (a 24), .ref (a 26), .ref (a 29), .ref (a 34), .ref (a 43), .int 0, .int 0, .int 0, .int 0])), (a 34, .inr (2, [.ref (a 35), .ref (a 36), .ref (a 37), .ref (a 38), .ref (a 39), .ref (a 40), .ref (a 41), .ref (a 42), .int 0])), (a 35, .inl (cI, 8, .inl (fun _ => (0 : Int32)))), (a 36, .inl (cI, 8, .inl (fun _ => (0 : Int32)))), (a 29, .inr (1, [.ref (a 30), .ref (a 31), .ref (a 32), .ref (a 33), .int 0])), (b 0, .inr (8, [.ref (b 1), .int 0, .int 0, .int 0, .int 0, .int 0, .int 0, .int 0, .int (-1), .int (-1), .ref (b 11), .ref (b 12), .ref (b 13), .int 0, .int 0, .ref (b 16), .ref (b 17), .ref (b 18), .ref (b 19), .ref (b 20), .ref (b 21), .ref (b 22), .ref (b 23), .ref (b 24), .int 0, .ref (b 26), .ref (b 27), .ref (b 28), .ref (b 29), .ref (b 30), .ref (b 31), .ref (b 32), .int 0, .int 0, .ref (b 35), .ref (b 36), .ref (b 37), .ref (b 38), .ref (b 39), .ref (b 40), .int 0, .ref (b 42), .ref (b 43), .ref (b 44), .int 0, .ref (b 46), .ref (b 47), .int 0, .ref (b 49)])), (b 40, .inl (cI, 256, .inl (fun _ => (0 : Int32))))] H) (hD : va_D (fun q : Nat => s.heap.size ≤ q) [(a 0, .inr (7, [.ref (a 1), .ref (a 10), .ref (a 23), .ref (a 24), .ref (a 26), .ref (a 29), .ref (a 34), .ref (a 43), .int 0, .int 0, .int 0, .int 0])), (a 34, .inr (2, [.ref (a 35), .ref (a 36), .ref (a 37), .ref (a 38), .ref (a 39), .ref (a 40), .ref (a 41), .ref (a 42), .int 0])), (a 35, .inl (cI, 8, .inl (fun _ => (0 : Int32)))), (a 36, .inl (cI, 8, .inl (fun _ => (0 : Int32)))), (a 29, .inr (1, [.ref (a 30), .ref (a 31), .ref (a 32), .ref (a 33), .int 0])), (b 0, .inr (8, [.ref (b 1), .int 0, .int 0, .int 0, .int 0, .int 0, .int 0, .int 0, .int (-1), .int (-1), .ref (b 11), .ref (b 12), .ref (b 13), .int 0, .int 0, .ref (b 16), .ref (b 17), .ref (b 18), .ref (b 19), .ref (b 20), .ref (b 21), .ref (b 22), .ref (b 23), .ref (b 24), .int 0, .ref (b 26), .ref (b 27), .ref (b 28), .ref (b 29), .ref (b 30), .ref (b 31), .ref (b 32), .int 0, .int 0, .ref (b 35), .ref (b 36), .ref (b 37), .ref (b 38), .ref (b 39), .ref (b 40), .int 0, .ref (b 42), .ref (b 43), .ref (b 44), .int 0, .ref (b 46), .ref (b 47), .int 0, .ref (b 49)])), (b 40, .inl (cI, 256, .inl (fun _ => (0 : Int32))))]) (hS : va_S (fun q : Nat => s.heap.size ≤ q) s.heap H locs) (hl : lv_has ls 4 [(3, .int 0), (2, .ref (b 0)), (1, .ref (a 0)), (0, .ref sb)]) : W p l e room_1 s m #[Value.ref sb] below meth c H locs 85 4448 (lw_Z below #[Value.ref sb] s) (F0 m 690 ls []) := by
  obtain ⟨hx, hb, hr, hml, hown, hts, hX, hbl, hlocks, hgv⟩ := id C0
  have hw : ∀ w ∈ zz_all, w.before #[Value.ref sb] s = true := fun w h => hts w (zz_in_tbl h)
  have hown : s.vm.findClass RL = some m.cls := hown
  have hA : ∀ q : Nat, s.heap.size ≤ q → (fun q : Nat => s.heap.size ≤ q) q := fun _ h => h
  have hbA : ¬ (fun q : Nat => s.heap.size ≤ q) sb := Nat.not_le.mpr hbl
  refine lv_aload_n hx hb dL_law_690 rfl (lv_at hl 2 rfl) ?_
  have hPc := hP.sub (ws' := [(a 0, .inr (7, [.ref (a 1), .ref (a 10), .ref (a 23), .ref (a 24), .ref (a 26), .ref (a 29), .ref (a 34), .ref (a 43), .int 0, .int 0, .int 0, .int 0])), (a 34, .inr (2, [.ref (a 35), .ref (a 36), .ref (a 37), .ref (a 38), .ref (a 39), .ref (a 40), .ref (a 41), .ref (a 42), .int 0])), (a 35, .inl (cI, 8, .inl (fun _ => (0 : Int32)))), (a 36, .inl (cI, 8, .inl (fun _ => (0 : Int32)))), (a 29, .inr (1, [.ref (a 30), .ref (a 31), .ref (a 32), .ref (a 33), .int 0]))]) [0, 1, 2, 3, 4] rfl
  have hDc := hD.sub (ws' := [(a 0, .inr (7, [.ref (a 1), .ref (a 10), .ref (a 23), .ref (a 24), .ref (a 26), .ref (a 29), .ref (a 34), .ref (a 43), .int 0, .int 0, .int 0, .int 0])), (a 34, .inr (2, [.ref (a 35), .ref (a 36), .ref (a 37), .ref (a 38), .ref (a 39), .ref (a 40), .ref (a 41), .ref (a 42), .int 0])), (a 35, .inl (cI, 8, .inl (fun _ => (0 : Int32)))), (a 36, .inl (cI, 8, .inl (fun _ => (0 : Int32)))), (a 29, .inr (1, [.ref (a 30), .ref (a 31), .ref (a 32), .ref (a 33), .int 0]))]) [0, 1, 2, 3, 4] (by decide) rfl
  have hKc := hK.sub (tys' := [(cI, .int)]) [0] rfl
  have hFc := va_free (wc := [(a 0, .inr (7, [.ref (a 1), .ref (a 10), .ref (a 23), .ref (a 24), .ref (a 26), .ref (a 29), .ref (a 34), .ref (a 43), .int 0, .int 0, .int 0, .int 0])), (a 34, .inr (2, [.ref (a 35), .ref (a 36), .ref (a 37), .ref (a 38), .ref (a 39), .ref (a 40), .ref (a 41), .ref (a 42), .int 0])), (a 35, .inl (cI, 8, .inl (fun _ => (0 : Int32)))), (a 36, .inl (cI, 8, .inl (fun _ => (0 : Int32)))), (a 29, .inr (1, [.ref (a 30), .ref (a 31), .ref (a 32), .ref (a 33), .int 0]))]) hD hS hA [0, 1, 2, 3, 4] rfl
  refine va_calli (va_runV (As := []) (rest := []) ⟨hx, hb, hml, hown, hw⟩ (k_payments l dC dI a cI H.size) ⟨callB_of 0 hw (zz_good tw_388) rfl rfl rfl (hw _ tw_2) (hw _ tw_389) (by decide +kernel) ⟨Nat.le_of_ble_eq_true rfl, Nat.le_of_ble_eq_true rfl⟩, (hw _ tw_390), (hw _ tw_391)⟩ ⟨zz_blind, va_recv hKc hPc (ci := 7) (q0 := 0) rfl rfl, zz_pre hPc hKc hDc hN⟩ rfl rfl hl.1 rfl (lv_room (Nat.le_of_ble_eq_true rfl)) dL_law_691 ⟨Nat.le_of_ble_eq_true rfl, Nat.le_of_ble_eq_true rfl⟩) hS (fun q _ h => hFc q h) hFc (fun r_1 u_1 t H1 locs ht hvm e_1 hB hz1 hk1 hS => ?_)
  try dsimp only at e_1
  have hP1 : va_P (dC, dI) vwCl [] H1 := zz_P0
  have hD1 : va_D (va_A [(a 0, .inr (7, [.ref (a 1), .ref (a 10), .ref (a 23), .ref (a 24), .ref (a 26), .ref (a 29), .ref (a 34), .ref (a 43), .int 0, .int 0, .int 0, .int 0])), (a 34, .inr (2, [.ref (a 35), .ref (a 36), .ref (a 37), .ref (a 38), .ref (a 39), .ref (a 40), .ref (a 41), .ref (a 42), .int 0])), (a 35, .inl (cI, 8, .inl (fun _ => (0 : Int32)))), (a 36, .inl (cI, 8, .inl (fun _ => (0 : Int32)))), (a 29, .inr (1, [.ref (a 30), .ref (a 31), .ref (a 32), .ref (a 33), .int 0]))] H.size) [] := zz_D0
  obtain ⟨hP, hD⟩ := va_join (wr := [(b 0, .inr (8, [.ref (b 1), .int 0, .int 0, .int 0, .int 0, .int 0, .int 0, .int 0, .int (-1), .int (-1), .ref (b 11), .ref (b 12), .ref (b 13), .int 0, .int 0, .ref (b 16), .ref (b 17), .ref (b 18), .ref (b 19), .ref (b 20), .ref (b 21), .ref (b 22), .ref (b 23), .ref (b 24), .int 0, .ref (b 26), .ref (b 27), .ref (b 28), .ref (b 29), .ref (b 30), .ref (b 31), .ref (b 32), .int 0, .int 0, .ref (b 35), .ref (b 36), .ref (b 37), .ref (b 38), .ref (b 39), .ref (b 40), .int 0, .ref (b 42), .ref (b 43), .ref (b 44), .int 0, .ref (b 46), .ref (b 47), .int 0, .ref (b 49)])), (b 40, .inl (cI, 256, .inl (fun _ => (0 : Int32))))]) (w1 := []) hP hD [0, 1, 2, 3, 4] [5, 6] rfl rfl (by decide) (by decide) hk1 hFc hP1 hD1
  clear hk1 ht hvm
  generalize H1 = H at hP hS ⊢
  have hP : va_P (dC, dI) vwCl [(b 0, .inr (8, [.ref (b 1), .int 0, .int 0, .int 0, .int 0, .int 0, .int 0, .int 0, .int (-1), .int (-1), .ref (b 11), .ref (b 12), .ref (b 13), .int 0, .int 0, .ref (b 16), .ref (b 17), .ref (b 18), .ref (b 19), .ref (b 20), .ref (b 21), .ref (b 22), .ref (b 23), .ref (b 24), .int 0, .ref (b 26), .ref (b 27), .ref (b 28), .ref (b 29), .ref (b 30), .ref (b 31), .ref (b 32), .int 0, .int 0, .ref (b 35), .ref (b 36), .ref (b 37), .ref (b 38), .ref (b 39), .ref (b 40), .int 0, .ref (b 42), .ref (b 43), .ref (b 44), .int 0, .ref (b 46), .ref (b 47), .int 0, .ref (b 49)])), (b 40, .inl (cI, 256, .inl (fun _ => (0 : Int32))))] H := hP
  have hD : va_D (fun q : Nat => s.heap.size ≤ q) [(b 0, .inr (8, [.ref (b 1), .int 0, .int 0, .int 0, .int 0, .int 0, .int 0, .int 0, .int (-1), .int (-1), .ref (b 11), .ref (b 12), .ref (b 13), .int 0, .int 0, .ref (b 16), .ref (b 17), .ref (b 18), .ref (b 19), .ref (b 20), .ref (b 21), .ref (b 22), .ref (b 23), .ref (b 24), .int 0, .ref (b 26), .ref (b 27), .ref (b 28), .ref (b 29), .ref (b 30), .ref (b 31), .ref (b 32), .int 0, .int 0, .ref (b 35), .ref (b 36), .ref (b 37), .ref (b 38), .ref (b 39), .ref (b 40), .int 0, .ref (b 42), .ref (b 43), .ref (b 44), .int 0, .ref (b 46), .ref (b 47), .int 0, .ref (b 49)])), (b 40, .inl (cI, 256, .inl (fun _ => (0 : Int32))))] := hD
  refine lv_aload_n hx hb dL_law_694 rfl (lv_at hl 1 rfl) ?_
  have hPc := hP.sub (ws' := [(b 0, .inr (8, [.ref (b 1), .int 0, .int 0, .int 0, .int 0, .int 0, .int 0, .int 0, .int (-1), .int (-1), .ref (b 11), .ref (b 12), .ref (b 13), .int 0, .int 0, .ref (b 16), .ref (b 17), .ref (b 18), .ref (b 19), .ref (b 20), .ref (b 21), .ref (b 22), .ref (b 23), .ref (b 24), .int 0, .ref (b 26), .ref (b 27), .ref (b 28), .ref (b 29), .ref (b 30), .ref (b 31), .ref (b 32), .int 0, .int 0, .ref (b 35), .ref (b 36), .ref (b 37), .ref (b 38), .ref (b 39), .ref (b 40), .int 0, .ref (b 42), .ref (b 43), .ref (b 44), .int 0, .ref (b 46), .ref (b 47), .int 0, .ref (b 49)])), (b 40, .inl (cI, 256, .inl (fun _ => (0 : Int32))))]) [0, 1] rfl
  have hDc := hD.sub (ws' := [(b 0, .inr (8, [.ref (b 1), .int 0, .int 0, .int 0, .int 0, .int 0, .int 0, .int 0, .int (-1), .int (-1), .ref (b 11), .ref (b 12), .ref (b 13), .int 0, .int 0, .ref (b 16), .ref (b 17), .ref (b 18), .ref (b 19), .ref (b 20), .ref (b 21), .ref (b 22), .ref (b 23), .ref (b 24), .int 0, .ref (b 26), .ref (b 27), .ref (b 28), .ref (b 29), .ref (b 30), .ref (b 31), .ref (b 32), .int 0, .int 0, .ref (b 35), .ref (b 36), .ref (b 37), .ref (b 38), .ref (b 39), .ref (b 40), .int 0, .ref (b 42), .ref (b 43), .ref (b 44), .int 0, .ref (b 46), .ref (b 47), .int 0, .ref (b 49)])), (b 40, .inl (cI, 256, .inl (fun _ => (0 : Int32))))]) [0, 1] (by decide) rfl
  have hKc := hK.sub (tys' := [(cI, .int)]) [0] rfl
  have hFc := va_free (wc := [(b 0, .inr (8, [.ref (b 1), .int 0, .int 0, .int 0, .int 0, .int 0, .int 0, .int 0, .int (-1), .int (-1), .ref (b 11), .ref (b 12), .ref (b 13), .int 0, .int 0, .ref (b 16), .ref (b 17), .ref (b 18), .ref (b 19), .ref (b 20), .ref (b 21), .ref (b 22), .ref (b 23), .ref (b 24), .int 0, .ref (b 26), .ref (b 27), .ref (b 28), .ref (b 29), .ref (b 30), .ref (b 31), .ref (b 32), .int 0, .int 0, .ref (b 35), .ref (b 36), .ref (b 37), .ref (b 38), .ref (b 39), .ref (b 40), .int 0, .ref (b 42), .ref (b 43), .ref (b 44), .int 0, .ref (b 46), .ref (b 47), .int 0, .ref (b 49)])), (b 40, .inl (cI, 256, .inl (fun _ => (0 : Int32))))]) hD hS hA [0, 1] rfl
  refine va_calli (va_runV (As := []) (rest := [.int r_1]) ⟨hx, hb, hml, hown, hw⟩ (m_payments l dC dI b cI H.size) ⟨callB_of 0 hw (zz_good tw_392) rfl rfl rfl (hw _ tw_95) (hw _ tw_393) (by decide +kernel) ⟨Nat.le_of_ble_eq_true rfl, Nat.le_of_ble_eq_true rfl⟩, (hw _ tw_394), (hw _ tw_395)⟩ ⟨zz_blind, va_recv hKc hPc (ci := 8) (q0 := 0) rfl rfl, zz_pre hPc hKc hDc hN⟩ rfl rfl hl.1 rfl (lv_room (Nat.le_of_ble_eq_true rfl)) dL_law_695 ⟨Nat.le_of_ble_eq_true rfl, Nat.le_of_ble_eq_true rfl⟩) hS (fun q _ h => hFc q h) hFc (fun r_2 u_2 t H1 locs ht hvm e_2 hB hz1 hk1 hS => ?_)
  try dsimp only at e_2
  have hP1 : va_P (dC, dI) vwCl [] H1 := zz_P0
  have hD1 : va_D (va_A [(b 0, .inr (8, [.ref (b 1), .int 0, .int 0, .int 0, .int 0, .int 0, .int 0, .int 0, .int (-1), .int (-1), .ref (b 11), .ref (b 12), .ref (b 13), .int 0, .int 0, .ref (b 16), .ref (b 17), .ref (b 18), .ref (b 19), .ref (b 20), .ref (b 21), .ref (b 22), .ref (b 23), .ref (b 24), .int 0, .ref (b 26), .ref (b 27), .ref (b 28), .ref (b 29), .ref (b 30), .ref (b 31), .ref (b 32), .int 0, .int 0, .ref (b 35), .ref (b 36), .ref (b 37), .ref (b 38), .ref (b 39), .ref (b 40), .int 0, .ref (b 42), .ref (b 43), .ref (b 44), .int 0, .ref (b 46), .ref (b 47), .int 0, .ref (b 49)])), (b 40, .inl (cI, 256, .inl (fun _ => (0 : Int32))))] H.size) [] := zz_D0
  obtain ⟨hP, hD⟩ := va_join (wr := []) (w1 := []) hP hD [0, 1] [] rfl rfl (by decide) (by decide) hk1 hFc hP1 hD1
  clear hk1 ht hvm
  generalize H1 = H at hP hS ⊢
  have hP : va_P (dC, dI) vwCl [] H := hP
  have hD : va_D (fun q : Nat => s.heap.size ≤ q) [] := hD
  refine lv_icmp_eq (tgt := 818) hx hb dL_law_698 (by decide) (fun _ => ?_) (fun c_3 => absurd c_3 (fun z9 => z9 (e_1.trans e_2.symm)))
  exact law_end l hL6 C0 hS (lv_sub hl [0, 3] rfl) (by decide) (by decide)


set_option maxHeartbeats 4000000 in
set_option maxRecDepth 100000 in
theorem lc_payment {p : Program} {e : Env} {s : State} {m : MethodId} {below : List Frame} {meth : Method} {c : Code} (l : Launch) {sb L : Nat} {xs : Nat → Int32} (hL6 : L = 6) (C0 : lw_At p s m meth c sb L xs) {dC : Nat → ClassId} {dI : Nat → Nat → Nat} (hN : zz_N s) (a : Nat → Nat) (cI : ClassId) (b : Nat → Nat) {H : Heap} {locs : List Loc} {ls : Array Slot} (hK : va_K (dC, dI) vwCl [(cI, .int)] s) (hP : va_P (dC, dI) vwCl [(a 0, .inr (7, [.ref (a 1), .ref (a 10), .ref (a 23), .ref (a 24), .ref (a 26), .ref (a 29), .ref (a 34), .ref (a 43), .int 0, .int 0, .int 0, .int 0])), (a 34, .inr (2, [.ref (a 35), .ref (a 36), .ref (a 37), .ref (a 38), .ref (a 39), .ref (a 40), .ref (a 41), .ref (a 42), .int 0])), (a 35, .inl (cI, 8, .inl (fun _ => (0 : Int32)))), (a 36, .inl (cI, 8, .inl (fun _ => (0 : Int32)))), (a 29, .inr (1, [.ref (a 30), .ref (a 31), .ref (a 32), .ref (a 33), .int 0])), (b 0, .inr (8, [.ref (b 1), .int 0, .int 0, .int 0, .int 0, .int 0, .int 0, .int 0, .int (-1), .int (-1), .ref (b 11), .ref (b 12), .ref (b 13), .int 0, .int 0, .ref (b 16), .ref (b 17), .ref (b 18), .ref (b 19), .ref (b 20), .ref (b 21), .ref (b 22), .ref (b 23), .ref (b 24), .int 0, .ref (b 26), .ref (b 27), .ref (b 28), .ref (b 29), .ref (b 30), .ref (b 31), .ref (b 32), .int 0, .int 0, .ref (b 35), .ref (b 36), .ref (b 37), .ref (b 38), .ref (b 39), .ref (b 40), .int 0, .ref (b 42), .ref (b 43), .ref (b 44), .int 0, .ref (b 46), .ref (b 47), .int 0, .ref (b 49)])), (b 40, .inl (cI, 256, .inl (fun _ => (0 : Int32))))] H) (hD : va_D (fun q : Nat => s.heap.size ≤ q) [(a 0, .inr (7, [.ref (a 1), .ref (a 10), .ref (a 23), .ref (a 24), .ref (a 26), .ref (a 29), .ref (a 34), .ref (a 43), .int 0, .int 0, .int 0, .int 0])), (a 34, .inr (2, [.ref (a 35), .ref (a 36), .ref (a 37), .ref (a 38), .ref (a 39), .ref (a 40), .ref (a 41), .ref (a 42), .int 0])), (a 35, .inl (cI, 8, .inl (fun _ => (0 : Int32)))), (a 36, .inl (cI, 8, .inl (fun _ => (0 : Int32)))), (a 29, .inr (1, [.ref (a 30), .ref (a 31), .ref (a 32), .ref (a 33), .int 0])), (b 0, .inr (8, [.ref (b 1), .int 0, .int 0, .int 0, .int 0, .int 0, .int 0, .int 0, .int (-1), .int (-1), .ref (b 11), .ref (b 12), .ref (b 13), .int 0, .int 0, .ref (b 16), .ref (b 17), .ref (b 18), .ref (b 19), .ref (b 20), .ref (b 21), .ref (b 22), .ref (b 23), .ref (b 24), .int 0, .ref (b 26), .ref (b 27), .ref (b 28), .ref (b 29), .ref (b 30), .ref (b 31), .ref (b 32), .int 0, .int 0, .ref (b 35), .ref (b 36), .ref (b 37), .ref (b 38), .ref (b 39), .ref (b 40), .int 0, .ref (b 42), .ref (b 43), .ref (b 44), .int 0, .ref (b 46), .ref (b 47), .int 0, .ref (b 49)])), (b 40, .inl (cI, 256, .inl (fun _ => (0 : Int32))))]) (hS : va_S (fun q : Nat => s.heap.size ≤ q) s.heap H locs) (hl : lv_has ls 4 [(3, .int 0), (2, .ref (b 0)), (1, .ref (a 0)), (0, .ref sb)]) : W p l e room_1 s m #[Value.ref sb] below meth c H locs 85 4448 (lw_Z below #[Value.ref sb] s) (F0 m 703 ls []) := by
  obtain ⟨hx, hb, hr, hml, hown, hts, hX, hbl, hlocks, hgv⟩ := id C0
  have hw : ∀ w ∈ zz_all, w.before #[Value.ref sb] s = true := fun w h => hts w (zz_in_tbl h)
  have hown : s.vm.findClass RL = some m.cls := hown
  have hA : ∀ q : Nat, s.heap.size ≤ q → (fun q : Nat => s.heap.size ≤ q) q := fun _ h => h
  have hbA : ¬ (fun q : Nat => s.heap.size ≤ q) sb := Nat.not_le.mpr hbl
  refine lv_aload_n hx hb dL_law_703 rfl (lv_at hl 2 rfl) ?_
  refine lv_aload_n hx hb dL_law_704 rfl (lv_at hl 3 rfl) ?_
  refine lv_iload_n hx hb dL_law_705 rfl (lv_at hl 0 rfl) ?_
  refine lv_iconst (v := 1) hx hb dL_law_706 (by decide) ?_
  refine lv_iadd hx hb dL_law_707 ?_
  refine zz_seti 1 (by decide) ?_
  refine va_sld hx hb hX hbl hbA hS (by rw [hL6]; exact zz_vin (by decide)) dL_law_708 ?_
  refine lv_aload_n hx hb dL_law_709 rfl (lv_at hl 3 rfl) ?_
  refine lv_iload_n hx hb dL_law_710 rfl (lv_at hl 0 rfl) ?_
  refine lv_iconst (v := 2) hx hb dL_law_711 (by decide) ?_
  refine lv_iadd hx hb dL_law_712 ?_
  refine zz_seti 2 (by decide) ?_
  refine va_sld hx hb hX hbl hbA hS (by rw [hL6]; exact zz_vin (by decide)) dL_law_713 ?_
  have hPc := hP.sub (ws' := [(a 0, .inr (7, [.ref (a 1), .ref (a 10), .ref (a 23), .ref (a 24), .ref (a 26), .ref (a 29), .ref (a 34), .ref (a 43), .int 0, .int 0, .int 0, .int 0])), (a 34, .inr (2, [.ref (a 35), .ref (a 36), .ref (a 37), .ref (a 38), .ref (a 39), .ref (a 40), .ref (a 41), .ref (a 42), .int 0])), (a 35, .inl (cI, 8, .inl (fun _ => (0 : Int32)))), (a 36, .inl (cI, 8, .inl (fun _ => (0 : Int32)))), (a 29, .inr (1, [.ref (a 30), .ref (a 31), .ref (a 32), .ref (a 33), .int 0]))]) [0, 1, 2, 3, 4] rfl
  have hDc := hD.sub (ws' := [(a 0, .inr (7, [.ref (a 1), .ref (a 10), .ref (a 23), .ref (a 24), .ref (a 26), .ref (a 29), .ref (a 34), .ref (a 43), .int 0, .int 0, .int 0, .int 0])), (a 34, .inr (2, [.ref (a 35), .ref (a 36), .ref (a 37), .ref (a 38), .ref (a 39), .ref (a 40), .ref (a 41), .ref (a 42), .int 0])), (a 35, .inl (cI, 8, .inl (fun _ => (0 : Int32)))), (a 36, .inl (cI, 8, .inl (fun _ => (0 : Int32)))), (a 29, .inr (1, [.ref (a 30), .ref (a 31), .ref (a 32), .ref (a 33), .int 0]))]) [0, 1, 2, 3, 4] (by decide) rfl
  have hKc := hK.sub (tys' := [(cI, .int)]) [0] rfl
  have hFc := va_free (wc := [(a 0, .inr (7, [.ref (a 1), .ref (a 10), .ref (a 23), .ref (a 24), .ref (a 26), .ref (a 29), .ref (a 34), .ref (a 43), .int 0, .int 0, .int 0, .int 0])), (a 34, .inr (2, [.ref (a 35), .ref (a 36), .ref (a 37), .ref (a 38), .ref (a 39), .ref (a 40), .ref (a 41), .ref (a 42), .int 0])), (a 35, .inl (cI, 8, .inl (fun _ => (0 : Int32)))), (a 36, .inl (cI, 8, .inl (fun _ => (0 : Int32)))), (a 29, .inr (1, [.ref (a 30), .ref (a 31), .ref (a 32), .ref (a 33), .int 0]))]) hD hS hA [0, 1, 2, 3, 4] rfl
  refine va_calli (va_runV (As := [.int (xs (Int32.toNatClampNeg 1)), .int (xs (Int32.toNatClampNeg 2))]) (rest := []) ⟨hx, hb, hml, hown, hw⟩ (k_payment l dC dI a cI (xs (Int32.toNatClampNeg 1)) (xs (Int32.toNatClampNeg 2)) H.size) ⟨callB_of 2 hw (zz_good tw_396) rfl rfl rfl (hw _ tw_2) (hw _ tw_397) (by decide +kernel) ⟨Nat.le_of_ble_eq_true rfl, Nat.le_of_ble_eq_true rfl⟩, (hw _ tw_398), (hw _ tw_399)⟩ ⟨zz_blind, va_recv hKc hPc (ci := 7) (q0 := 0) rfl rfl, zz_pre hPc hKc hDc hN⟩ rfl rfl hl.1 rfl (lv_room (Nat.le_of_ble_eq_true rfl)) dL_law_714 ⟨Nat.le_of_ble_eq_true rfl, Nat.le_of_ble_eq_true rfl⟩) hS (fun q _ h => hFc q h) hFc (fun r_1 u_1 t H1 locs ht hvm e_1 hB hz1 hk1 hS => ?_)
  try dsimp only at e_1
  have hP1 : va_P (dC, dI) vwCl [] H1 := zz_P0
  have hD1 : va_D (va_A [(a 0, .inr (7, [.ref (a 1), .ref (a 10), .ref (a 23), .ref (a 24), .ref (a 26), .ref (a 29), .ref (a 34), .ref (a 43), .int 0, .int 0, .int 0, .int 0])), (a 34, .inr (2, [.ref (a 35), .ref (a 36), .ref (a 37), .ref (a 38), .ref (a 39), .ref (a 40), .ref (a 41), .ref (a 42), .int 0])), (a 35, .inl (cI, 8, .inl (fun _ => (0 : Int32)))), (a 36, .inl (cI, 8, .inl (fun _ => (0 : Int32)))), (a 29, .inr (1, [.ref (a 30), .ref (a 31), .ref (a 32), .ref (a 33), .int 0]))] H.size) [] := zz_D0
  obtain ⟨hP, hD⟩ := va_join (wr := [(b 0, .inr (8, [.ref (b 1), .int 0, .int 0, .int 0, .int 0, .int 0, .int 0, .int 0, .int (-1), .int (-1), .ref (b 11), .ref (b 12), .ref (b 13), .int 0, .int 0, .ref (b 16), .ref (b 17), .ref (b 18), .ref (b 19), .ref (b 20), .ref (b 21), .ref (b 22), .ref (b 23), .ref (b 24), .int 0, .ref (b 26), .ref (b 27), .ref (b 28), .ref (b 29), .ref (b 30), .ref (b 31), .ref (b 32), .int 0, .int 0, .ref (b 35), .ref (b 36), .ref (b 37), .ref (b 38), .ref (b 39), .ref (b 40), .int 0, .ref (b 42), .ref (b 43), .ref (b 44), .int 0, .ref (b 46), .ref (b 47), .int 0, .ref (b 49)])), (b 40, .inl (cI, 256, .inl (fun _ => (0 : Int32))))]) (w1 := []) hP hD [0, 1, 2, 3, 4] [5, 6] rfl rfl (by decide) (by decide) hk1 hFc hP1 hD1
  clear hk1 ht hvm
  generalize H1 = H at hP hS ⊢
  have hP : va_P (dC, dI) vwCl [(b 0, .inr (8, [.ref (b 1), .int 0, .int 0, .int 0, .int 0, .int 0, .int 0, .int 0, .int (-1), .int (-1), .ref (b 11), .ref (b 12), .ref (b 13), .int 0, .int 0, .ref (b 16), .ref (b 17), .ref (b 18), .ref (b 19), .ref (b 20), .ref (b 21), .ref (b 22), .ref (b 23), .ref (b 24), .int 0, .ref (b 26), .ref (b 27), .ref (b 28), .ref (b 29), .ref (b 30), .ref (b 31), .ref (b 32), .int 0, .int 0, .ref (b 35), .ref (b 36), .ref (b 37), .ref (b 38), .ref (b 39), .ref (b 40), .int 0, .ref (b 42), .ref (b 43), .ref (b 44), .int 0, .ref (b 46), .ref (b 47), .int 0, .ref (b 49)])), (b 40, .inl (cI, 256, .inl (fun _ => (0 : Int32))))] H := hP
  have hD : va_D (fun q : Nat => s.heap.size ≤ q) [(b 0, .inr (8, [.ref (b 1), .int 0, .int 0, .int 0, .int 0, .int 0, .int 0, .int 0, .int (-1), .int (-1), .ref (b 11), .ref (b 12), .ref (b 13), .int 0, .int 0, .ref (b 16), .ref (b 17), .ref (b 18), .ref (b 19), .ref (b 20), .ref (b 21), .ref (b 22), .ref (b 23), .ref (b 24), .int 0, .ref (b 26), .ref (b 27), .ref (b 28), .ref (b 29), .ref (b 30), .ref (b 31), .ref (b 32), .int 0, .int 0, .ref (b 35), .ref (b 36), .ref (b 37), .ref (b 38), .ref (b 39), .ref (b 40), .int 0, .ref (b 42), .ref (b 43), .ref (b 44), .int 0, .ref (b 46), .ref (b 47), .int 0, .ref (b 49)])), (b 40, .inl (cI, 256, .inl (fun _ => (0 : Int32))))] := hD
  refine lv_aload_n hx hb dL_law_717 rfl (lv_at hl 1 rfl) ?_
  refine lv_aload_n hx hb dL_law_718 rfl (lv_at hl 3 rfl) ?_
  refine lv_iload_n hx hb dL_law_719 rfl (lv_at hl 0 rfl) ?_
  refine lv_iconst (v := 1) hx hb dL_law_720 (by decide) ?_
  refine lv_iadd hx hb dL_law_721 ?_
  refine zz_seti 1 (by decide) ?_
  refine va_sld hx hb hX hbl hbA hS (by rw [hL6]; exact zz_vin (by decide)) dL_law_722 ?_
  refine lv_aload_n hx hb dL_law_723 rfl (lv_at hl 3 rfl) ?_
  refine lv_iload_n hx hb dL_law_724 rfl (lv_at hl 0 rfl) ?_
  refine lv_iconst (v := 2) hx hb dL_law_725 (by decide) ?_
  refine lv_iadd hx hb dL_law_726 ?_
  refine zz_seti 2 (by decide) ?_
  refine va_sld hx hb hX hbl hbA hS (by rw [hL6]; exact zz_vin (by decide)) dL_law_727 ?_
  have hPc := hP.sub (ws' := [(b 0, .inr (8, [.ref (b 1), .int 0, .int 0, .int 0, .int 0, .int 0, .int 0, .int 0, .int (-1), .int (-1), .ref (b 11), .ref (b 12), .ref (b 13), .int 0, .int 0, .ref (b 16), .ref (b 17), .ref (b 18), .ref (b 19), .ref (b 20), .ref (b 21), .ref (b 22), .ref (b 23), .ref (b 24), .int 0, .ref (b 26), .ref (b 27), .ref (b 28), .ref (b 29), .ref (b 30), .ref (b 31), .ref (b 32), .int 0, .int 0, .ref (b 35), .ref (b 36), .ref (b 37), .ref (b 38), .ref (b 39), .ref (b 40), .int 0, .ref (b 42), .ref (b 43), .ref (b 44), .int 0, .ref (b 46), .ref (b 47), .int 0, .ref (b 49)])), (b 40, .inl (cI, 256, .inl (fun _ => (0 : Int32))))]) [0, 1] rfl
  have hDc := hD.sub (ws' := [(b 0, .inr (8, [.ref (b 1), .int 0, .int 0, .int 0, .int 0, .int 0, .int 0, .int 0, .int (-1), .int (-1), .ref (b 11), .ref (b 12), .ref (b 13), .int 0, .int 0, .ref (b 16), .ref (b 17), .ref (b 18), .ref (b 19), .ref (b 20), .ref (b 21), .ref (b 22), .ref (b 23), .ref (b 24), .int 0, .ref (b 26), .ref (b 27), .ref (b 28), .ref (b 29), .ref (b 30), .ref (b 31), .ref (b 32), .int 0, .int 0, .ref (b 35), .ref (b 36), .ref (b 37), .ref (b 38), .ref (b 39), .ref (b 40), .int 0, .ref (b 42), .ref (b 43), .ref (b 44), .int 0, .ref (b 46), .ref (b 47), .int 0, .ref (b 49)])), (b 40, .inl (cI, 256, .inl (fun _ => (0 : Int32))))]) [0, 1] (by decide) rfl
  have hKc := hK.sub (tys' := [(cI, .int)]) [0] rfl
  have hFc := va_free (wc := [(b 0, .inr (8, [.ref (b 1), .int 0, .int 0, .int 0, .int 0, .int 0, .int 0, .int 0, .int (-1), .int (-1), .ref (b 11), .ref (b 12), .ref (b 13), .int 0, .int 0, .ref (b 16), .ref (b 17), .ref (b 18), .ref (b 19), .ref (b 20), .ref (b 21), .ref (b 22), .ref (b 23), .ref (b 24), .int 0, .ref (b 26), .ref (b 27), .ref (b 28), .ref (b 29), .ref (b 30), .ref (b 31), .ref (b 32), .int 0, .int 0, .ref (b 35), .ref (b 36), .ref (b 37), .ref (b 38), .ref (b 39), .ref (b 40), .int 0, .ref (b 42), .ref (b 43), .ref (b 44), .int 0, .ref (b 46), .ref (b 47), .int 0, .ref (b 49)])), (b 40, .inl (cI, 256, .inl (fun _ => (0 : Int32))))]) hD hS hA [0, 1] rfl
  refine va_calli (va_runV (As := [.int (xs (Int32.toNatClampNeg 1)), .int (xs (Int32.toNatClampNeg 2))]) (rest := [.int r_1]) ⟨hx, hb, hml, hown, hw⟩ (m_payment l dC dI b cI (xs (Int32.toNatClampNeg 1)) (xs (Int32.toNatClampNeg 2)) H.size) ⟨callB_of 2 hw (zz_good tw_400) rfl rfl rfl (hw _ tw_95) (hw _ tw_401) (by decide +kernel) ⟨Nat.le_of_ble_eq_true rfl, Nat.le_of_ble_eq_true rfl⟩, (hw _ tw_402), (hw _ tw_403)⟩ ⟨zz_blind, va_recv hKc hPc (ci := 8) (q0 := 0) rfl rfl, zz_pre hPc hKc hDc hN⟩ rfl rfl hl.1 rfl (lv_room (Nat.le_of_ble_eq_true rfl)) dL_law_728 ⟨Nat.le_of_ble_eq_true rfl, Nat.le_of_ble_eq_true rfl⟩) hS (fun q _ h => hFc q h) hFc (fun r_2 u_2 t H1 locs ht hvm e_2 hB hz1 hk1 hS => ?_)
  try dsimp only at e_2
  have hP1 : va_P (dC, dI) vwCl [] H1 := zz_P0
  have hD1 : va_D (va_A [(b 0, .inr (8, [.ref (b 1), .int 0, .int 0, .int 0, .int 0, .int 0, .int 0, .int 0, .int (-1), .int (-1), .ref (b 11), .ref (b 12), .ref (b 13), .int 0, .int 0, .ref (b 16), .ref (b 17), .ref (b 18), .ref (b 19), .ref (b 20), .ref (b 21), .ref (b 22), .ref (b 23), .ref (b 24), .int 0, .ref (b 26), .ref (b 27), .ref (b 28), .ref (b 29), .ref (b 30), .ref (b 31), .ref (b 32), .int 0, .int 0, .ref (b 35), .ref (b 36), .ref (b 37), .ref (b 38), .ref (b 39), .ref (b 40), .int 0, .ref (b 42), .ref (b 43), .ref (b 44), .int 0, .ref (b 46), .ref (b 47), .int 0, .ref (b 49)])), (b 40, .inl (cI, 256, .inl (fun _ => (0 : Int32))))] H.size) [] := zz_D0
  obtain ⟨hP, hD⟩ := va_join (wr := []) (w1 := []) hP hD [0, 1] [] rfl rfl (by decide) (by decide) hk1 hFc hP1 hD1
  clear hk1 ht hvm
  generalize H1 = H at hP hS ⊢
  have hP : va_P (dC, dI) vwCl [] H := hP
  have hD : va_D (fun q : Nat => s.heap.size ≤ q) [] := hD
  refine lv_icmp_eq (tgt := 818) hx hb dL_law_731 (by decide) (fun _ => ?_) (fun c_3 => absurd c_3 (fun z9 => z9 (e_1.trans e_2.symm)))
  exact law_end l hL6 C0 hS (lv_sub hl [0, 3] rfl) (by decide) (by decide)


set_option maxHeartbeats 4000000 in
set_option maxRecDepth 100000 in
theorem lc_even {p : Program} {e : Env} {s : State} {m : MethodId} {below : List Frame} {meth : Method} {c : Code} (l : Launch) {sb L : Nat} {xs : Nat → Int32} (hL6 : L = 6) (C0 : lw_At p s m meth c sb L xs) {dC : Nat → ClassId} {dI : Nat → Nat → Nat} (hN : zz_N s) (a : Nat → Nat) (b : Nat → Nat) (cI : ClassId) {H : Heap} {locs : List Loc} {ls : Array Slot} (hK : va_K (dC, dI) vwCl [(cI, .int)] s) (hP : va_P (dC, dI) vwCl [(a 0, .inr (7, [.ref (a 1), .ref (a 10), .ref (a 23), .ref (a 24), .ref (a 26), .ref (a 29), .ref (a 34), .ref (a 43), .int 0, .int 0, .int 0, .int 0])), (a 29, .inr (1, [.ref (a 30), .ref (a 31), .ref (a 32), .ref (a 33), .int 0])), (b 0, .inr (8, [.ref (b 1), .int 0, .int 0, .int 0, .int 0, .int 0, .int 0, .int 0, .int (-1), .int (-1), .ref (b 11), .ref (b 12), .ref (b 13), .int 0, .int 0, .ref (b 16), .ref (b 17), .ref (b 18), .ref (b 19), .ref (b 20), .ref (b 21), .ref (b 22), .ref (b 23), .ref (b 24), .int 0, .ref (b 26), .ref (b 27), .ref (b 28), .ref (b 29), .ref (b 30), .ref (b 31), .ref (b 32), .int 0, .int 0, .ref (b 35), .ref (b 36), .ref (b 37), .ref (b 38), .ref (b 39), .ref (b 40), .int 0, .ref (b 42), .ref (b 43), .ref (b 44), .int 0, .ref (b 46), .ref (b 47), .int 0, .ref (b 49)])), (b 40, .inl (cI, 256, .inl (fun _ => (0 : Int32))))] H) (hD : va_D (fun q : Nat => s.heap.size ≤ q) [(a 0, .inr (7, [.ref (a 1), .ref (a 10), .ref (a 23), .ref (a 24), .ref (a 26), .ref (a 29), .ref (a 34), .ref (a 43), .int 0, .int 0, .int 0, .int 0])), (a 29, .inr (1, [.ref (a 30), .ref (a 31), .ref (a 32), .ref (a 33), .int 0])), (b 0, .inr (8, [.ref (b 1), .int 0, .int 0, .int 0, .int 0, .int 0, .int 0, .int 0, .int (-1), .int (-1), .ref (b 11), .ref (b 12), .ref (b 13), .int 0, .int 0, .ref (b 16), .ref (b 17), .ref (b 18), .ref (b 19), .ref (b 20), .ref (b 21), .ref (b 22), .ref (b 23), .ref (b 24), .int 0, .ref (b 26), .ref (b 27), .ref (b 28), .ref (b 29), .ref (b 30), .ref (b 31), .ref (b 32), .int 0, .int 0, .ref (b 35), .ref (b 36), .ref (b 37), .ref (b 38), .ref (b 39), .ref (b 40), .int 0, .ref (b 42), .ref (b 43), .ref (b 44), .int 0, .ref (b 46), .ref (b 47), .int 0, .ref (b 49)])), (b 40, .inl (cI, 256, .inl (fun _ => (0 : Int32))))]) (hS : va_S (fun q : Nat => s.heap.size ≤ q) s.heap H locs) (hl : lv_has ls 4 [(3, .int 0), (2, .ref (b 0)), (1, .ref (a 0)), (0, .ref sb)]) : W p l e room_1 s m #[Value.ref sb] below meth c H locs 85 4448 (lw_Z below #[Value.ref sb] s) (F0 m 736 ls []) := by
  obtain ⟨hx, hb, hr, hml, hown, hts, hX, hbl, hlocks, hgv⟩ := id C0
  have hw : ∀ w ∈ zz_all, w.before #[Value.ref sb] s = true := fun w h => hts w (zz_in_tbl h)
  have hown : s.vm.findClass RL = some m.cls := hown
  have hA : ∀ q : Nat, s.heap.size ≤ q → (fun q : Nat => s.heap.size ≤ q) q := fun _ h => h
  have hbA : ¬ (fun q : Nat => s.heap.size ≤ q) sb := Nat.not_le.mpr hbl
  refine lv_aload_n hx hb dL_law_736 rfl (lv_at hl 2 rfl) ?_
  have hPc := hP.sub (ws' := [(a 0, .inr (7, [.ref (a 1), .ref (a 10), .ref (a 23), .ref (a 24), .ref (a 26), .ref (a 29), .ref (a 34), .ref (a 43), .int 0, .int 0, .int 0, .int 0])), (a 29, .inr (1, [.ref (a 30), .ref (a 31), .ref (a 32), .ref (a 33), .int 0]))]) [0, 1] rfl
  have hDc := hD.sub (ws' := [(a 0, .inr (7, [.ref (a 1), .ref (a 10), .ref (a 23), .ref (a 24), .ref (a 26), .ref (a 29), .ref (a 34), .ref (a 43), .int 0, .int 0, .int 0, .int 0])), (a 29, .inr (1, [.ref (a 30), .ref (a 31), .ref (a 32), .ref (a 33), .int 0]))]) [0, 1] (by decide) rfl
  have hKc := hK.sub (tys' := []) [] rfl
  have hFc := va_free (wc := [(a 0, .inr (7, [.ref (a 1), .ref (a 10), .ref (a 23), .ref (a 24), .ref (a 26), .ref (a 29), .ref (a 34), .ref (a 43), .int 0, .int 0, .int 0, .int 0])), (a 29, .inr (1, [.ref (a 30), .ref (a 31), .ref (a 32), .ref (a 33), .int 0]))]) hD hS hA [0, 1] rfl
  refine va_calli (va_runV (As := []) (rest := []) ⟨hx, hb, hml, hown, hw⟩ (k_even l dC dI a H.size) ⟨callB_of 0 hw (zz_good tw_404) rfl rfl rfl (hw _ tw_2) (hw _ tw_405) (by decide +kernel) ⟨Nat.le_of_ble_eq_true rfl, Nat.le_of_ble_eq_true rfl⟩, (hw _ tw_406), (hw _ tw_407)⟩ ⟨zz_blind, va_recv hKc hPc (ci := 7) (q0 := 0) rfl rfl, zz_pre hPc hKc hDc hN⟩ rfl rfl hl.1 rfl (lv_room (Nat.le_of_ble_eq_true rfl)) dL_law_737 ⟨Nat.le_of_ble_eq_true rfl, Nat.le_of_ble_eq_true rfl⟩) hS (fun q _ h => hFc q h) hFc (fun r_1 u_1 t H1 locs ht hvm e_1 hB hz1 hk1 hS => ?_)
  try dsimp only at e_1
  have hP1 : va_P (dC, dI) vwCl [] H1 := zz_P0
  have hD1 : va_D (va_A [(a 0, .inr (7, [.ref (a 1), .ref (a 10), .ref (a 23), .ref (a 24), .ref (a 26), .ref (a 29), .ref (a 34), .ref (a 43), .int 0, .int 0, .int 0, .int 0])), (a 29, .inr (1, [.ref (a 30), .ref (a 31), .ref (a 32), .ref (a 33), .int 0]))] H.size) [] := zz_D0
  obtain ⟨hP, hD⟩ := va_join (wr := [(b 0, .inr (8, [.ref (b 1), .int 0, .int 0, .int 0, .int 0, .int 0, .int 0, .int 0, .int (-1), .int (-1), .ref (b 11), .ref (b 12), .ref (b 13), .int 0, .int 0, .ref (b 16), .ref (b 17), .ref (b 18), .ref (b 19), .ref (b 20), .ref (b 21), .ref (b 22), .ref (b 23), .ref (b 24), .int 0, .ref (b 26), .ref (b 27), .ref (b 28), .ref (b 29), .ref (b 30), .ref (b 31), .ref (b 32), .int 0, .int 0, .ref (b 35), .ref (b 36), .ref (b 37), .ref (b 38), .ref (b 39), .ref (b 40), .int 0, .ref (b 42), .ref (b 43), .ref (b 44), .int 0, .ref (b 46), .ref (b 47), .int 0, .ref (b 49)])), (b 40, .inl (cI, 256, .inl (fun _ => (0 : Int32))))]) (w1 := []) hP hD [0, 1] [2, 3] rfl rfl (by decide) (by decide) hk1 hFc hP1 hD1
  clear hk1 ht hvm
  generalize H1 = H at hP hS ⊢
  have hP : va_P (dC, dI) vwCl [(b 0, .inr (8, [.ref (b 1), .int 0, .int 0, .int 0, .int 0, .int 0, .int 0, .int 0, .int (-1), .int (-1), .ref (b 11), .ref (b 12), .ref (b 13), .int 0, .int 0, .ref (b 16), .ref (b 17), .ref (b 18), .ref (b 19), .ref (b 20), .ref (b 21), .ref (b 22), .ref (b 23), .ref (b 24), .int 0, .ref (b 26), .ref (b 27), .ref (b 28), .ref (b 29), .ref (b 30), .ref (b 31), .ref (b 32), .int 0, .int 0, .ref (b 35), .ref (b 36), .ref (b 37), .ref (b 38), .ref (b 39), .ref (b 40), .int 0, .ref (b 42), .ref (b 43), .ref (b 44), .int 0, .ref (b 46), .ref (b 47), .int 0, .ref (b 49)])), (b 40, .inl (cI, 256, .inl (fun _ => (0 : Int32))))] H := hP
  have hD : va_D (fun q : Nat => s.heap.size ≤ q) [(b 0, .inr (8, [.ref (b 1), .int 0, .int 0, .int 0, .int 0, .int 0, .int 0, .int 0, .int (-1), .int (-1), .ref (b 11), .ref (b 12), .ref (b 13), .int 0, .int 0, .ref (b 16), .ref (b 17), .ref (b 18), .ref (b 19), .ref (b 20), .ref (b 21), .ref (b 22), .ref (b 23), .ref (b 24), .int 0, .ref (b 26), .ref (b 27), .ref (b 28), .ref (b 29), .ref (b 30), .ref (b 31), .ref (b 32), .int 0, .int 0, .ref (b 35), .ref (b 36), .ref (b 37), .ref (b 38), .ref (b 39), .ref (b 40), .int 0, .ref (b 42), .ref (b 43), .ref (b 44), .int 0, .ref (b 46), .ref (b 47), .int 0, .ref (b 49)])), (b 40, .inl (cI, 256, .inl (fun _ => (0 : Int32))))] := hD
  refine lv_aload_n hx hb dL_law_740 rfl (lv_at hl 1 rfl) ?_
  have hPc := hP.sub (ws' := [(b 0, .inr (8, [.ref (b 1), .int 0, .int 0, .int 0, .int 0, .int 0, .int 0, .int 0, .int (-1), .int (-1), .ref (b 11), .ref (b 12), .ref (b 13), .int 0, .int 0, .ref (b 16), .ref (b 17), .ref (b 18), .ref (b 19), .ref (b 20), .ref (b 21), .ref (b 22), .ref (b 23), .ref (b 24), .int 0, .ref (b 26), .ref (b 27), .ref (b 28), .ref (b 29), .ref (b 30), .ref (b 31), .ref (b 32), .int 0, .int 0, .ref (b 35), .ref (b 36), .ref (b 37), .ref (b 38), .ref (b 39), .ref (b 40), .int 0, .ref (b 42), .ref (b 43), .ref (b 44), .int 0, .ref (b 46), .ref (b 47), .int 0, .ref (b 49)])), (b 40, .inl (cI, 256, .inl (fun _ => (0 : Int32))))]) [0, 1] rfl
  have hDc := hD.sub (ws' := [(b 0, .inr (8, [.ref (b 1), .int 0, .int 0, .int 0, .int 0, .int 0, .int 0, .int 0, .int (-1), .int (-1), .ref (b 11), .ref (b 12), .ref (b 13), .int 0, .int 0, .ref (b 16), .ref (b 17), .ref (b 18), .ref (b 19), .ref (b 20), .ref (b 21), .ref (b 22), .ref (b 23), .ref (b 24), .int 0, .ref (b 26), .ref (b 27), .ref (b 28), .ref (b 29), .ref (b 30), .ref (b 31), .ref (b 32), .int 0, .int 0, .ref (b 35), .ref (b 36), .ref (b 37), .ref (b 38), .ref (b 39), .ref (b 40), .int 0, .ref (b 42), .ref (b 43), .ref (b 44), .int 0, .ref (b 46), .ref (b 47), .int 0, .ref (b 49)])), (b 40, .inl (cI, 256, .inl (fun _ => (0 : Int32))))]) [0, 1] (by decide) rfl
  have hKc := hK.sub (tys' := [(cI, .int)]) [0] rfl
  have hFc := va_free (wc := [(b 0, .inr (8, [.ref (b 1), .int 0, .int 0, .int 0, .int 0, .int 0, .int 0, .int 0, .int (-1), .int (-1), .ref (b 11), .ref (b 12), .ref (b 13), .int 0, .int 0, .ref (b 16), .ref (b 17), .ref (b 18), .ref (b 19), .ref (b 20), .ref (b 21), .ref (b 22), .ref (b 23), .ref (b 24), .int 0, .ref (b 26), .ref (b 27), .ref (b 28), .ref (b 29), .ref (b 30), .ref (b 31), .ref (b 32), .int 0, .int 0, .ref (b 35), .ref (b 36), .ref (b 37), .ref (b 38), .ref (b 39), .ref (b 40), .int 0, .ref (b 42), .ref (b 43), .ref (b 44), .int 0, .ref (b 46), .ref (b 47), .int 0, .ref (b 49)])), (b 40, .inl (cI, 256, .inl (fun _ => (0 : Int32))))]) hD hS hA [0, 1] rfl
  refine va_calli (va_runV (As := []) (rest := [.int r_1]) ⟨hx, hb, hml, hown, hw⟩ (m_even l dC dI b cI H.size) ⟨callB_of 0 hw (zz_good tw_408) rfl rfl rfl (hw _ tw_95) (hw _ tw_409) (by decide +kernel) ⟨Nat.le_of_ble_eq_true rfl, Nat.le_of_ble_eq_true rfl⟩, (hw _ tw_410), (hw _ tw_411)⟩ ⟨zz_blind, va_recv hKc hPc (ci := 8) (q0 := 0) rfl rfl, zz_pre hPc hKc hDc hN⟩ rfl rfl hl.1 rfl (lv_room (Nat.le_of_ble_eq_true rfl)) dL_law_741 ⟨Nat.le_of_ble_eq_true rfl, Nat.le_of_ble_eq_true rfl⟩) hS (fun q _ h => hFc q h) hFc (fun r_2 u_2 t H1 locs ht hvm e_2 hB hz1 hk1 hS => ?_)
  try dsimp only at e_2
  have hP1 : va_P (dC, dI) vwCl [] H1 := zz_P0
  have hD1 : va_D (va_A [(b 0, .inr (8, [.ref (b 1), .int 0, .int 0, .int 0, .int 0, .int 0, .int 0, .int 0, .int (-1), .int (-1), .ref (b 11), .ref (b 12), .ref (b 13), .int 0, .int 0, .ref (b 16), .ref (b 17), .ref (b 18), .ref (b 19), .ref (b 20), .ref (b 21), .ref (b 22), .ref (b 23), .ref (b 24), .int 0, .ref (b 26), .ref (b 27), .ref (b 28), .ref (b 29), .ref (b 30), .ref (b 31), .ref (b 32), .int 0, .int 0, .ref (b 35), .ref (b 36), .ref (b 37), .ref (b 38), .ref (b 39), .ref (b 40), .int 0, .ref (b 42), .ref (b 43), .ref (b 44), .int 0, .ref (b 46), .ref (b 47), .int 0, .ref (b 49)])), (b 40, .inl (cI, 256, .inl (fun _ => (0 : Int32))))] H.size) [] := zz_D0
  obtain ⟨hP, hD⟩ := va_join (wr := []) (w1 := []) hP hD [0, 1] [] rfl rfl (by decide) (by decide) hk1 hFc hP1 hD1
  clear hk1 ht hvm
  generalize H1 = H at hP hS ⊢
  have hP : va_P (dC, dI) vwCl [] H := hP
  have hD : va_D (fun q : Nat => s.heap.size ≤ q) [] := hD
  refine lv_icmp_eq (tgt := 818) hx hb dL_law_744 (by decide) (fun _ => ?_) (fun c_3 => absurd c_3 (fun z9 => z9 (e_1.trans e_2.symm)))
  exact law_end l hL6 C0 hS (lv_sub hl [0, 3] rfl) (by decide) (by decide)


set_option maxHeartbeats 4000000 in
set_option maxRecDepth 100000 in
theorem lc_plan {p : Program} {e : Env} {s : State} {m : MethodId} {below : List Frame} {meth : Method} {c : Code} (l : Launch) {sb L : Nat} {xs : Nat → Int32} (hL6 : L = 6) (C0 : lw_At p s m meth c sb L xs) {dC : Nat → ClassId} {dI : Nat → Nat → Nat} (hN : zz_N s) (a : Nat → Nat) (cI : ClassId) (b : Nat → Nat) {H : Heap} {locs : List Loc} {ls : Array Slot} (hK : va_K (dC, dI) vwCl [(cI, .int)] s) (hP : va_P (dC, dI) vwCl [(a 0, .inr (7, [.ref (a 1), .ref (a 10), .ref (a 23), .ref (a 24), .ref (a 26), .ref (a 29), .ref (a 34), .ref (a 43), .int 0, .int 0, .int 0, .int 0])), (a 43, .inr (5, [.ref (a 44), .ref (a 45), .ref (a 46), .ref (a 47), .ref (a 48), .ref (a 49), .ref (a 50), .ref (a 51), .int 0, .int 0, .int 0, .int 0])), (a 49, .inl (cI, 128, .inl (fun _ => (0 : Int32)))), (b 0, .inr (8, [.ref (b 1), .int 0, .int 0, .int 0, .int 0, .int 0, .int 0, .int 0, .int (-1), .int (-1), .ref (b 11), .ref (b 12), .ref (b 13), .int 0, .int 0, .ref (b 16), .ref (b 17), .ref (b 18), .ref (b 19), .ref (b 20), .ref (b 21), .ref (b 22), .ref (b 23), .ref (b 24), .int 0, .ref (b 26), .ref (b 27), .ref (b 28), .ref (b 29), .ref (b 30), .ref (b 31), .ref (b 32), .int 0, .int 0, .ref (b 35), .ref (b 36), .ref (b 37), .ref (b 38), .ref (b 39), .ref (b 40), .int 0, .ref (b 42), .ref (b 43), .ref (b 44), .int 0, .ref (b 46), .ref (b 47), .int 0, .ref (b 49)]))] H) (hD : va_D (fun q : Nat => s.heap.size ≤ q) [(a 0, .inr (7, [.ref (a 1), .ref (a 10), .ref (a 23), .ref (a 24), .ref (a 26), .ref (a 29), .ref (a 34), .ref (a 43), .int 0, .int 0, .int 0, .int 0])), (a 43, .inr (5, [.ref (a 44), .ref (a 45), .ref (a 46), .ref (a 47), .ref (a 48), .ref (a 49), .ref (a 50), .ref (a 51), .int 0, .int 0, .int 0, .int 0])), (a 49, .inl (cI, 128, .inl (fun _ => (0 : Int32)))), (b 0, .inr (8, [.ref (b 1), .int 0, .int 0, .int 0, .int 0, .int 0, .int 0, .int 0, .int (-1), .int (-1), .ref (b 11), .ref (b 12), .ref (b 13), .int 0, .int 0, .ref (b 16), .ref (b 17), .ref (b 18), .ref (b 19), .ref (b 20), .ref (b 21), .ref (b 22), .ref (b 23), .ref (b 24), .int 0, .ref (b 26), .ref (b 27), .ref (b 28), .ref (b 29), .ref (b 30), .ref (b 31), .ref (b 32), .int 0, .int 0, .ref (b 35), .ref (b 36), .ref (b 37), .ref (b 38), .ref (b 39), .ref (b 40), .int 0, .ref (b 42), .ref (b 43), .ref (b 44), .int 0, .ref (b 46), .ref (b 47), .int 0, .ref (b 49)]))]) (hS : va_S (fun q : Nat => s.heap.size ≤ q) s.heap H locs) (hl : lv_has ls 4 [(3, .int 0), (2, .ref (b 0)), (1, .ref (a 0)), (0, .ref sb)]) : W p l e room_1 s m #[Value.ref sb] below meth c H locs 85 4448 (lw_Z below #[Value.ref sb] s) (F0 m 749 ls []) := by
  obtain ⟨hx, hb, hr, hml, hown, hts, hX, hbl, hlocks, hgv⟩ := id C0
  have hw : ∀ w ∈ zz_all, w.before #[Value.ref sb] s = true := fun w h => hts w (zz_in_tbl h)
  have hown : s.vm.findClass RL = some m.cls := hown
  have hA : ∀ q : Nat, s.heap.size ≤ q → (fun q : Nat => s.heap.size ≤ q) q := fun _ h => h
  have hbA : ¬ (fun q : Nat => s.heap.size ≤ q) sb := Nat.not_le.mpr hbl
  refine lv_aload_n hx hb dL_law_749 rfl (lv_at hl 2 rfl) ?_
  refine lv_aload_n hx hb dL_law_750 rfl (lv_at hl 3 rfl) ?_
  refine lv_iload_n hx hb dL_law_751 rfl (lv_at hl 0 rfl) ?_
  refine lv_iconst (v := 1) hx hb dL_law_752 (by decide) ?_
  refine lv_iadd hx hb dL_law_753 ?_
  refine zz_seti 1 (by decide) ?_
  refine va_sld hx hb hX hbl hbA hS (by rw [hL6]; exact zz_vin (by decide)) dL_law_754 ?_
  have hPc := hP.sub (ws' := [(a 0, .inr (7, [.ref (a 1), .ref (a 10), .ref (a 23), .ref (a 24), .ref (a 26), .ref (a 29), .ref (a 34), .ref (a 43), .int 0, .int 0, .int 0, .int 0])), (a 43, .inr (5, [.ref (a 44), .ref (a 45), .ref (a 46), .ref (a 47), .ref (a 48), .ref (a 49), .ref (a 50), .ref (a 51), .int 0, .int 0, .int 0, .int 0])), (a 49, .inl (cI, 128, .inl (fun _ => (0 : Int32))))]) [0, 1, 2] rfl
  have hDc := hD.sub (ws' := [(a 0, .inr (7, [.ref (a 1), .ref (a 10), .ref (a 23), .ref (a 24), .ref (a 26), .ref (a 29), .ref (a 34), .ref (a 43), .int 0, .int 0, .int 0, .int 0])), (a 43, .inr (5, [.ref (a 44), .ref (a 45), .ref (a 46), .ref (a 47), .ref (a 48), .ref (a 49), .ref (a 50), .ref (a 51), .int 0, .int 0, .int 0, .int 0])), (a 49, .inl (cI, 128, .inl (fun _ => (0 : Int32))))]) [0, 1, 2] (by decide) rfl
  have hKc := hK.sub (tys' := [(cI, .int)]) [0] rfl
  have hFc := va_free (wc := [(a 0, .inr (7, [.ref (a 1), .ref (a 10), .ref (a 23), .ref (a 24), .ref (a 26), .ref (a 29), .ref (a 34), .ref (a 43), .int 0, .int 0, .int 0, .int 0])), (a 43, .inr (5, [.ref (a 44), .ref (a 45), .ref (a 46), .ref (a 47), .ref (a 48), .ref (a 49), .ref (a 50), .ref (a 51), .int 0, .int 0, .int 0, .int 0])), (a 49, .inl (cI, 128, .inl (fun _ => (0 : Int32))))]) hD hS hA [0, 1, 2] rfl
  refine va_calli (va_runV (As := [.int (xs (Int32.toNatClampNeg 1))]) (rest := []) ⟨hx, hb, hml, hown, hw⟩ (k_plan l dC dI a cI (xs (Int32.toNatClampNeg 1)) H.size) ⟨callB_of 1 hw (zz_good tw_412) rfl rfl rfl (hw _ tw_2) (hw _ tw_413) (by decide +kernel) ⟨Nat.le_of_ble_eq_true rfl, Nat.le_of_ble_eq_true rfl⟩, (hw _ tw_414), (hw _ tw_415)⟩ ⟨zz_blind, va_recv hKc hPc (ci := 7) (q0 := 0) rfl rfl, zz_pre hPc hKc hDc hN⟩ rfl rfl hl.1 rfl (lv_room (Nat.le_of_ble_eq_true rfl)) dL_law_755 ⟨Nat.le_of_ble_eq_true rfl, Nat.le_of_ble_eq_true rfl⟩) hS (fun q _ h => hFc q h) hFc (fun r_1 u_1 t H1 locs ht hvm e_1 hB hz1 hk1 hS => ?_)
  try dsimp only at e_1
  have hP1 : va_P (dC, dI) vwCl [] H1 := zz_P0
  have hD1 : va_D (va_A [(a 0, .inr (7, [.ref (a 1), .ref (a 10), .ref (a 23), .ref (a 24), .ref (a 26), .ref (a 29), .ref (a 34), .ref (a 43), .int 0, .int 0, .int 0, .int 0])), (a 43, .inr (5, [.ref (a 44), .ref (a 45), .ref (a 46), .ref (a 47), .ref (a 48), .ref (a 49), .ref (a 50), .ref (a 51), .int 0, .int 0, .int 0, .int 0])), (a 49, .inl (cI, 128, .inl (fun _ => (0 : Int32))))] H.size) [] := zz_D0
  obtain ⟨hP, hD⟩ := va_join (wr := [(b 0, .inr (8, [.ref (b 1), .int 0, .int 0, .int 0, .int 0, .int 0, .int 0, .int 0, .int (-1), .int (-1), .ref (b 11), .ref (b 12), .ref (b 13), .int 0, .int 0, .ref (b 16), .ref (b 17), .ref (b 18), .ref (b 19), .ref (b 20), .ref (b 21), .ref (b 22), .ref (b 23), .ref (b 24), .int 0, .ref (b 26), .ref (b 27), .ref (b 28), .ref (b 29), .ref (b 30), .ref (b 31), .ref (b 32), .int 0, .int 0, .ref (b 35), .ref (b 36), .ref (b 37), .ref (b 38), .ref (b 39), .ref (b 40), .int 0, .ref (b 42), .ref (b 43), .ref (b 44), .int 0, .ref (b 46), .ref (b 47), .int 0, .ref (b 49)]))]) (w1 := []) hP hD [0, 1, 2] [3] rfl rfl (by decide) (by decide) hk1 hFc hP1 hD1
  clear hk1 ht hvm
  generalize H1 = H at hP hS ⊢
  have hP : va_P (dC, dI) vwCl [(b 0, .inr (8, [.ref (b 1), .int 0, .int 0, .int 0, .int 0, .int 0, .int 0, .int 0, .int (-1), .int (-1), .ref (b 11), .ref (b 12), .ref (b 13), .int 0, .int 0, .ref (b 16), .ref (b 17), .ref (b 18), .ref (b 19), .ref (b 20), .ref (b 21), .ref (b 22), .ref (b 23), .ref (b 24), .int 0, .ref (b 26), .ref (b 27), .ref (b 28), .ref (b 29), .ref (b 30), .ref (b 31), .ref (b 32), .int 0, .int 0, .ref (b 35), .ref (b 36), .ref (b 37), .ref (b 38), .ref (b 39), .ref (b 40), .int 0, .ref (b 42), .ref (b 43), .ref (b 44), .int 0, .ref (b 46), .ref (b 47), .int 0, .ref (b 49)]))] H := hP
  have hD : va_D (fun q : Nat => s.heap.size ≤ q) [(b 0, .inr (8, [.ref (b 1), .int 0, .int 0, .int 0, .int 0, .int 0, .int 0, .int 0, .int (-1), .int (-1), .ref (b 11), .ref (b 12), .ref (b 13), .int 0, .int 0, .ref (b 16), .ref (b 17), .ref (b 18), .ref (b 19), .ref (b 20), .ref (b 21), .ref (b 22), .ref (b 23), .ref (b 24), .int 0, .ref (b 26), .ref (b 27), .ref (b 28), .ref (b 29), .ref (b 30), .ref (b 31), .ref (b 32), .int 0, .int 0, .ref (b 35), .ref (b 36), .ref (b 37), .ref (b 38), .ref (b 39), .ref (b 40), .int 0, .ref (b 42), .ref (b 43), .ref (b 44), .int 0, .ref (b 46), .ref (b 47), .int 0, .ref (b 49)]))] := hD
  refine lv_aload_n hx hb dL_law_758 rfl (lv_at hl 1 rfl) ?_
  refine lv_aload_n hx hb dL_law_759 rfl (lv_at hl 3 rfl) ?_
  refine lv_iload_n hx hb dL_law_760 rfl (lv_at hl 0 rfl) ?_
  refine lv_iconst (v := 1) hx hb dL_law_761 (by decide) ?_
  refine lv_iadd hx hb dL_law_762 ?_
  refine zz_seti 1 (by decide) ?_
  refine va_sld hx hb hX hbl hbA hS (by rw [hL6]; exact zz_vin (by decide)) dL_law_763 ?_
  have hPc := hP.sub (ws' := [(b 0, .inr (8, [.ref (b 1), .int 0, .int 0, .int 0, .int 0, .int 0, .int 0, .int 0, .int (-1), .int (-1), .ref (b 11), .ref (b 12), .ref (b 13), .int 0, .int 0, .ref (b 16), .ref (b 17), .ref (b 18), .ref (b 19), .ref (b 20), .ref (b 21), .ref (b 22), .ref (b 23), .ref (b 24), .int 0, .ref (b 26), .ref (b 27), .ref (b 28), .ref (b 29), .ref (b 30), .ref (b 31), .ref (b 32), .int 0, .int 0, .ref (b 35), .ref (b 36), .ref (b 37), .ref (b 38), .ref (b 39), .ref (b 40), .int 0, .ref (b 42), .ref (b 43), .ref (b 44), .int 0, .ref (b 46), .ref (b 47), .int 0, .ref (b 49)]))]) [0] rfl
  have hDc := hD.sub (ws' := [(b 0, .inr (8, [.ref (b 1), .int 0, .int 0, .int 0, .int 0, .int 0, .int 0, .int 0, .int (-1), .int (-1), .ref (b 11), .ref (b 12), .ref (b 13), .int 0, .int 0, .ref (b 16), .ref (b 17), .ref (b 18), .ref (b 19), .ref (b 20), .ref (b 21), .ref (b 22), .ref (b 23), .ref (b 24), .int 0, .ref (b 26), .ref (b 27), .ref (b 28), .ref (b 29), .ref (b 30), .ref (b 31), .ref (b 32), .int 0, .int 0, .ref (b 35), .ref (b 36), .ref (b 37), .ref (b 38), .ref (b 39), .ref (b 40), .int 0, .ref (b 42), .ref (b 43), .ref (b 44), .int 0, .ref (b 46), .ref (b 47), .int 0, .ref (b 49)]))]) [0] (by decide) rfl
  have hKc := hK.sub (tys' := []) [] rfl
  have hFc := va_free (wc := [(b 0, .inr (8, [.ref (b 1), .int 0, .int 0, .int 0, .int 0, .int 0, .int 0, .int 0, .int (-1), .int (-1), .ref (b 11), .ref (b 12), .ref (b 13), .int 0, .int 0, .ref (b 16), .ref (b 17), .ref (b 18), .ref (b 19), .ref (b 20), .ref (b 21), .ref (b 22), .ref (b 23), .ref (b 24), .int 0, .ref (b 26), .ref (b 27), .ref (b 28), .ref (b 29), .ref (b 30), .ref (b 31), .ref (b 32), .int 0, .int 0, .ref (b 35), .ref (b 36), .ref (b 37), .ref (b 38), .ref (b 39), .ref (b 40), .int 0, .ref (b 42), .ref (b 43), .ref (b 44), .int 0, .ref (b 46), .ref (b 47), .int 0, .ref (b 49)]))]) hD hS hA [0] rfl
  refine va_calli (va_runV (As := [.int (xs (Int32.toNatClampNeg 1))]) (rest := [.int r_1]) ⟨hx, hb, hml, hown, hw⟩ (m_plan l dC dI b (xs (Int32.toNatClampNeg 1)) H.size) ⟨callB_of 1 hw (zz_good tw_416) rfl rfl rfl (hw _ tw_95) (hw _ tw_417) (by decide +kernel) ⟨Nat.le_of_ble_eq_true rfl, Nat.le_of_ble_eq_true rfl⟩, (hw _ tw_418), (hw _ tw_419)⟩ ⟨zz_blind, va_recv hKc hPc (ci := 8) (q0 := 0) rfl rfl, zz_pre hPc hKc hDc hN⟩ rfl rfl hl.1 rfl (lv_room (Nat.le_of_ble_eq_true rfl)) dL_law_764 ⟨Nat.le_of_ble_eq_true rfl, Nat.le_of_ble_eq_true rfl⟩) hS (fun q _ h => hFc q h) hFc (fun r_2 u_2 t H1 locs ht hvm e_2 hB hz1 hk1 hS => ?_)
  try dsimp only at e_2
  have hP1 : va_P (dC, dI) vwCl [] H1 := zz_P0
  have hD1 : va_D (va_A [(b 0, .inr (8, [.ref (b 1), .int 0, .int 0, .int 0, .int 0, .int 0, .int 0, .int 0, .int (-1), .int (-1), .ref (b 11), .ref (b 12), .ref (b 13), .int 0, .int 0, .ref (b 16), .ref (b 17), .ref (b 18), .ref (b 19), .ref (b 20), .ref (b 21), .ref (b 22), .ref (b 23), .ref (b 24), .int 0, .ref (b 26), .ref (b 27), .ref (b 28), .ref (b 29), .ref (b 30), .ref (b 31), .ref (b 32), .int 0, .int 0, .ref (b 35), .ref (b 36), .ref (b 37), .ref (b 38), .ref (b 39), .ref (b 40), .int 0, .ref (b 42), .ref (b 43), .ref (b 44), .int 0, .ref (b 46), .ref (b 47), .int 0, .ref (b 49)]))] H.size) [] := zz_D0
  obtain ⟨hP, hD⟩ := va_join (wr := []) (w1 := []) hP hD [0] [] rfl rfl (by decide) (by decide) hk1 hFc hP1 hD1
  clear hk1 ht hvm
  generalize H1 = H at hP hS ⊢
  have hP : va_P (dC, dI) vwCl [] H := hP
  have hD : va_D (fun q : Nat => s.heap.size ≤ q) [] := hD
  refine lv_icmp_eq (tgt := 818) hx hb dL_law_767 (by decide) (fun _ => ?_) (fun c_3 => absurd c_3 (fun z9 => z9 (e_1.trans e_2.symm)))
  exact law_end l hL6 C0 hS (lv_sub hl [0, 3] rfl) (by decide) (by decide)


set_option maxHeartbeats 4000000 in
set_option maxRecDepth 100000 in
theorem lc_planned {p : Program} {e : Env} {s : State} {m : MethodId} {below : List Frame} {meth : Method} {c : Code} (l : Launch) {sb L : Nat} {xs : Nat → Int32} (hL6 : L = 6) (C0 : lw_At p s m meth c sb L xs) {dC : Nat → ClassId} {dI : Nat → Nat → Nat} (hN : zz_N s) (a : Nat → Nat) (b : Nat → Nat) {H : Heap} {locs : List Loc} {ls : Array Slot} (hK : va_K (dC, dI) vwCl [] s) (hP : va_P (dC, dI) vwCl [(a 0, .inr (7, [.ref (a 1), .ref (a 10), .ref (a 23), .ref (a 24), .ref (a 26), .ref (a 29), .ref (a 34), .ref (a 43), .int 0, .int 0, .int 0, .int 0])), (a 43, .inr (5, [.ref (a 44), .ref (a 45), .ref (a 46), .ref (a 47), .ref (a 48), .ref (a 49), .ref (a 50), .ref (a 51), .int 0, .int 0, .int 0, .int 0])), (b 0, .inr (8, [.ref (b 1), .int 0, .int 0, .int 0, .int 0, .int 0, .int 0, .int 0, .int (-1), .int (-1), .ref (b 11), .ref (b 12), .ref (b 13), .int 0, .int 0, .ref (b 16), .ref (b 17), .ref (b 18), .ref (b 19), .ref (b 20), .ref (b 21), .ref (b 22), .ref (b 23), .ref (b 24), .int 0, .ref (b 26), .ref (b 27), .ref (b 28), .ref (b 29), .ref (b 30), .ref (b 31), .ref (b 32), .int 0, .int 0, .ref (b 35), .ref (b 36), .ref (b 37), .ref (b 38), .ref (b 39), .ref (b 40), .int 0, .ref (b 42), .ref (b 43), .ref (b 44), .int 0, .ref (b 46), .ref (b 47), .int 0, .ref (b 49)]))] H) (hD : va_D (fun q : Nat => s.heap.size ≤ q) [(a 0, .inr (7, [.ref (a 1), .ref (a 10), .ref (a 23), .ref (a 24), .ref (a 26), .ref (a 29), .ref (a 34), .ref (a 43), .int 0, .int 0, .int 0, .int 0])), (a 43, .inr (5, [.ref (a 44), .ref (a 45), .ref (a 46), .ref (a 47), .ref (a 48), .ref (a 49), .ref (a 50), .ref (a 51), .int 0, .int 0, .int 0, .int 0])), (b 0, .inr (8, [.ref (b 1), .int 0, .int 0, .int 0, .int 0, .int 0, .int 0, .int 0, .int (-1), .int (-1), .ref (b 11), .ref (b 12), .ref (b 13), .int 0, .int 0, .ref (b 16), .ref (b 17), .ref (b 18), .ref (b 19), .ref (b 20), .ref (b 21), .ref (b 22), .ref (b 23), .ref (b 24), .int 0, .ref (b 26), .ref (b 27), .ref (b 28), .ref (b 29), .ref (b 30), .ref (b 31), .ref (b 32), .int 0, .int 0, .ref (b 35), .ref (b 36), .ref (b 37), .ref (b 38), .ref (b 39), .ref (b 40), .int 0, .ref (b 42), .ref (b 43), .ref (b 44), .int 0, .ref (b 46), .ref (b 47), .int 0, .ref (b 49)]))]) (hS : va_S (fun q : Nat => s.heap.size ≤ q) s.heap H locs) (hl : lv_has ls 4 [(3, .int 0), (2, .ref (b 0)), (1, .ref (a 0)), (0, .ref sb)]) : W p l e room_1 s m #[Value.ref sb] below meth c H locs 85 4448 (lw_Z below #[Value.ref sb] s) (F0 m 772 ls []) := by
  obtain ⟨hx, hb, hr, hml, hown, hts, hX, hbl, hlocks, hgv⟩ := id C0
  have hw : ∀ w ∈ zz_all, w.before #[Value.ref sb] s = true := fun w h => hts w (zz_in_tbl h)
  have hown : s.vm.findClass RL = some m.cls := hown
  have hA : ∀ q : Nat, s.heap.size ≤ q → (fun q : Nat => s.heap.size ≤ q) q := fun _ h => h
  have hbA : ¬ (fun q : Nat => s.heap.size ≤ q) sb := Nat.not_le.mpr hbl
  refine lv_aload_n hx hb dL_law_772 rfl (lv_at hl 2 rfl) ?_
  refine lv_aload_n hx hb dL_law_773 rfl (lv_at hl 3 rfl) ?_
  refine lv_iload_n hx hb dL_law_774 rfl (lv_at hl 0 rfl) ?_
  refine lv_iconst (v := 1) hx hb dL_law_775 (by decide) ?_
  refine lv_iadd hx hb dL_law_776 ?_
  refine zz_seti 1 (by decide) ?_
  refine va_sld hx hb hX hbl hbA hS (by rw [hL6]; exact zz_vin (by decide)) dL_law_777 ?_
  have hPc := hP.sub (ws' := [(a 0, .inr (7, [.ref (a 1), .ref (a 10), .ref (a 23), .ref (a 24), .ref (a 26), .ref (a 29), .ref (a 34), .ref (a 43), .int 0, .int 0, .int 0, .int 0])), (a 43, .inr (5, [.ref (a 44), .ref (a 45), .ref (a 46), .ref (a 47), .ref (a 48), .ref (a 49), .ref (a 50), .ref (a 51), .int 0, .int 0, .int 0, .int 0]))]) [0, 1] rfl
  have hDc := hD.sub (ws' := [(a 0, .inr (7, [.ref (a 1), .ref (a 10), .ref (a 23), .ref (a 24), .ref (a 26), .ref (a 29), .ref (a 34), .ref (a 43), .int 0, .int 0, .int 0, .int 0])), (a 43, .inr (5, [.ref (a 44), .ref (a 45), .ref (a 46), .ref (a 47), .ref (a 48), .ref (a 49), .ref (a 50), .ref (a 51), .int 0, .int 0, .int 0, .int 0]))]) [0, 1] (by decide) rfl
  have hKc := hK.sub (tys' := []) [] rfl
  have hFc := zz_free0 hS hA
  refine va_calli (va_runV (As := [.int (xs (Int32.toNatClampNeg 1))]) (rest := []) ⟨hx, hb, hml, hown, hw⟩ (k_planned l dC dI a (xs (Int32.toNatClampNeg 1)) H.size) ⟨callB_of 1 hw (zz_good tw_420) rfl rfl rfl (hw _ tw_2) (hw _ tw_421) (by decide +kernel) ⟨Nat.le_of_ble_eq_true rfl, Nat.le_of_ble_eq_true rfl⟩, (hw _ tw_422), (hw _ tw_423)⟩ ⟨zz_blind, va_recv hKc hPc (ci := 7) (q0 := 0) rfl rfl, zz_pre hPc hKc hDc hN⟩ rfl rfl hl.1 rfl (lv_room (Nat.le_of_ble_eq_true rfl)) dL_law_778 ⟨Nat.le_of_ble_eq_true rfl, Nat.le_of_ble_eq_true rfl⟩) hS (fun q _ h => hFc q h) hFc (fun r_1 u_1 t H1 locs ht hvm e_1 hB hz1 hk1 hS => ?_)
  try dsimp only at e_1
  have hP := zz_keep hP hk1
  clear hk1 hB ht hvm
  generalize H1 = H at hP hS ⊢
  have hP : va_P (dC, dI) vwCl [(a 0, .inr (7, [.ref (a 1), .ref (a 10), .ref (a 23), .ref (a 24), .ref (a 26), .ref (a 29), .ref (a 34), .ref (a 43), .int 0, .int 0, .int 0, .int 0])), (a 43, .inr (5, [.ref (a 44), .ref (a 45), .ref (a 46), .ref (a 47), .ref (a 48), .ref (a 49), .ref (a 50), .ref (a 51), .int 0, .int 0, .int 0, .int 0])), (b 0, .inr (8, [.ref (b 1), .int 0, .int 0, .int 0, .int 0, .int 0, .int 0, .int 0, .int (-1), .int (-1), .ref (b 11), .ref (b 12), .ref (b 13), .int 0, .int 0, .ref (b 16), .ref (b 17), .ref (b 18), .ref (b 19), .ref (b 20), .ref (b 21), .ref (b 22), .ref (b 23), .ref (b 24), .int 0, .ref (b 26), .ref (b 27), .ref (b 28), .ref (b 29), .ref (b 30), .ref (b 31), .ref (b 32), .int 0, .int 0, .ref (b 35), .ref (b 36), .ref (b 37), .ref (b 38), .ref (b 39), .ref (b 40), .int 0, .ref (b 42), .ref (b 43), .ref (b 44), .int 0, .ref (b 46), .ref (b 47), .int 0, .ref (b 49)]))] H := hP
  have hD : va_D (fun q : Nat => s.heap.size ≤ q) [(a 0, .inr (7, [.ref (a 1), .ref (a 10), .ref (a 23), .ref (a 24), .ref (a 26), .ref (a 29), .ref (a 34), .ref (a 43), .int 0, .int 0, .int 0, .int 0])), (a 43, .inr (5, [.ref (a 44), .ref (a 45), .ref (a 46), .ref (a 47), .ref (a 48), .ref (a 49), .ref (a 50), .ref (a 51), .int 0, .int 0, .int 0, .int 0])), (b 0, .inr (8, [.ref (b 1), .int 0, .int 0, .int 0, .int 0, .int 0, .int 0, .int 0, .int (-1), .int (-1), .ref (b 11), .ref (b 12), .ref (b 13), .int 0, .int 0, .ref (b 16), .ref (b 17), .ref (b 18), .ref (b 19), .ref (b 20), .ref (b 21), .ref (b 22), .ref (b 23), .ref (b 24), .int 0, .ref (b 26), .ref (b 27), .ref (b 28), .ref (b 29), .ref (b 30), .ref (b 31), .ref (b 32), .int 0, .int 0, .ref (b 35), .ref (b 36), .ref (b 37), .ref (b 38), .ref (b 39), .ref (b 40), .int 0, .ref (b 42), .ref (b 43), .ref (b 44), .int 0, .ref (b 46), .ref (b 47), .int 0, .ref (b 49)]))] := hD
  refine lv_aload_n hx hb dL_law_781 rfl (lv_at hl 1 rfl) ?_
  refine lv_aload_n hx hb dL_law_782 rfl (lv_at hl 3 rfl) ?_
  refine lv_iload_n hx hb dL_law_783 rfl (lv_at hl 0 rfl) ?_
  refine lv_iconst (v := 1) hx hb dL_law_784 (by decide) ?_
  refine lv_iadd hx hb dL_law_785 ?_
  refine zz_seti 1 (by decide) ?_
  refine va_sld hx hb hX hbl hbA hS (by rw [hL6]; exact zz_vin (by decide)) dL_law_786 ?_
  have hPc := hP.sub (ws' := [(b 0, .inr (8, [.ref (b 1), .int 0, .int 0, .int 0, .int 0, .int 0, .int 0, .int 0, .int (-1), .int (-1), .ref (b 11), .ref (b 12), .ref (b 13), .int 0, .int 0, .ref (b 16), .ref (b 17), .ref (b 18), .ref (b 19), .ref (b 20), .ref (b 21), .ref (b 22), .ref (b 23), .ref (b 24), .int 0, .ref (b 26), .ref (b 27), .ref (b 28), .ref (b 29), .ref (b 30), .ref (b 31), .ref (b 32), .int 0, .int 0, .ref (b 35), .ref (b 36), .ref (b 37), .ref (b 38), .ref (b 39), .ref (b 40), .int 0, .ref (b 42), .ref (b 43), .ref (b 44), .int 0, .ref (b 46), .ref (b 47), .int 0, .ref (b 49)]))]) [2] rfl
  have hDc := hD.sub (ws' := [(b 0, .inr (8, [.ref (b 1), .int 0, .int 0, .int 0, .int 0, .int 0, .int 0, .int 0, .int (-1), .int (-1), .ref (b 11), .ref (b 12), .ref (b 13), .int 0, .int 0, .ref (b 16), .ref (b 17), .ref (b 18), .ref (b 19), .ref (b 20), .ref (b 21), .ref (b 22), .ref (b 23), .ref (b 24), .int 0, .ref (b 26), .ref (b 27), .ref (b 28), .ref (b 29), .ref (b 30), .ref (b 31), .ref (b 32), .int 0, .int 0, .ref (b 35), .ref (b 36), .ref (b 37), .ref (b 38), .ref (b 39), .ref (b 40), .int 0, .ref (b 42), .ref (b 43), .ref (b 44), .int 0, .ref (b 46), .ref (b 47), .int 0, .ref (b 49)]))]) [2] (by decide) rfl
  have hKc := hK.sub (tys' := []) [] rfl
  have hFc := zz_free0 hS hA
  refine va_calli (va_runV (As := [.int (xs (Int32.toNatClampNeg 1))]) (rest := [.int r_1]) ⟨hx, hb, hml, hown, hw⟩ (m_planned l dC dI b (xs (Int32.toNatClampNeg 1)) H.size) ⟨callB_of 1 hw (zz_good tw_424) rfl rfl rfl (hw _ tw_95) (hw _ tw_425) (by decide +kernel) ⟨Nat.le_of_ble_eq_true rfl, Nat.le_of_ble_eq_true rfl⟩, (hw _ tw_426), (hw _ tw_427)⟩ ⟨zz_blind, va_recv hKc hPc (ci := 8) (q0 := 0) rfl rfl, zz_pre hPc hKc hDc hN⟩ rfl rfl hl.1 rfl (lv_room (Nat.le_of_ble_eq_true rfl)) dL_law_787 ⟨Nat.le_of_ble_eq_true rfl, Nat.le_of_ble_eq_true rfl⟩) hS (fun q _ h => hFc q h) hFc (fun r_2 u_2 t H1 locs ht hvm e_2 hB hz1 hk1 hS => ?_)
  try dsimp only at e_2
  have hP := zz_keep hP hk1
  clear hk1 hB ht hvm
  generalize H1 = H at hP hS ⊢
  have hP : va_P (dC, dI) vwCl [(a 0, .inr (7, [.ref (a 1), .ref (a 10), .ref (a 23), .ref (a 24), .ref (a 26), .ref (a 29), .ref (a 34), .ref (a 43), .int 0, .int 0, .int 0, .int 0])), (a 43, .inr (5, [.ref (a 44), .ref (a 45), .ref (a 46), .ref (a 47), .ref (a 48), .ref (a 49), .ref (a 50), .ref (a 51), .int 0, .int 0, .int 0, .int 0])), (b 0, .inr (8, [.ref (b 1), .int 0, .int 0, .int 0, .int 0, .int 0, .int 0, .int 0, .int (-1), .int (-1), .ref (b 11), .ref (b 12), .ref (b 13), .int 0, .int 0, .ref (b 16), .ref (b 17), .ref (b 18), .ref (b 19), .ref (b 20), .ref (b 21), .ref (b 22), .ref (b 23), .ref (b 24), .int 0, .ref (b 26), .ref (b 27), .ref (b 28), .ref (b 29), .ref (b 30), .ref (b 31), .ref (b 32), .int 0, .int 0, .ref (b 35), .ref (b 36), .ref (b 37), .ref (b 38), .ref (b 39), .ref (b 40), .int 0, .ref (b 42), .ref (b 43), .ref (b 44), .int 0, .ref (b 46), .ref (b 47), .int 0, .ref (b 49)]))] H := hP
  have hD : va_D (fun q : Nat => s.heap.size ≤ q) [(a 0, .inr (7, [.ref (a 1), .ref (a 10), .ref (a 23), .ref (a 24), .ref (a 26), .ref (a 29), .ref (a 34), .ref (a 43), .int 0, .int 0, .int 0, .int 0])), (a 43, .inr (5, [.ref (a 44), .ref (a 45), .ref (a 46), .ref (a 47), .ref (a 48), .ref (a 49), .ref (a 50), .ref (a 51), .int 0, .int 0, .int 0, .int 0])), (b 0, .inr (8, [.ref (b 1), .int 0, .int 0, .int 0, .int 0, .int 0, .int 0, .int 0, .int (-1), .int (-1), .ref (b 11), .ref (b 12), .ref (b 13), .int 0, .int 0, .ref (b 16), .ref (b 17), .ref (b 18), .ref (b 19), .ref (b 20), .ref (b 21), .ref (b 22), .ref (b 23), .ref (b 24), .int 0, .ref (b 26), .ref (b 27), .ref (b 28), .ref (b 29), .ref (b 30), .ref (b 31), .ref (b 32), .int 0, .int 0, .ref (b 35), .ref (b 36), .ref (b 37), .ref (b 38), .ref (b 39), .ref (b 40), .int 0, .ref (b 42), .ref (b 43), .ref (b 44), .int 0, .ref (b 46), .ref (b 47), .int 0, .ref (b 49)]))] := hD
  refine lv_icmp_eq (tgt := 818) hx hb dL_law_790 (by decide) (fun _ => ?_) (fun c_3 => absurd c_3 (fun z9 => z9 (e_1.trans e_2.symm)))
  exact law_end l hL6 C0 hS (lv_sub hl [0, 3] rfl) (by decide) (by decide)


set_option maxHeartbeats 4000000 in
set_option maxRecDepth 100000 in
theorem lc_about {p : Program} {e : Env} {s : State} {m : MethodId} {below : List Frame} {meth : Method} {c : Code} (l : Launch) {sb L : Nat} {xs : Nat → Int32} (hL6 : L = 6) (C0 : lw_At p s m meth c sb L xs) {dC : Nat → ClassId} {dI : Nat → Nat → Nat} (hN : zz_N s) (a : Nat → Nat) (cI : ClassId) (b : Nat → Nat) {H : Heap} {locs : List Loc} {ls : Array Slot} (hK : va_K (dC, dI) vwCl [(cI, .int)] s) (hP : va_P (dC, dI) vwCl [(a 0, .inr (7, [.ref (a 1), .ref (a 10), .ref (a 23), .ref (a 24), .ref (a 26), .ref (a 29), .ref (a 34), .ref (a 43), .int 0, .int 0, .int 0, .int 0])), (a 29, .inr (1, [.ref (a 30), .ref (a 31), .ref (a 32), .ref (a 33), .int 0])), (a 24, .inr (6, [.ref (a 25), .int 0])), (a 23, .inl (cI, 10, .inl (fun _ => (0 : Int32)))), (b 0, .inr (8, [.ref (b 1), .int 0, .int 0, .int 0, .int 0, .int 0, .int 0, .int 0, .int (-1), .int (-1), .ref (b 11), .ref (b 12), .ref (b 13), .int 0, .int 0, .ref (b 16), .ref (b 17), .ref (b 18), .ref (b 19), .ref (b 20), .ref (b 21), .ref (b 22), .ref (b 23), .ref (b 24), .int 0, .ref (b 26), .ref (b 27), .ref (b 28), .ref (b 29), .ref (b 30), .ref (b 31), .ref (b 32), .int 0, .int 0, .ref (b 35), .ref (b 36), .ref (b 37), .ref (b 38), .ref (b 39), .ref (b 40), .int 0, .ref (b 42), .ref (b 43), .ref (b 44), .int 0, .ref (b 46), .ref (b 47), .int 0, .ref (b 49)])), (b 24, .inl (cI, 10, .inl (fun _ => (0 : Int32))))] H) (hD : va_D (fun q : Nat => s.heap.size ≤ q) [(a 0, .inr (7, [.ref (a 1), .ref (a 10), .ref (a 23), .ref (a 24), .ref (a 26), .ref (a 29), .ref (a 34), .ref (a 43), .int 0, .int 0, .int 0, .int 0])), (a 29, .inr (1, [.ref (a 30), .ref (a 31), .ref (a 32), .ref (a 33), .int 0])), (a 24, .inr (6, [.ref (a 25), .int 0])), (a 23, .inl (cI, 10, .inl (fun _ => (0 : Int32)))), (b 0, .inr (8, [.ref (b 1), .int 0, .int 0, .int 0, .int 0, .int 0, .int 0, .int 0, .int (-1), .int (-1), .ref (b 11), .ref (b 12), .ref (b 13), .int 0, .int 0, .ref (b 16), .ref (b 17), .ref (b 18), .ref (b 19), .ref (b 20), .ref (b 21), .ref (b 22), .ref (b 23), .ref (b 24), .int 0, .ref (b 26), .ref (b 27), .ref (b 28), .ref (b 29), .ref (b 30), .ref (b 31), .ref (b 32), .int 0, .int 0, .ref (b 35), .ref (b 36), .ref (b 37), .ref (b 38), .ref (b 39), .ref (b 40), .int 0, .ref (b 42), .ref (b 43), .ref (b 44), .int 0, .ref (b 46), .ref (b 47), .int 0, .ref (b 49)])), (b 24, .inl (cI, 10, .inl (fun _ => (0 : Int32))))]) (hS : va_S (fun q : Nat => s.heap.size ≤ q) s.heap H locs) (hl : lv_has ls 4 [(3, .int 0), (2, .ref (b 0)), (1, .ref (a 0)), (0, .ref sb)]) : W p l e room_1 s m #[Value.ref sb] below meth c H locs 85 4448 (lw_Z below #[Value.ref sb] s) (F0 m 795 ls []) := by
  obtain ⟨hx, hb, hr, hml, hown, hts, hX, hbl, hlocks, hgv⟩ := id C0
  have hw : ∀ w ∈ zz_all, w.before #[Value.ref sb] s = true := fun w h => hts w (zz_in_tbl h)
  have hown : s.vm.findClass RL = some m.cls := hown
  have hA : ∀ q : Nat, s.heap.size ≤ q → (fun q : Nat => s.heap.size ≤ q) q := fun _ h => h
  have hbA : ¬ (fun q : Nat => s.heap.size ≤ q) sb := Nat.not_le.mpr hbl
  refine lv_aload_n hx hb dL_law_795 rfl (lv_at hl 2 rfl) ?_
  refine lv_aload_n hx hb dL_law_796 rfl (lv_at hl 3 rfl) ?_
  refine lv_iload_n hx hb dL_law_797 rfl (lv_at hl 0 rfl) ?_
  refine lv_iconst (v := 1) hx hb dL_law_798 (by decide) ?_
  refine lv_iadd hx hb dL_law_799 ?_
  refine zz_seti 1 (by decide) ?_
  refine va_sld hx hb hX hbl hbA hS (by rw [hL6]; exact zz_vin (by decide)) dL_law_800 ?_
  have hPc := hP.sub (ws' := [(a 0, .inr (7, [.ref (a 1), .ref (a 10), .ref (a 23), .ref (a 24), .ref (a 26), .ref (a 29), .ref (a 34), .ref (a 43), .int 0, .int 0, .int 0, .int 0])), (a 29, .inr (1, [.ref (a 30), .ref (a 31), .ref (a 32), .ref (a 33), .int 0])), (a 24, .inr (6, [.ref (a 25), .int 0])), (a 23, .inl (cI, 10, .inl (fun _ => (0 : Int32))))]) [0, 1, 2, 3] rfl
  have hDc := hD.sub (ws' := [(a 0, .inr (7, [.ref (a 1), .ref (a 10), .ref (a 23), .ref (a 24), .ref (a 26), .ref (a 29), .ref (a 34), .ref (a 43), .int 0, .int 0, .int 0, .int 0])), (a 29, .inr (1, [.ref (a 30), .ref (a 31), .ref (a 32), .ref (a 33), .int 0])), (a 24, .inr (6, [.ref (a 25), .int 0])), (a 23, .inl (cI, 10, .inl (fun _ => (0 : Int32))))]) [0, 1, 2, 3] (by decide) rfl
  have hKc := hK.sub (tys' := [(cI, .int)]) [0] rfl
  have hFc := zz_free0 hS hA
  refine va_calli (va_runV (As := [.int (xs (Int32.toNatClampNeg 1))]) (rest := []) ⟨hx, hb, hml, hown, hw⟩ (k_about l dC dI a cI (xs (Int32.toNatClampNeg 1)) H.size) ⟨callB_of 1 hw (zz_good tw_428) rfl rfl rfl (hw _ tw_2) (hw _ tw_429) (by decide +kernel) ⟨Nat.le_of_ble_eq_true rfl, Nat.le_of_ble_eq_true rfl⟩, (hw _ tw_430), (hw _ tw_431)⟩ ⟨zz_blind, va_recv hKc hPc (ci := 7) (q0 := 0) rfl rfl, zz_pre hPc hKc hDc hN⟩ rfl rfl hl.1 rfl (lv_room (Nat.le_of_ble_eq_true rfl)) dL_law_801 ⟨Nat.le_of_ble_eq_true rfl, Nat.le_of_ble_eq_true rfl⟩) hS (fun q _ h => hFc q h) hFc (fun r_1 u_1 t H1 locs ht hvm e_1 hB hz1 hk1 hS => ?_)
  try dsimp only at e_1
  have hP := zz_keep hP hk1
  clear hk1 hB ht hvm
  generalize H1 = H at hP hS ⊢
  have hP : va_P (dC, dI) vwCl [(a 0, .inr (7, [.ref (a 1), .ref (a 10), .ref (a 23), .ref (a 24), .ref (a 26), .ref (a 29), .ref (a 34), .ref (a 43), .int 0, .int 0, .int 0, .int 0])), (a 29, .inr (1, [.ref (a 30), .ref (a 31), .ref (a 32), .ref (a 33), .int 0])), (a 24, .inr (6, [.ref (a 25), .int 0])), (a 23, .inl (cI, 10, .inl (fun _ => (0 : Int32)))), (b 0, .inr (8, [.ref (b 1), .int 0, .int 0, .int 0, .int 0, .int 0, .int 0, .int 0, .int (-1), .int (-1), .ref (b 11), .ref (b 12), .ref (b 13), .int 0, .int 0, .ref (b 16), .ref (b 17), .ref (b 18), .ref (b 19), .ref (b 20), .ref (b 21), .ref (b 22), .ref (b 23), .ref (b 24), .int 0, .ref (b 26), .ref (b 27), .ref (b 28), .ref (b 29), .ref (b 30), .ref (b 31), .ref (b 32), .int 0, .int 0, .ref (b 35), .ref (b 36), .ref (b 37), .ref (b 38), .ref (b 39), .ref (b 40), .int 0, .ref (b 42), .ref (b 43), .ref (b 44), .int 0, .ref (b 46), .ref (b 47), .int 0, .ref (b 49)])), (b 24, .inl (cI, 10, .inl (fun _ => (0 : Int32))))] H := hP
  have hD : va_D (fun q : Nat => s.heap.size ≤ q) [(a 0, .inr (7, [.ref (a 1), .ref (a 10), .ref (a 23), .ref (a 24), .ref (a 26), .ref (a 29), .ref (a 34), .ref (a 43), .int 0, .int 0, .int 0, .int 0])), (a 29, .inr (1, [.ref (a 30), .ref (a 31), .ref (a 32), .ref (a 33), .int 0])), (a 24, .inr (6, [.ref (a 25), .int 0])), (a 23, .inl (cI, 10, .inl (fun _ => (0 : Int32)))), (b 0, .inr (8, [.ref (b 1), .int 0, .int 0, .int 0, .int 0, .int 0, .int 0, .int 0, .int (-1), .int (-1), .ref (b 11), .ref (b 12), .ref (b 13), .int 0, .int 0, .ref (b 16), .ref (b 17), .ref (b 18), .ref (b 19), .ref (b 20), .ref (b 21), .ref (b 22), .ref (b 23), .ref (b 24), .int 0, .ref (b 26), .ref (b 27), .ref (b 28), .ref (b 29), .ref (b 30), .ref (b 31), .ref (b 32), .int 0, .int 0, .ref (b 35), .ref (b 36), .ref (b 37), .ref (b 38), .ref (b 39), .ref (b 40), .int 0, .ref (b 42), .ref (b 43), .ref (b 44), .int 0, .ref (b 46), .ref (b 47), .int 0, .ref (b 49)])), (b 24, .inl (cI, 10, .inl (fun _ => (0 : Int32))))] := hD
  refine lv_aload_n hx hb dL_law_804 rfl (lv_at hl 1 rfl) ?_
  refine lv_aload_n hx hb dL_law_805 rfl (lv_at hl 3 rfl) ?_
  refine lv_iload_n hx hb dL_law_806 rfl (lv_at hl 0 rfl) ?_
  refine lv_iconst (v := 1) hx hb dL_law_807 (by decide) ?_
  refine lv_iadd hx hb dL_law_808 ?_
  refine zz_seti 1 (by decide) ?_
  refine va_sld hx hb hX hbl hbA hS (by rw [hL6]; exact zz_vin (by decide)) dL_law_809 ?_
  have hPc := hP.sub (ws' := [(b 0, .inr (8, [.ref (b 1), .int 0, .int 0, .int 0, .int 0, .int 0, .int 0, .int 0, .int (-1), .int (-1), .ref (b 11), .ref (b 12), .ref (b 13), .int 0, .int 0, .ref (b 16), .ref (b 17), .ref (b 18), .ref (b 19), .ref (b 20), .ref (b 21), .ref (b 22), .ref (b 23), .ref (b 24), .int 0, .ref (b 26), .ref (b 27), .ref (b 28), .ref (b 29), .ref (b 30), .ref (b 31), .ref (b 32), .int 0, .int 0, .ref (b 35), .ref (b 36), .ref (b 37), .ref (b 38), .ref (b 39), .ref (b 40), .int 0, .ref (b 42), .ref (b 43), .ref (b 44), .int 0, .ref (b 46), .ref (b 47), .int 0, .ref (b 49)])), (b 24, .inl (cI, 10, .inl (fun _ => (0 : Int32))))]) [4, 5] rfl
  have hDc := hD.sub (ws' := [(b 0, .inr (8, [.ref (b 1), .int 0, .int 0, .int 0, .int 0, .int 0, .int 0, .int 0, .int (-1), .int (-1), .ref (b 11), .ref (b 12), .ref (b 13), .int 0, .int 0, .ref (b 16), .ref (b 17), .ref (b 18), .ref (b 19), .ref (b 20), .ref (b 21), .ref (b 22), .ref (b 23), .ref (b 24), .int 0, .ref (b 26), .ref (b 27), .ref (b 28), .ref (b 29), .ref (b 30), .ref (b 31), .ref (b 32), .int 0, .int 0, .ref (b 35), .ref (b 36), .ref (b 37), .ref (b 38), .ref (b 39), .ref (b 40), .int 0, .ref (b 42), .ref (b 43), .ref (b 44), .int 0, .ref (b 46), .ref (b 47), .int 0, .ref (b 49)])), (b 24, .inl (cI, 10, .inl (fun _ => (0 : Int32))))]) [4, 5] (by decide) rfl
  have hKc := hK.sub (tys' := [(cI, .int)]) [0] rfl
  have hFc := zz_free0 hS hA
  refine va_calli (va_runV (As := [.int (xs (Int32.toNatClampNeg 1))]) (rest := [.int r_1]) ⟨hx, hb, hml, hown, hw⟩ (m_about l dC dI b cI (xs (Int32.toNatClampNeg 1)) H.size) ⟨callB_of 1 hw (zz_good tw_432) rfl rfl rfl (hw _ tw_95) (hw _ tw_433) (by decide +kernel) ⟨Nat.le_of_ble_eq_true rfl, Nat.le_of_ble_eq_true rfl⟩, (hw _ tw_434), (hw _ tw_435)⟩ ⟨zz_blind, va_recv hKc hPc (ci := 8) (q0 := 0) rfl rfl, zz_pre hPc hKc hDc hN⟩ rfl rfl hl.1 rfl (lv_room (Nat.le_of_ble_eq_true rfl)) dL_law_810 ⟨Nat.le_of_ble_eq_true rfl, Nat.le_of_ble_eq_true rfl⟩) hS (fun q _ h => hFc q h) hFc (fun r_2 u_2 t H1 locs ht hvm e_2 hB hz1 hk1 hS => ?_)
  try dsimp only at e_2
  have hP := zz_keep hP hk1
  clear hk1 hB ht hvm
  generalize H1 = H at hP hS ⊢
  have hP : va_P (dC, dI) vwCl [(a 0, .inr (7, [.ref (a 1), .ref (a 10), .ref (a 23), .ref (a 24), .ref (a 26), .ref (a 29), .ref (a 34), .ref (a 43), .int 0, .int 0, .int 0, .int 0])), (a 29, .inr (1, [.ref (a 30), .ref (a 31), .ref (a 32), .ref (a 33), .int 0])), (a 24, .inr (6, [.ref (a 25), .int 0])), (a 23, .inl (cI, 10, .inl (fun _ => (0 : Int32)))), (b 0, .inr (8, [.ref (b 1), .int 0, .int 0, .int 0, .int 0, .int 0, .int 0, .int 0, .int (-1), .int (-1), .ref (b 11), .ref (b 12), .ref (b 13), .int 0, .int 0, .ref (b 16), .ref (b 17), .ref (b 18), .ref (b 19), .ref (b 20), .ref (b 21), .ref (b 22), .ref (b 23), .ref (b 24), .int 0, .ref (b 26), .ref (b 27), .ref (b 28), .ref (b 29), .ref (b 30), .ref (b 31), .ref (b 32), .int 0, .int 0, .ref (b 35), .ref (b 36), .ref (b 37), .ref (b 38), .ref (b 39), .ref (b 40), .int 0, .ref (b 42), .ref (b 43), .ref (b 44), .int 0, .ref (b 46), .ref (b 47), .int 0, .ref (b 49)])), (b 24, .inl (cI, 10, .inl (fun _ => (0 : Int32))))] H := hP
  have hD : va_D (fun q : Nat => s.heap.size ≤ q) [(a 0, .inr (7, [.ref (a 1), .ref (a 10), .ref (a 23), .ref (a 24), .ref (a 26), .ref (a 29), .ref (a 34), .ref (a 43), .int 0, .int 0, .int 0, .int 0])), (a 29, .inr (1, [.ref (a 30), .ref (a 31), .ref (a 32), .ref (a 33), .int 0])), (a 24, .inr (6, [.ref (a 25), .int 0])), (a 23, .inl (cI, 10, .inl (fun _ => (0 : Int32)))), (b 0, .inr (8, [.ref (b 1), .int 0, .int 0, .int 0, .int 0, .int 0, .int 0, .int 0, .int (-1), .int (-1), .ref (b 11), .ref (b 12), .ref (b 13), .int 0, .int 0, .ref (b 16), .ref (b 17), .ref (b 18), .ref (b 19), .ref (b 20), .ref (b 21), .ref (b 22), .ref (b 23), .ref (b 24), .int 0, .ref (b 26), .ref (b 27), .ref (b 28), .ref (b 29), .ref (b 30), .ref (b 31), .ref (b 32), .int 0, .int 0, .ref (b 35), .ref (b 36), .ref (b 37), .ref (b 38), .ref (b 39), .ref (b 40), .int 0, .ref (b 42), .ref (b 43), .ref (b 44), .int 0, .ref (b 46), .ref (b 47), .int 0, .ref (b 49)])), (b 24, .inl (cI, 10, .inl (fun _ => (0 : Int32))))] := hD
  refine lv_icmp_eq (tgt := 818) hx hb dL_law_813 (by decide) (fun _ => ?_) (fun c_3 => absurd c_3 (fun z9 => z9 (e_1.trans e_2.symm)))
  exact law_end l hL6 C0 hS (lv_sub hl [0, 3] rfl) (by decide) (by decide)

