theorem tw_602 : Cond.code yX7_houseOf cX7_houseOf 4 (some .int) ∈ zz_all := zz_m3 44 rfl rfl
theorem tw_603 : Cond.methodLink RL 68 yX7_houseOf ∈ zz_all := zz_m3 41 rfl rfl
theorem tw_604 : Cond.instanceMethod yX7_houseOf ∈ zz_all := zz_m3 42 rfl rfl
theorem tw_605 : Cond.selects RX7 yX7_houseOf yX7_houseOf ∈ zz_all := zz_m3 43 rfl rfl
theorem tw_606 : Cond.code yX8_houseOf cX8_houseOf 5 (some .int) ∈ zz_all := zz_m4 222 rfl rfl
theorem tw_607 : Cond.methodLink RL 71 yX8_houseOf ∈ zz_all := zz_m4 219 rfl rfl
theorem tw_608 : Cond.instanceMethod yX8_houseOf ∈ zz_all := zz_m4 220 rfl rfl
theorem tw_609 : Cond.selects RX8 yX8_houseOf yX8_houseOf ∈ zz_all := zz_m4 221 rfl rfl
theorem tw_610 : Cond.code yX7_fieldOf cX7_fieldOf 4 (some .int) ∈ zz_all := zz_m3 53 rfl rfl
theorem tw_611 : Cond.methodLink RL 72 yX7_fieldOf ∈ zz_all := zz_m3 50 rfl rfl
theorem tw_612 : Cond.instanceMethod yX7_fieldOf ∈ zz_all := zz_m3 51 rfl rfl
theorem tw_613 : Cond.selects RX7 yX7_fieldOf yX7_fieldOf ∈ zz_all := zz_m3 52 rfl rfl
theorem tw_614 : Cond.code yX8_fieldOf cX8_fieldOf 3 (some .int) ∈ zz_all := zz_m4 231 rfl rfl
theorem tw_615 : Cond.methodLink RL 75 yX8_fieldOf ∈ zz_all := zz_m4 228 rfl rfl
theorem tw_616 : Cond.instanceMethod yX8_fieldOf ∈ zz_all := zz_m4 229 rfl rfl
theorem tw_617 : Cond.selects RX8 yX8_fieldOf yX8_fieldOf ∈ zz_all := zz_m4 230 rfl rfl
theorem tw_618 : Cond.code yX7_owes cX7_owes 3 (some .int) ∈ zz_all := zz_m3 57 rfl rfl
theorem tw_619 : Cond.methodLink RL 76 yX7_owes ∈ zz_all := zz_m3 54 rfl rfl
theorem tw_620 : Cond.instanceMethod yX7_owes ∈ zz_all := zz_m3 55 rfl rfl
theorem tw_621 : Cond.selects RX7 yX7_owes yX7_owes ∈ zz_all := zz_m3 56 rfl rfl
theorem tw_622 : Cond.code yX8_owes cX8_owes 3 (some .int) ∈ zz_all := zz_m4 235 rfl rfl
theorem tw_623 : Cond.methodLink RL 79 yX8_owes ∈ zz_all := zz_m4 232 rfl rfl
theorem tw_624 : Cond.instanceMethod yX8_owes ∈ zz_all := zz_m4 233 rfl rfl
theorem tw_625 : Cond.selects RX8 yX8_owes yX8_owes ∈ zz_all := zz_m4 234 rfl rfl
theorem tw_626 : Cond.code yX7_oldest cX7_oldest 3 (some .int) ∈ zz_all := zz_m3 69 rfl rfl
theorem tw_627 : Cond.methodLink RL 80 yX7_oldest ∈ zz_all := zz_m3 66 rfl rfl
theorem tw_628 : Cond.instanceMethod yX7_oldest ∈ zz_all := zz_m3 67 rfl rfl
theorem tw_629 : Cond.selects RX7 yX7_oldest yX7_oldest ∈ zz_all := zz_m3 68 rfl rfl
theorem tw_630 : Cond.code yX8_oldest cX8_oldest 4 (some .int) ∈ zz_all := zz_m5 3 rfl rfl
theorem tw_631 : Cond.methodLink RL 83 yX8_oldest ∈ zz_all := zz_m5 0 rfl rfl
theorem tw_632 : Cond.instanceMethod yX8_oldest ∈ zz_all := zz_m5 1 rfl rfl
theorem tw_633 : Cond.selects RX8 yX8_oldest yX8_oldest ∈ zz_all := zz_m5 2 rfl rfl
theorem zy_b94ld_0 : decode cL_law 558 = .ok (.aload_n 1, 1) ∧ decode cL_law 559 = .ok (.aload_n 0, 1) ∧ decode cL_law 560 = .ok (.iload_n 3, 1) ∧ decode cL_law 561 = .ok (.iconst 1, 1) ∧ decode cL_law 562 = .ok (.iadd, 1) ∧ decode cL_law 563 = .ok (.iaload, 1) ∧ decode cL_law 564 = .ok (.aload_n 0, 1) ∧ decode cL_law 565 = .ok (.iload_n 3, 1) := by decide +kernel
theorem dL_law_558 : decode cL_law 558 = .ok (.aload_n 1, 1) := zy_b94ld_0.1
theorem dL_law_559 : decode cL_law 559 = .ok (.aload_n 0, 1) := zy_b94ld_0.2.1
theorem dL_law_560 : decode cL_law 560 = .ok (.iload_n 3, 1) := zy_b94ld_0.2.2.1
theorem dL_law_561 : decode cL_law 561 = .ok (.iconst 1, 1) := zy_b94ld_0.2.2.2.1
theorem dL_law_562 : decode cL_law 562 = .ok (.iadd, 1) := zy_b94ld_0.2.2.2.2.1
theorem dL_law_563 : decode cL_law 563 = .ok (.iaload, 1) := zy_b94ld_0.2.2.2.2.2.1
theorem dL_law_564 : decode cL_law 564 = .ok (.aload_n 0, 1) := zy_b94ld_0.2.2.2.2.2.2.1
theorem dL_law_565 : decode cL_law 565 = .ok (.iload_n 3, 1) := zy_b94ld_0.2.2.2.2.2.2.2
theorem zy_b94ld_1 : decode cL_law 566 = .ok (.iconst 2, 1) ∧ decode cL_law 567 = .ok (.iadd, 1) ∧ decode cL_law 568 = .ok (.iaload, 1) ∧ decode cL_law 569 = .ok (.invokevirtual 68, 3) ∧ decode cL_law 572 = .ok (.pop, 1) ∧ decode cL_law 573 = .ok (.aload_n 2, 1) ∧ decode cL_law 574 = .ok (.aload_n 0, 1) ∧ decode cL_law 575 = .ok (.iload_n 3, 1) := by decide +kernel
theorem dL_law_566 : decode cL_law 566 = .ok (.iconst 2, 1) := zy_b94ld_1.1
theorem dL_law_567 : decode cL_law 567 = .ok (.iadd, 1) := zy_b94ld_1.2.1
theorem dL_law_568 : decode cL_law 568 = .ok (.iaload, 1) := zy_b94ld_1.2.2.1
theorem dL_law_569 : decode cL_law 569 = .ok (.invokevirtual 68, 3) := zy_b94ld_1.2.2.2.1
theorem dL_law_572 : decode cL_law 572 = .ok (.pop, 1) := zy_b94ld_1.2.2.2.2.1
theorem dL_law_573 : decode cL_law 573 = .ok (.aload_n 2, 1) := zy_b94ld_1.2.2.2.2.2.1
theorem dL_law_574 : decode cL_law 574 = .ok (.aload_n 0, 1) := zy_b94ld_1.2.2.2.2.2.2.1
theorem dL_law_575 : decode cL_law 575 = .ok (.iload_n 3, 1) := zy_b94ld_1.2.2.2.2.2.2.2
theorem zy_b94ld_2 : decode cL_law 576 = .ok (.iconst 1, 1) ∧ decode cL_law 577 = .ok (.iadd, 1) ∧ decode cL_law 578 = .ok (.iaload, 1) ∧ decode cL_law 579 = .ok (.aload_n 0, 1) ∧ decode cL_law 580 = .ok (.iload_n 3, 1) ∧ decode cL_law 581 = .ok (.iconst 2, 1) ∧ decode cL_law 582 = .ok (.iadd, 1) ∧ decode cL_law 583 = .ok (.iaload, 1) := by decide +kernel
theorem dL_law_576 : decode cL_law 576 = .ok (.iconst 1, 1) := zy_b94ld_2.1
theorem dL_law_577 : decode cL_law 577 = .ok (.iadd, 1) := zy_b94ld_2.2.1
theorem dL_law_578 : decode cL_law 578 = .ok (.iaload, 1) := zy_b94ld_2.2.2.1
theorem dL_law_579 : decode cL_law 579 = .ok (.aload_n 0, 1) := zy_b94ld_2.2.2.2.1
theorem dL_law_580 : decode cL_law 580 = .ok (.iload_n 3, 1) := zy_b94ld_2.2.2.2.2.1
theorem dL_law_581 : decode cL_law 581 = .ok (.iconst 2, 1) := zy_b94ld_2.2.2.2.2.2.1
theorem dL_law_582 : decode cL_law 582 = .ok (.iadd, 1) := zy_b94ld_2.2.2.2.2.2.2.1
theorem dL_law_583 : decode cL_law 583 = .ok (.iaload, 1) := zy_b94ld_2.2.2.2.2.2.2.2
theorem zy_b94ld_3 : decode cL_law 584 = .ok (.invokevirtual 71, 3) ∧ decode cL_law 587 = .ok (.pop, 1) ∧ decode cL_law 588 = .ok (.goto 230, 3) ∧ decode cL_law 591 = .ok (.aload_n 1, 1) ∧ decode cL_law 592 = .ok (.aload_n 0, 1) ∧ decode cL_law 593 = .ok (.iload_n 3, 1) ∧ decode cL_law 594 = .ok (.iconst 1, 1) ∧ decode cL_law 595 = .ok (.iadd, 1) := by decide +kernel
theorem dL_law_584 : decode cL_law 584 = .ok (.invokevirtual 71, 3) := zy_b94ld_3.1
theorem dL_law_587 : decode cL_law 587 = .ok (.pop, 1) := zy_b94ld_3.2.1
theorem dL_law_588 : decode cL_law 588 = .ok (.goto 230, 3) := zy_b94ld_3.2.2.1
theorem dL_law_591 : decode cL_law 591 = .ok (.aload_n 1, 1) := zy_b94ld_3.2.2.2.1
theorem dL_law_592 : decode cL_law 592 = .ok (.aload_n 0, 1) := zy_b94ld_3.2.2.2.2.1
theorem dL_law_593 : decode cL_law 593 = .ok (.iload_n 3, 1) := zy_b94ld_3.2.2.2.2.2.1
theorem dL_law_594 : decode cL_law 594 = .ok (.iconst 1, 1) := zy_b94ld_3.2.2.2.2.2.2.1
theorem dL_law_595 : decode cL_law 595 = .ok (.iadd, 1) := zy_b94ld_3.2.2.2.2.2.2.2
theorem zy_b94ld_4 : decode cL_law 596 = .ok (.iaload, 1) ∧ decode cL_law 597 = .ok (.aload_n 0, 1) ∧ decode cL_law 598 = .ok (.iload_n 3, 1) ∧ decode cL_law 599 = .ok (.iconst 2, 1) ∧ decode cL_law 600 = .ok (.iadd, 1) ∧ decode cL_law 601 = .ok (.iaload, 1) ∧ decode cL_law 602 = .ok (.invokevirtual 72, 3) ∧ decode cL_law 605 = .ok (.pop, 1) := by decide +kernel
theorem dL_law_596 : decode cL_law 596 = .ok (.iaload, 1) := zy_b94ld_4.1
theorem dL_law_597 : decode cL_law 597 = .ok (.aload_n 0, 1) := zy_b94ld_4.2.1
theorem dL_law_598 : decode cL_law 598 = .ok (.iload_n 3, 1) := zy_b94ld_4.2.2.1
theorem dL_law_599 : decode cL_law 599 = .ok (.iconst 2, 1) := zy_b94ld_4.2.2.2.1
theorem dL_law_600 : decode cL_law 600 = .ok (.iadd, 1) := zy_b94ld_4.2.2.2.2.1
theorem dL_law_601 : decode cL_law 601 = .ok (.iaload, 1) := zy_b94ld_4.2.2.2.2.2.1
theorem dL_law_602 : decode cL_law 602 = .ok (.invokevirtual 72, 3) := zy_b94ld_4.2.2.2.2.2.2.1
theorem dL_law_605 : decode cL_law 605 = .ok (.pop, 1) := zy_b94ld_4.2.2.2.2.2.2.2
theorem zy_b94ld_5 : decode cL_law 606 = .ok (.aload_n 2, 1) ∧ decode cL_law 607 = .ok (.aload_n 0, 1) ∧ decode cL_law 608 = .ok (.iload_n 3, 1) ∧ decode cL_law 609 = .ok (.iconst 1, 1) ∧ decode cL_law 610 = .ok (.iadd, 1) ∧ decode cL_law 611 = .ok (.iaload, 1) ∧ decode cL_law 612 = .ok (.aload_n 0, 1) ∧ decode cL_law 613 = .ok (.iload_n 3, 1) := by decide +kernel
theorem dL_law_606 : decode cL_law 606 = .ok (.aload_n 2, 1) := zy_b94ld_5.1
theorem dL_law_607 : decode cL_law 607 = .ok (.aload_n 0, 1) := zy_b94ld_5.2.1
theorem dL_law_608 : decode cL_law 608 = .ok (.iload_n 3, 1) := zy_b94ld_5.2.2.1
theorem dL_law_609 : decode cL_law 609 = .ok (.iconst 1, 1) := zy_b94ld_5.2.2.2.1
theorem dL_law_610 : decode cL_law 610 = .ok (.iadd, 1) := zy_b94ld_5.2.2.2.2.1
theorem dL_law_611 : decode cL_law 611 = .ok (.iaload, 1) := zy_b94ld_5.2.2.2.2.2.1
theorem dL_law_612 : decode cL_law 612 = .ok (.aload_n 0, 1) := zy_b94ld_5.2.2.2.2.2.2.1
theorem dL_law_613 : decode cL_law 613 = .ok (.iload_n 3, 1) := zy_b94ld_5.2.2.2.2.2.2.2
theorem zy_b94ld_6 : decode cL_law 614 = .ok (.iconst 2, 1) ∧ decode cL_law 615 = .ok (.iadd, 1) ∧ decode cL_law 616 = .ok (.iaload, 1) ∧ decode cL_law 617 = .ok (.invokevirtual 75, 3) ∧ decode cL_law 620 = .ok (.pop, 1) ∧ decode cL_law 621 = .ok (.goto 197, 3) ∧ decode cL_law 624 = .ok (.aload_n 1, 1) ∧ decode cL_law 625 = .ok (.aload_n 0, 1) := by decide +kernel
theorem dL_law_614 : decode cL_law 614 = .ok (.iconst 2, 1) := zy_b94ld_6.1
theorem dL_law_615 : decode cL_law 615 = .ok (.iadd, 1) := zy_b94ld_6.2.1
theorem dL_law_616 : decode cL_law 616 = .ok (.iaload, 1) := zy_b94ld_6.2.2.1
theorem dL_law_617 : decode cL_law 617 = .ok (.invokevirtual 75, 3) := zy_b94ld_6.2.2.2.1
theorem dL_law_620 : decode cL_law 620 = .ok (.pop, 1) := zy_b94ld_6.2.2.2.2.1
theorem dL_law_621 : decode cL_law 621 = .ok (.goto 197, 3) := zy_b94ld_6.2.2.2.2.2.1
theorem dL_law_624 : decode cL_law 624 = .ok (.aload_n 1, 1) := zy_b94ld_6.2.2.2.2.2.2.1
theorem dL_law_625 : decode cL_law 625 = .ok (.aload_n 0, 1) := zy_b94ld_6.2.2.2.2.2.2.2
theorem zy_b94ld_7 : decode cL_law 626 = .ok (.iload_n 3, 1) ∧ decode cL_law 627 = .ok (.iconst 1, 1) ∧ decode cL_law 628 = .ok (.iadd, 1) ∧ decode cL_law 629 = .ok (.iaload, 1) ∧ decode cL_law 630 = .ok (.aload_n 0, 1) ∧ decode cL_law 631 = .ok (.iload_n 3, 1) ∧ decode cL_law 632 = .ok (.iconst 2, 1) ∧ decode cL_law 633 = .ok (.iadd, 1) := by decide +kernel
theorem dL_law_626 : decode cL_law 626 = .ok (.iload_n 3, 1) := zy_b94ld_7.1
theorem dL_law_627 : decode cL_law 627 = .ok (.iconst 1, 1) := zy_b94ld_7.2.1
theorem dL_law_628 : decode cL_law 628 = .ok (.iadd, 1) := zy_b94ld_7.2.2.1
theorem dL_law_629 : decode cL_law 629 = .ok (.iaload, 1) := zy_b94ld_7.2.2.2.1
theorem dL_law_630 : decode cL_law 630 = .ok (.aload_n 0, 1) := zy_b94ld_7.2.2.2.2.1
theorem dL_law_631 : decode cL_law 631 = .ok (.iload_n 3, 1) := zy_b94ld_7.2.2.2.2.2.1
theorem dL_law_632 : decode cL_law 632 = .ok (.iconst 2, 1) := zy_b94ld_7.2.2.2.2.2.2.1
theorem dL_law_633 : decode cL_law 633 = .ok (.iadd, 1) := zy_b94ld_7.2.2.2.2.2.2.2
theorem zy_b94ld_8 : decode cL_law 634 = .ok (.iaload, 1) ∧ decode cL_law 635 = .ok (.invokevirtual 76, 3) ∧ decode cL_law 638 = .ok (.pop, 1) ∧ decode cL_law 639 = .ok (.aload_n 2, 1) ∧ decode cL_law 640 = .ok (.aload_n 0, 1) ∧ decode cL_law 641 = .ok (.iload_n 3, 1) ∧ decode cL_law 642 = .ok (.iconst 1, 1) ∧ decode cL_law 643 = .ok (.iadd, 1) := by decide +kernel
theorem dL_law_634 : decode cL_law 634 = .ok (.iaload, 1) := zy_b94ld_8.1
theorem dL_law_635 : decode cL_law 635 = .ok (.invokevirtual 76, 3) := zy_b94ld_8.2.1
theorem dL_law_638 : decode cL_law 638 = .ok (.pop, 1) := zy_b94ld_8.2.2.1
theorem dL_law_639 : decode cL_law 639 = .ok (.aload_n 2, 1) := zy_b94ld_8.2.2.2.1
theorem dL_law_640 : decode cL_law 640 = .ok (.aload_n 0, 1) := zy_b94ld_8.2.2.2.2.1
theorem dL_law_641 : decode cL_law 641 = .ok (.iload_n 3, 1) := zy_b94ld_8.2.2.2.2.2.1
theorem dL_law_642 : decode cL_law 642 = .ok (.iconst 1, 1) := zy_b94ld_8.2.2.2.2.2.2.1
theorem dL_law_643 : decode cL_law 643 = .ok (.iadd, 1) := zy_b94ld_8.2.2.2.2.2.2.2
theorem zy_b94ld_9 : decode cL_law 644 = .ok (.iaload, 1) ∧ decode cL_law 645 = .ok (.aload_n 0, 1) ∧ decode cL_law 646 = .ok (.iload_n 3, 1) ∧ decode cL_law 647 = .ok (.iconst 2, 1) ∧ decode cL_law 648 = .ok (.iadd, 1) ∧ decode cL_law 649 = .ok (.iaload, 1) ∧ decode cL_law 650 = .ok (.invokevirtual 79, 3) ∧ decode cL_law 653 = .ok (.pop, 1) := by decide +kernel
theorem dL_law_644 : decode cL_law 644 = .ok (.iaload, 1) := zy_b94ld_9.1
theorem dL_law_645 : decode cL_law 645 = .ok (.aload_n 0, 1) := zy_b94ld_9.2.1
theorem dL_law_646 : decode cL_law 646 = .ok (.iload_n 3, 1) := zy_b94ld_9.2.2.1
theorem dL_law_647 : decode cL_law 647 = .ok (.iconst 2, 1) := zy_b94ld_9.2.2.2.1
theorem dL_law_648 : decode cL_law 648 = .ok (.iadd, 1) := zy_b94ld_9.2.2.2.2.1
theorem dL_law_649 : decode cL_law 649 = .ok (.iaload, 1) := zy_b94ld_9.2.2.2.2.2.1
theorem dL_law_650 : decode cL_law 650 = .ok (.invokevirtual 79, 3) := zy_b94ld_9.2.2.2.2.2.2.1
theorem dL_law_653 : decode cL_law 653 = .ok (.pop, 1) := zy_b94ld_9.2.2.2.2.2.2.2
theorem zy_b94ld_10 : decode cL_law 654 = .ok (.goto 164, 3) ∧ decode cL_law 657 = .ok (.aload_n 1, 1) ∧ decode cL_law 658 = .ok (.aload_n 0, 1) ∧ decode cL_law 659 = .ok (.iload_n 3, 1) ∧ decode cL_law 660 = .ok (.iconst 1, 1) ∧ decode cL_law 661 = .ok (.iadd, 1) ∧ decode cL_law 662 = .ok (.iaload, 1) ∧ decode cL_law 663 = .ok (.aload_n 0, 1) := by decide +kernel
theorem dL_law_654 : decode cL_law 654 = .ok (.goto 164, 3) := zy_b94ld_10.1
theorem dL_law_657 : decode cL_law 657 = .ok (.aload_n 1, 1) := zy_b94ld_10.2.1
theorem dL_law_658 : decode cL_law 658 = .ok (.aload_n 0, 1) := zy_b94ld_10.2.2.1
theorem dL_law_659 : decode cL_law 659 = .ok (.iload_n 3, 1) := zy_b94ld_10.2.2.2.1
theorem dL_law_660 : decode cL_law 660 = .ok (.iconst 1, 1) := zy_b94ld_10.2.2.2.2.1
theorem dL_law_661 : decode cL_law 661 = .ok (.iadd, 1) := zy_b94ld_10.2.2.2.2.2.1
theorem dL_law_662 : decode cL_law 662 = .ok (.iaload, 1) := zy_b94ld_10.2.2.2.2.2.2.1
theorem dL_law_663 : decode cL_law 663 = .ok (.aload_n 0, 1) := zy_b94ld_10.2.2.2.2.2.2.2
theorem zy_b94ld_11 : decode cL_law 664 = .ok (.iload_n 3, 1) ∧ decode cL_law 665 = .ok (.iconst 2, 1) ∧ decode cL_law 666 = .ok (.iadd, 1) ∧ decode cL_law 667 = .ok (.iaload, 1) ∧ decode cL_law 668 = .ok (.invokevirtual 80, 3) ∧ decode cL_law 671 = .ok (.pop, 1) ∧ decode cL_law 672 = .ok (.aload_n 2, 1) ∧ decode cL_law 673 = .ok (.aload_n 0, 1) := by decide +kernel
theorem dL_law_664 : decode cL_law 664 = .ok (.iload_n 3, 1) := zy_b94ld_11.1
theorem dL_law_665 : decode cL_law 665 = .ok (.iconst 2, 1) := zy_b94ld_11.2.1
theorem dL_law_666 : decode cL_law 666 = .ok (.iadd, 1) := zy_b94ld_11.2.2.1
theorem dL_law_667 : decode cL_law 667 = .ok (.iaload, 1) := zy_b94ld_11.2.2.2.1
theorem dL_law_668 : decode cL_law 668 = .ok (.invokevirtual 80, 3) := zy_b94ld_11.2.2.2.2.1
theorem dL_law_671 : decode cL_law 671 = .ok (.pop, 1) := zy_b94ld_11.2.2.2.2.2.1
theorem dL_law_672 : decode cL_law 672 = .ok (.aload_n 2, 1) := zy_b94ld_11.2.2.2.2.2.2.1
theorem dL_law_673 : decode cL_law 673 = .ok (.aload_n 0, 1) := zy_b94ld_11.2.2.2.2.2.2.2
theorem zy_b94ld_12 : decode cL_law 674 = .ok (.iload_n 3, 1) ∧ decode cL_law 675 = .ok (.iconst 1, 1) ∧ decode cL_law 676 = .ok (.iadd, 1) ∧ decode cL_law 677 = .ok (.iaload, 1) ∧ decode cL_law 678 = .ok (.aload_n 0, 1) ∧ decode cL_law 679 = .ok (.iload_n 3, 1) ∧ decode cL_law 680 = .ok (.iconst 2, 1) ∧ decode cL_law 681 = .ok (.iadd, 1) := by decide +kernel
theorem dL_law_674 : decode cL_law 674 = .ok (.iload_n 3, 1) := zy_b94ld_12.1
theorem dL_law_675 : decode cL_law 675 = .ok (.iconst 1, 1) := zy_b94ld_12.2.1
theorem dL_law_676 : decode cL_law 676 = .ok (.iadd, 1) := zy_b94ld_12.2.2.1
theorem dL_law_677 : decode cL_law 677 = .ok (.iaload, 1) := zy_b94ld_12.2.2.2.1
theorem dL_law_678 : decode cL_law 678 = .ok (.aload_n 0, 1) := zy_b94ld_12.2.2.2.2.1
theorem dL_law_679 : decode cL_law 679 = .ok (.iload_n 3, 1) := zy_b94ld_12.2.2.2.2.2.1
theorem dL_law_680 : decode cL_law 680 = .ok (.iconst 2, 1) := zy_b94ld_12.2.2.2.2.2.2.1
theorem dL_law_681 : decode cL_law 681 = .ok (.iadd, 1) := zy_b94ld_12.2.2.2.2.2.2.2
theorem zy_b94ld_13 : decode cL_law 682 = .ok (.iaload, 1) ∧ decode cL_law 683 = .ok (.invokevirtual 83, 3) ∧ decode cL_law 686 = .ok (.pop, 1) ∧ decode cL_law 687 = .ok (.goto 131, 3) := by decide +kernel
theorem dL_law_682 : decode cL_law 682 = .ok (.iaload, 1) := zy_b94ld_13.1
theorem dL_law_683 : decode cL_law 683 = .ok (.invokevirtual 83, 3) := zy_b94ld_13.2.1
theorem dL_law_686 : decode cL_law 686 = .ok (.pop, 1) := zy_b94ld_13.2.2.1
theorem dL_law_687 : decode cL_law 687 = .ok (.goto 131, 3) := zy_b94ld_13.2.2.2
set_option maxHeartbeats 4000000 in
set_option maxRecDepth 100000 in
theorem lc_houseOf {p : Program} {e : Env} {s : State} {m : MethodId} {below : List Frame} {meth : Method} {c : Code} (l : Launch) {sb SL : Nat} {xs : Nat → Int32} {dC : Nat → ClassId} {dI : Nat → Nat → Nat} {b0 b1 b2 : Nat} {adK adV : Nat → Nat} (a : Nat → Nat) (b : Nat → Nat) (cH : ClassId) (cF : ClassId) (cI : ClassId) (cB : ClassId) (cZ : ClassId) (fH : Nat → Option Nat) (fF : Nat → Option Nat) (L : List Nat) (K : Nat → Nat) (C0 : lw_At p s m meth c sb SL xs) (hN : zz_N s) (hU : zz_G b0 b1 b2 adK adV (fun q : Nat => s.heap.size ≤ q) s) (hfH : ∀ k, k < 8 → fH k = some (a (2 + k))) (hfF : ∀ k, k < 12 → fF k = some (a (11 + k))) (hH : ∀ k, k < 8 → a (2 + k) ∈ L ∧ K (a (2 + k)) = 4) (hF : ∀ k, k < 12 → a (11 + k) ∈ L ∧ K (a (11 + k)) = 3) (hK : va_K (dC, dI) vwCl [(cH, .object RX4), (cF, .object RX3), (cI, .int), (cB, .byte), (cZ, .boolean)] s) (hdj : zz_dj a) {k : Nat} (hk : 6 * k + 6 ≤ SL) (hL : SL ≤ 3072) (ih : ∀ (H : Heap) (locs : List Loc) (ls : Array Slot), zz_J (dC, dI) (fun q : Nat => s.heap.size ≤ q) a b cH cF cI cB cZ fH fF L K (k + 1) H → va_S (fun q : Nat => s.heap.size ≤ q) s.heap H locs → lv_has ls 4 [(3, .int (nI (6 * k + 6))), (2, .ref (b 0)), (1, .ref (a 0)), (0, .ref sb)] → W p l e room_1 s m #[Value.ref sb] below meth c H locs 85 4448 (lw_Z below #[Value.ref sb] s) (F0 m 18 ls [])) {H : Heap} {locs : List Loc} {ls : Array Slot} (hJ : zz_J (dC, dI) (fun q : Nat => s.heap.size ≤ q) a b cH cF cI cB cZ fH fF L K k H) (hS : va_S (fun q : Nat => s.heap.size ≤ q) s.heap H locs) (hl : lv_has ls 4 [(3, .int (nI (6 * k))), (2, .ref (b 0)), (1, .ref (a 0)), (0, .ref sb)]) : W p l e room_1 s m #[Value.ref sb] below meth c H locs 85 4448 (lw_Z below #[Value.ref sb] s) (F0 m 558 ls []) := by
  obtain ⟨hx, hb, hr, hml, hown, hts, hX, hbl, hlocks, hgv⟩ := id C0
  have hw : ∀ w ∈ zz_all, w.before #[Value.ref sb] s = true := fun w h => hts w (zz_in_tbl h)
  have hown : s.vm.findClass RL = some m.cls := hown
  have hA : ∀ q : Nat, s.heap.size ≤ q → (fun q : Nat => s.heap.size ≤ q) q := fun _ h => h
  have hbA : ¬ (fun q : Nat => s.heap.size ≤ q) sb := Nat.not_le.mpr hbl
  obtain ⟨jN, jX, jF, V, gg, ⟨hc8, hf12, hnc, hnt, hnd, hne, hnp, hcc, hbn, hmt, hmc, hmh, hmf, hmd, hro, hrk, hrn, hrr, hrv, hdn, hrd, hrc, hru, hcm, hpk, hag1, hag2, hag3, hag4, hby, hcu0, hcu1, htc, hed, heo, hec, hes, heu, hel, hhi, hR, hil, huq, hoc, hdq, hlr, hpc, hpq⟩, hP, hD⟩ := hJ
  refine lv_aload_n hx hb dL_law_558 rfl (lv_at hl 2 rfl) ?_
  refine lv_aload_n hx hb dL_law_559 rfl (lv_at hl 3 rfl) ?_
  refine lv_iload_n hx hb dL_law_560 rfl (lv_at hl 0 rfl) ?_
  refine lv_iconst (v := 1) hx hb dL_law_561 (by decide) ?_
  refine lv_iadd hx hb dL_law_562 ?_
  refine zz_seti (nI ((6 * k) + 1)) (nI_1 _) ?_
  refine va_sld hx hb hX hbl hbA hS (vp_in_iff.mpr (by rw [zz_toInt ((6 * k) + 1) (by omega)]; constructor <;> omega)) dL_law_563 ?_
  refine lv_aload_n hx hb dL_law_564 rfl (lv_at hl 3 rfl) ?_
  refine lv_iload_n hx hb dL_law_565 rfl (lv_at hl 0 rfl) ?_
  refine lv_iconst (v := 2) hx hb dL_law_566 (by decide) ?_
  refine lv_iadd hx hb dL_law_567 ?_
  refine zz_seti (nI ((6 * k) + 2)) (nI_add _ 2) ?_
  refine va_sld hx hb hX hbl hbA hS (vp_in_iff.mpr (by rw [zz_toInt ((6 * k) + 2) (by omega)]; constructor <;> omega)) dL_law_568 ?_
  obtain ⟨hPc, hDc⟩ := zz_part2 (cx := [(a 0, .inr (7, [.ref (a 1), .ref (a 10), .ref (a 23), .ref (a 24), .ref (a 26), .ref (a 29), .ref (a 34), .ref (a 43), .int (nI (jN 0)), .int (nI (jN 1)), .int (nI (jN 2)), .int (jX 0)])), (a 1, .inl (cH, 8, .inr (.inr (.inr (.inr fH))))), (a 29, .inr (1, [.ref (a 30), .ref (a 31), .ref (a 32), .ref (a 33), .int (nI (jN 4))])), (a 30, .inl (cI, 300, .inl (jF 4))), (a 31, .inl (cI, 300, .inl (jF 5))), (a 32, .inl (cI, 300, .inl (jF 6))), (a 33, .inl (cI, 300, .inl (jF 7)))]) hP hD [0, 1, 9, 10, 11, 12, 13] (by decide) rfl
  have hKc := hK.sub (tys' := [(cH, .object RX4), (cI, .int)]) [0, 2] rfl
  have hFc := zz_free0 hS hA
  refine va_calli (va_runV (As := [.int (xs (Int32.toNatClampNeg (nI ((6 * k) + 1)))), .int (xs (Int32.toNatClampNeg (nI ((6 * k) + 2))))]) (rest := []) ⟨hx, hb, hml, hown, hw⟩ (kx_houseOf l dC dI a (jN 0) (jN 1) (nI (jN 2)) (jX 0) cH fH cI (jN 4) (jF 4) (jF 5) (jF 6) (jF 7) V (jF 28) (jF 29) (jF 30) (jF 31) (jF 32) (jF 33) (jF 34) (jF 35) (zz_prn (jF 37) (jF 42) (jF 43) (jN 11)) (jF 37) (jF 38) (jF 39) (jF 40) (jF 41) (zz_dfn (jF 42) (jN 11)) (zz_pfn (jF 42) (jF 43) (jN 11)) (xs (Int32.toNatClampNeg (nI ((6 * k) + 1)))) (xs (Int32.toNatClampNeg (nI ((6 * k) + 2)))) L K H.size (by omega) (by omega) hfH hH hR (by omega) (by rw [heo, hec, hed]; exact hoc)) ⟨callB_of 2 hw (zz_good tw_602) rfl rfl rfl (hw _ tw_2) (hw _ tw_603) (by decide +kernel) ⟨Nat.le_of_ble_eq_true rfl, Nat.le_of_ble_eq_true rfl⟩, (hw _ tw_604), (hw _ tw_605)⟩ ⟨zz_blind, va_recv hKc hPc (ci := 7) (q0 := 0) rfl rfl, zz_pre hPc hKc hDc hN⟩ rfl rfl hl.1 rfl (lv_room (Nat.le_of_ble_eq_true rfl)) dL_law_569 ⟨Nat.le_of_ble_eq_true rfl, Nat.le_of_ble_eq_true rfl⟩) hS (fun q _ h => hFc q h) hFc (fun r_1 u_1 t H1 locs ht hvm e_1 hB hz1 hk1 hS => ?_)
  try dsimp only at e_1
  have hP := zz_keep hP hk1
  clear hk1 hB ht hvm
  generalize H1 = H at hP hS ⊢
  refine lv_pop hx hb dL_law_572 rfl ?_
  refine lv_aload_n hx hb dL_law_573 rfl (lv_at hl 1 rfl) ?_
  refine lv_aload_n hx hb dL_law_574 rfl (lv_at hl 3 rfl) ?_
  refine lv_iload_n hx hb dL_law_575 rfl (lv_at hl 0 rfl) ?_
  refine lv_iconst (v := 1) hx hb dL_law_576 (by decide) ?_
  refine lv_iadd hx hb dL_law_577 ?_
  refine zz_seti (nI ((6 * k) + 1)) (nI_1 _) ?_
  refine va_sld hx hb hX hbl hbA hS (vp_in_iff.mpr (by rw [zz_toInt ((6 * k) + 1) (by omega)]; constructor <;> omega)) dL_law_578 ?_
  refine lv_aload_n hx hb dL_law_579 rfl (lv_at hl 3 rfl) ?_
  refine lv_iload_n hx hb dL_law_580 rfl (lv_at hl 0 rfl) ?_
  refine lv_iconst (v := 2) hx hb dL_law_581 (by decide) ?_
  refine lv_iadd hx hb dL_law_582 ?_
  refine zz_seti (nI ((6 * k) + 2)) (nI_add _ 2) ?_
  refine va_sld hx hb hX hbl hbA hS (vp_in_iff.mpr (by rw [zz_toInt ((6 * k) + 2) (by omega)]; constructor <;> omega)) dL_law_583 ?_
  obtain ⟨hPc, hDc⟩ := zz_sub2 (ws' := [(b 0, .inr (8, [.ref (b 1), .int (nI (jN 8)), .int (gg 2), .int (gg 3), .int (gg 4), .int (gg 5), .int (gg 6), .int (gg 7), .int (gg 8), .int (gg 9), .ref (b 11), .ref (b 12), .ref (b 13), .int (nI (jN 9)), .int (nI (jN 10)), .ref (b 16), .ref (b 17), .ref (b 18), .ref (b 19), .ref (b 20), .ref (b 21), .ref (b 22), .ref (b 23), .ref (b 24), .int (nI (jN 11)), .ref (b 26), .ref (b 27), .ref (b 28), .ref (b 29), .ref (b 30), .ref (b 31), .ref (b 32), .int (gg 32), .int (nI (jN 12)), .ref (b 35), .ref (b 36), .ref (b 37), .ref (b 38), .ref (b 39), .ref (b 40), .int (gg 40), .ref (b 42), .ref (b 43), .ref (b 44), .int (gg 44), .ref (b 46), .ref (b 47), .int (gg 47), .ref (b 49)])), (b 16, .inl (cI, 8, .inl (jF 28))), (b 17, .inl (cZ, 8, .inl (jF 29))), (b 18, .inl (cI, 8, .inl (jF 30))), (b 19, .inl (cI, 8, .inl (jF 31))), (b 20, .inl (cI, 8, .inl (jF 32))), (b 21, .inl (cI, 8, .inl (jF 33))), (b 22, .inl (cI, 8, .inl (jF 34))), (b 23, .inl (cI, 8, .inl (jF 35))), (b 26, .inl (cI, 12, .inl (jF 37))), (b 31, .inl (cI, 12, .inl (jF 42))), (b 32, .inl (cI, 12, .inl (jF 43))), (b 35, .inl (cI, 300, .inl (jF 44))), (b 36, .inl (cI, 300, .inl (jF 45))), (b 37, .inl (cI, 300, .inl (jF 46))), (b 38, .inl (cI, 300, .inl (jF 47)))]) hP hD [32, 37, 38, 39, 40, 41, 42, 43, 44, 46, 51, 52, 53, 54, 55, 56] (by decide) rfl
  have hKc := hK.sub (tys' := [(cI, .int), (cZ, .boolean)]) [2, 4] rfl
  have hFc := zz_free0 hS hA
  refine va_calli (va_runV (As := [.int (xs (Int32.toNatClampNeg (nI ((6 * k) + 1)))), .int (xs (Int32.toNatClampNeg (nI ((6 * k) + 2))))]) (rest := []) ⟨hx, hb, hml, hown, hw⟩ (mx_houseOf l dC dI b gg (jN 8) (jN 9) (jN 10) (jN 11) (jN 12) cI cZ (jF 28) (jF 29) (jF 30) (jF 31) (jF 32) (jF 33) (jF 34) (jF 35) (jF 37) (jF 42) (jF 43) (jF 44) (jF 45) (jF 46) (jF 47) (xs (Int32.toNatClampNeg (nI ((6 * k) + 1)))) (xs (Int32.toNatClampNeg (nI ((6 * k) + 2)))) H.size (by omega) (by omega) (by omega)) ⟨callB_of 2 hw (zz_good tw_606) rfl rfl rfl (hw _ tw_184) (hw _ tw_607) (by decide +kernel) ⟨Nat.le_of_ble_eq_true rfl, Nat.le_of_ble_eq_true rfl⟩, (hw _ tw_608), (hw _ tw_609)⟩ ⟨zz_blind, va_recv hKc hPc (ci := 8) (q0 := 0) rfl rfl, zz_pre hPc hKc hDc hN⟩ rfl rfl hl.1 rfl (lv_room (Nat.le_of_ble_eq_true rfl)) dL_law_584 ⟨Nat.le_of_ble_eq_true rfl, Nat.le_of_ble_eq_true rfl⟩) hS (fun q _ h => hFc q h) hFc (fun r_2 u_2 t H1 locs ht hvm e_2 hB hz1 hk1 hS => ?_)
  try dsimp only at e_2
  have hP := zz_keep hP hk1
  clear hk1 hB ht hvm
  generalize H1 = H at hP hS ⊢
  refine lv_pop hx hb dL_law_587 rfl ?_
  refine lv_goto (tgt := 818) hx hb dL_law_588 (by decide) ?_
  refine lv_iinc (v := (nI ((6 * k) + 6))) (lv' := [(3, .int (nI ((6 * k) + 6))), (2, .ref (b 0)), (1, .ref (a 0)), (0, .ref sb)]) hx hb dL_law_818 hl (k := 0) rfl (nI_add _ 6) (by decide) rfl (fun ls hl => ?_)
  refine lv_goto (tgt := 18) hx hb dL_law_821 (by decide) ?_
  have hP9 := hP
  have hD9 := hD
  exact ih _ _ _ ⟨(fun j => ([(jN 0), (jN 1), (jN 2), (jN 3), (jN 4), (jN 5), (jN 6), (jN 7), (jN 8), (jN 9), (jN 10), (jN 11), (jN 12)] : List Nat).getD j 0), (fun j => ([(jX 0), (jX 1), (jX 2), (jX 3), (jX 4), (jX 5), (jX 6), (jX 7), (jX 8)] : List Int32).getD j 0), (fun j => ([(jF 0), (jF 1), (jF 2), (jF 3), (jF 4), (jF 5), (jF 6), (jF 7), (jF 8), (jF 9), (jF 10), (jF 11), (jF 12), (jF 13), (jF 14), (jF 15), (jF 16), (jF 17), (jF 18), (jF 19), (jF 20), (jF 21), (jF 22), (jF 23), (jF 24), (jF 25), (jF 26), (jF 27), (jF 28), (jF 29), (jF 30), (jF 31), (jF 32), (jF 33), (jF 34), (jF 35), (jF 36), (jF 37), (jF 38), (jF 39), (jF 40), (jF 41), (jF 42), (jF 43), (jF 44), (jF 45), (jF 46), (jF 47), (jF 48), (jF 49), (jF 50), (jF 51), (jF 52), (jF 53), (jF 54), (jF 55)] : List (Nat → Int32)).getD j (fun _ => 0)), V, gg, ⟨(show (jN 0) ≤ 8 from by omega), (show (jN 1) ≤ 12 from by omega), (show (jN 2) ≤ 400 from by omega), (show (jN 3) ≤ 200 from by omega), (show (jN 4) ≤ 300 from by omega), (show (jN 5) ≤ 8 from by omega), (show (jN 6) ≤ 7 from by omega), (show (jN 7) ≤ 7 from by omega), hbn, (show (jN 8) ≤ 200 from by omega), (show (jN 9) ≤ 400 from by omega), (show (jN 10) ≤ 8 from by omega), (show (jN 11) ≤ 12 from by omega), (show (jN 12) ≤ 300 from by omega), hro, hrk, hrn, hrr, hrv, hdn, hrd, hrc, (show zz_rg (jF 47) (jN 12) 0 (5940 * ((k + 1 : Nat) : Int)) from (zz_rg_wk hru (by omega))), hcm, hpk, (show (jN 0) = (jN 10) from by omega), (show (jN 1) = (jN 11) from by omega), (show (jN 2) = (jN 9) from by omega), (show (jN 3) = (jN 8) from by omega), hby, hcu0, hcu1, htc, (show (jN 4) = (jN 12) from by omega), heo, hec, hes, heu, hel, hhi, hR, hil, huq, hoc, hdq, hlr, hpc, hpq⟩, hP9, hD9⟩ hS (lv_sub hl [0, 1, 2, 3] rfl)
set_option maxHeartbeats 4000000 in
set_option maxRecDepth 100000 in
theorem lc_fieldOf {p : Program} {e : Env} {s : State} {m : MethodId} {below : List Frame} {meth : Method} {c : Code} (l : Launch) {sb SL : Nat} {xs : Nat → Int32} {dC : Nat → ClassId} {dI : Nat → Nat → Nat} {b0 b1 b2 : Nat} {adK adV : Nat → Nat} (a : Nat → Nat) (b : Nat → Nat) (cH : ClassId) (cF : ClassId) (cI : ClassId) (cB : ClassId) (cZ : ClassId) (fH : Nat → Option Nat) (fF : Nat → Option Nat) (L : List Nat) (K : Nat → Nat) (C0 : lw_At p s m meth c sb SL xs) (hN : zz_N s) (hU : zz_G b0 b1 b2 adK adV (fun q : Nat => s.heap.size ≤ q) s) (hfH : ∀ k, k < 8 → fH k = some (a (2 + k))) (hfF : ∀ k, k < 12 → fF k = some (a (11 + k))) (hH : ∀ k, k < 8 → a (2 + k) ∈ L ∧ K (a (2 + k)) = 4) (hF : ∀ k, k < 12 → a (11 + k) ∈ L ∧ K (a (11 + k)) = 3) (hK : va_K (dC, dI) vwCl [(cH, .object RX4), (cF, .object RX3), (cI, .int), (cB, .byte), (cZ, .boolean)] s) (hdj : zz_dj a) {k : Nat} (hk : 6 * k + 6 ≤ SL) (hL : SL ≤ 3072) (ih : ∀ (H : Heap) (locs : List Loc) (ls : Array Slot), zz_J (dC, dI) (fun q : Nat => s.heap.size ≤ q) a b cH cF cI cB cZ fH fF L K (k + 1) H → va_S (fun q : Nat => s.heap.size ≤ q) s.heap H locs → lv_has ls 4 [(3, .int (nI (6 * k + 6))), (2, .ref (b 0)), (1, .ref (a 0)), (0, .ref sb)] → W p l e room_1 s m #[Value.ref sb] below meth c H locs 85 4448 (lw_Z below #[Value.ref sb] s) (F0 m 18 ls [])) {H : Heap} {locs : List Loc} {ls : Array Slot} (hJ : zz_J (dC, dI) (fun q : Nat => s.heap.size ≤ q) a b cH cF cI cB cZ fH fF L K k H) (hS : va_S (fun q : Nat => s.heap.size ≤ q) s.heap H locs) (hl : lv_has ls 4 [(3, .int (nI (6 * k))), (2, .ref (b 0)), (1, .ref (a 0)), (0, .ref sb)]) : W p l e room_1 s m #[Value.ref sb] below meth c H locs 85 4448 (lw_Z below #[Value.ref sb] s) (F0 m 591 ls []) := by
  obtain ⟨hx, hb, hr, hml, hown, hts, hX, hbl, hlocks, hgv⟩ := id C0
  have hw : ∀ w ∈ zz_all, w.before #[Value.ref sb] s = true := fun w h => hts w (zz_in_tbl h)
  have hown : s.vm.findClass RL = some m.cls := hown
  have hA : ∀ q : Nat, s.heap.size ≤ q → (fun q : Nat => s.heap.size ≤ q) q := fun _ h => h
  have hbA : ¬ (fun q : Nat => s.heap.size ≤ q) sb := Nat.not_le.mpr hbl
  obtain ⟨jN, jX, jF, V, gg, ⟨hc8, hf12, hnc, hnt, hnd, hne, hnp, hcc, hbn, hmt, hmc, hmh, hmf, hmd, hro, hrk, hrn, hrr, hrv, hdn, hrd, hrc, hru, hcm, hpk, hag1, hag2, hag3, hag4, hby, hcu0, hcu1, htc, hed, heo, hec, hes, heu, hel, hhi, hR, hil, huq, hoc, hdq, hlr, hpc, hpq⟩, hP, hD⟩ := hJ
  refine lv_aload_n hx hb dL_law_591 rfl (lv_at hl 2 rfl) ?_
  refine lv_aload_n hx hb dL_law_592 rfl (lv_at hl 3 rfl) ?_
  refine lv_iload_n hx hb dL_law_593 rfl (lv_at hl 0 rfl) ?_
  refine lv_iconst (v := 1) hx hb dL_law_594 (by decide) ?_
  refine lv_iadd hx hb dL_law_595 ?_
  refine zz_seti (nI ((6 * k) + 1)) (nI_1 _) ?_
  refine va_sld hx hb hX hbl hbA hS (vp_in_iff.mpr (by rw [zz_toInt ((6 * k) + 1) (by omega)]; constructor <;> omega)) dL_law_596 ?_
  refine lv_aload_n hx hb dL_law_597 rfl (lv_at hl 3 rfl) ?_
  refine lv_iload_n hx hb dL_law_598 rfl (lv_at hl 0 rfl) ?_
  refine lv_iconst (v := 2) hx hb dL_law_599 (by decide) ?_
  refine lv_iadd hx hb dL_law_600 ?_
  refine zz_seti (nI ((6 * k) + 2)) (nI_add _ 2) ?_
  refine va_sld hx hb hX hbl hbA hS (vp_in_iff.mpr (by rw [zz_toInt ((6 * k) + 2) (by omega)]; constructor <;> omega)) dL_law_601 ?_
  obtain ⟨hPc, hDc⟩ := zz_part2 (cx := [(a 0, .inr (7, [.ref (a 1), .ref (a 10), .ref (a 23), .ref (a 24), .ref (a 26), .ref (a 29), .ref (a 34), .ref (a 43), .int (nI (jN 0)), .int (nI (jN 1)), .int (nI (jN 2)), .int (jX 0)])), (a 10, .inl (cF, 12, .inr (.inr (.inr (.inr fF)))))]) hP hD [0, 2] (by decide) rfl
  have hKc := hK.sub (tys' := [(cF, .object RX3)]) [1] rfl
  have hFc := zz_free0 hS hA
  refine va_calli (va_runV (As := [.int (xs (Int32.toNatClampNeg (nI ((6 * k) + 1)))), .int (xs (Int32.toNatClampNeg (nI ((6 * k) + 2))))]) (rest := []) ⟨hx, hb, hml, hown, hw⟩ (kx_fieldOf l dC dI a (jN 0) (jN 1) (nI (jN 2)) (jX 0) cF fF V (jF 28) (jF 29) (jF 30) (jF 31) (jF 32) (jF 33) (jF 34) (jF 35) (zz_prn (jF 37) (jF 42) (jF 43) (jN 11)) (jF 37) (jF 38) (jF 39) (jF 40) (jF 41) (zz_dfn (jF 42) (jN 11)) (zz_pfn (jF 42) (jF 43) (jN 11)) (xs (Int32.toNatClampNeg (nI ((6 * k) + 1)))) (xs (Int32.toNatClampNeg (nI ((6 * k) + 2)))) L K H.size (by omega) (by omega) hfF hF hR) ⟨callB_of 2 hw (zz_good tw_610) rfl rfl rfl (hw _ tw_2) (hw _ tw_611) (by decide +kernel) ⟨Nat.le_of_ble_eq_true rfl, Nat.le_of_ble_eq_true rfl⟩, (hw _ tw_612), (hw _ tw_613)⟩ ⟨zz_blind, va_recv hKc hPc (ci := 7) (q0 := 0) rfl rfl, zz_pre hPc hKc hDc hN⟩ rfl rfl hl.1 rfl (lv_room (Nat.le_of_ble_eq_true rfl)) dL_law_602 ⟨Nat.le_of_ble_eq_true rfl, Nat.le_of_ble_eq_true rfl⟩) hS (fun q _ h => hFc q h) hFc (fun r_1 u_1 t H1 locs ht hvm e_1 hB hz1 hk1 hS => ?_)
  try dsimp only at e_1
  have hP := zz_keep hP hk1
  clear hk1 hB ht hvm
  generalize H1 = H at hP hS ⊢
  refine lv_pop hx hb dL_law_605 rfl ?_
  refine lv_aload_n hx hb dL_law_606 rfl (lv_at hl 1 rfl) ?_
  refine lv_aload_n hx hb dL_law_607 rfl (lv_at hl 3 rfl) ?_
  refine lv_iload_n hx hb dL_law_608 rfl (lv_at hl 0 rfl) ?_
  refine lv_iconst (v := 1) hx hb dL_law_609 (by decide) ?_
  refine lv_iadd hx hb dL_law_610 ?_
  refine zz_seti (nI ((6 * k) + 1)) (nI_1 _) ?_
  refine va_sld hx hb hX hbl hbA hS (vp_in_iff.mpr (by rw [zz_toInt ((6 * k) + 1) (by omega)]; constructor <;> omega)) dL_law_611 ?_
  refine lv_aload_n hx hb dL_law_612 rfl (lv_at hl 3 rfl) ?_
  refine lv_iload_n hx hb dL_law_613 rfl (lv_at hl 0 rfl) ?_
  refine lv_iconst (v := 2) hx hb dL_law_614 (by decide) ?_
  refine lv_iadd hx hb dL_law_615 ?_
  refine zz_seti (nI ((6 * k) + 2)) (nI_add _ 2) ?_
  refine va_sld hx hb hX hbl hbA hS (vp_in_iff.mpr (by rw [zz_toInt ((6 * k) + 2) (by omega)]; constructor <;> omega)) dL_law_616 ?_
  obtain ⟨hPc, hDc⟩ := zz_sub2 (ws' := [(b 0, .inr (8, [.ref (b 1), .int (nI (jN 8)), .int (gg 2), .int (gg 3), .int (gg 4), .int (gg 5), .int (gg 6), .int (gg 7), .int (gg 8), .int (gg 9), .ref (b 11), .ref (b 12), .ref (b 13), .int (nI (jN 9)), .int (nI (jN 10)), .ref (b 16), .ref (b 17), .ref (b 18), .ref (b 19), .ref (b 20), .ref (b 21), .ref (b 22), .ref (b 23), .ref (b 24), .int (nI (jN 11)), .ref (b 26), .ref (b 27), .ref (b 28), .ref (b 29), .ref (b 30), .ref (b 31), .ref (b 32), .int (gg 32), .int (nI (jN 12)), .ref (b 35), .ref (b 36), .ref (b 37), .ref (b 38), .ref (b 39), .ref (b 40), .int (gg 40), .ref (b 42), .ref (b 43), .ref (b 44), .int (gg 44), .ref (b 46), .ref (b 47), .int (gg 47), .ref (b 49)])), (b 26, .inl (cI, 12, .inl (jF 37))), (b 27, .inl (cI, 12, .inl (jF 38))), (b 28, .inl (cI, 12, .inl (jF 39))), (b 29, .inl (cI, 12, .inl (jF 40))), (b 30, .inl (cI, 12, .inl (jF 41))), (b 31, .inl (cI, 12, .inl (jF 42))), (b 32, .inl (cI, 12, .inl (jF 43)))]) hP hD [32, 46, 47, 48, 49, 50, 51, 52] (by decide) rfl
  have hKc := hK.sub (tys' := [(cI, .int)]) [2] rfl
  have hFc := zz_free0 hS hA
  refine va_calli (va_runV (As := [.int (xs (Int32.toNatClampNeg (nI ((6 * k) + 1)))), .int (xs (Int32.toNatClampNeg (nI ((6 * k) + 2))))]) (rest := []) ⟨hx, hb, hml, hown, hw⟩ (mx_fieldOf l dC dI b gg (jN 8) (jN 9) (jN 10) (jN 11) (jN 12) cI (jF 37) (jF 38) (jF 39) (jF 40) (jF 41) (jF 42) (jF 43) (xs (Int32.toNatClampNeg (nI ((6 * k) + 1)))) (xs (Int32.toNatClampNeg (nI ((6 * k) + 2)))) H.size (by omega)) ⟨callB_of 2 hw (zz_good tw_614) rfl rfl rfl (hw _ tw_184) (hw _ tw_615) (by decide +kernel) ⟨Nat.le_of_ble_eq_true rfl, Nat.le_of_ble_eq_true rfl⟩, (hw _ tw_616), (hw _ tw_617)⟩ ⟨zz_blind, va_recv hKc hPc (ci := 8) (q0 := 0) rfl rfl, zz_pre hPc hKc hDc hN⟩ rfl rfl hl.1 rfl (lv_room (Nat.le_of_ble_eq_true rfl)) dL_law_617 ⟨Nat.le_of_ble_eq_true rfl, Nat.le_of_ble_eq_true rfl⟩) hS (fun q _ h => hFc q h) hFc (fun r_2 u_2 t H1 locs ht hvm e_2 hB hz1 hk1 hS => ?_)
  try dsimp only at e_2
  have hP := zz_keep hP hk1
  clear hk1 hB ht hvm
  generalize H1 = H at hP hS ⊢
  refine lv_pop hx hb dL_law_620 rfl ?_
  refine lv_goto (tgt := 818) hx hb dL_law_621 (by decide) ?_
  refine lv_iinc (v := (nI ((6 * k) + 6))) (lv' := [(3, .int (nI ((6 * k) + 6))), (2, .ref (b 0)), (1, .ref (a 0)), (0, .ref sb)]) hx hb dL_law_818 hl (k := 0) rfl (nI_add _ 6) (by decide) rfl (fun ls hl => ?_)
  refine lv_goto (tgt := 18) hx hb dL_law_821 (by decide) ?_
  have hP9 := hP
  have hD9 := hD
  exact ih _ _ _ ⟨(fun j => ([(jN 0), (jN 1), (jN 2), (jN 3), (jN 4), (jN 5), (jN 6), (jN 7), (jN 8), (jN 9), (jN 10), (jN 11), (jN 12)] : List Nat).getD j 0), (fun j => ([(jX 0), (jX 1), (jX 2), (jX 3), (jX 4), (jX 5), (jX 6), (jX 7), (jX 8)] : List Int32).getD j 0), (fun j => ([(jF 0), (jF 1), (jF 2), (jF 3), (jF 4), (jF 5), (jF 6), (jF 7), (jF 8), (jF 9), (jF 10), (jF 11), (jF 12), (jF 13), (jF 14), (jF 15), (jF 16), (jF 17), (jF 18), (jF 19), (jF 20), (jF 21), (jF 22), (jF 23), (jF 24), (jF 25), (jF 26), (jF 27), (jF 28), (jF 29), (jF 30), (jF 31), (jF 32), (jF 33), (jF 34), (jF 35), (jF 36), (jF 37), (jF 38), (jF 39), (jF 40), (jF 41), (jF 42), (jF 43), (jF 44), (jF 45), (jF 46), (jF 47), (jF 48), (jF 49), (jF 50), (jF 51), (jF 52), (jF 53), (jF 54), (jF 55)] : List (Nat → Int32)).getD j (fun _ => 0)), V, gg, ⟨(show (jN 0) ≤ 8 from by omega), (show (jN 1) ≤ 12 from by omega), (show (jN 2) ≤ 400 from by omega), (show (jN 3) ≤ 200 from by omega), (show (jN 4) ≤ 300 from by omega), (show (jN 5) ≤ 8 from by omega), (show (jN 6) ≤ 7 from by omega), (show (jN 7) ≤ 7 from by omega), hbn, (show (jN 8) ≤ 200 from by omega), (show (jN 9) ≤ 400 from by omega), (show (jN 10) ≤ 8 from by omega), (show (jN 11) ≤ 12 from by omega), (show (jN 12) ≤ 300 from by omega), hro, hrk, hrn, hrr, hrv, hdn, hrd, hrc, (show zz_rg (jF 47) (jN 12) 0 (5940 * ((k + 1 : Nat) : Int)) from (zz_rg_wk hru (by omega))), hcm, hpk, (show (jN 0) = (jN 10) from by omega), (show (jN 1) = (jN 11) from by omega), (show (jN 2) = (jN 9) from by omega), (show (jN 3) = (jN 8) from by omega), hby, hcu0, hcu1, htc, (show (jN 4) = (jN 12) from by omega), heo, hec, hes, heu, hel, hhi, hR, hil, huq, hoc, hdq, hlr, hpc, hpq⟩, hP9, hD9⟩ hS (lv_sub hl [0, 1, 2, 3] rfl)
set_option maxHeartbeats 4000000 in
set_option maxRecDepth 100000 in
theorem lc_owes {p : Program} {e : Env} {s : State} {m : MethodId} {below : List Frame} {meth : Method} {c : Code} (l : Launch) {sb SL : Nat} {xs : Nat → Int32} {dC : Nat → ClassId} {dI : Nat → Nat → Nat} {b0 b1 b2 : Nat} {adK adV : Nat → Nat} (a : Nat → Nat) (b : Nat → Nat) (cH : ClassId) (cF : ClassId) (cI : ClassId) (cB : ClassId) (cZ : ClassId) (fH : Nat → Option Nat) (fF : Nat → Option Nat) (L : List Nat) (K : Nat → Nat) (C0 : lw_At p s m meth c sb SL xs) (hN : zz_N s) (hU : zz_G b0 b1 b2 adK adV (fun q : Nat => s.heap.size ≤ q) s) (hfH : ∀ k, k < 8 → fH k = some (a (2 + k))) (hfF : ∀ k, k < 12 → fF k = some (a (11 + k))) (hH : ∀ k, k < 8 → a (2 + k) ∈ L ∧ K (a (2 + k)) = 4) (hF : ∀ k, k < 12 → a (11 + k) ∈ L ∧ K (a (11 + k)) = 3) (hK : va_K (dC, dI) vwCl [(cH, .object RX4), (cF, .object RX3), (cI, .int), (cB, .byte), (cZ, .boolean)] s) (hdj : zz_dj a) {k : Nat} (hk : 6 * k + 6 ≤ SL) (hL : SL ≤ 3072) (ih : ∀ (H : Heap) (locs : List Loc) (ls : Array Slot), zz_J (dC, dI) (fun q : Nat => s.heap.size ≤ q) a b cH cF cI cB cZ fH fF L K (k + 1) H → va_S (fun q : Nat => s.heap.size ≤ q) s.heap H locs → lv_has ls 4 [(3, .int (nI (6 * k + 6))), (2, .ref (b 0)), (1, .ref (a 0)), (0, .ref sb)] → W p l e room_1 s m #[Value.ref sb] below meth c H locs 85 4448 (lw_Z below #[Value.ref sb] s) (F0 m 18 ls [])) {H : Heap} {locs : List Loc} {ls : Array Slot} (hJ : zz_J (dC, dI) (fun q : Nat => s.heap.size ≤ q) a b cH cF cI cB cZ fH fF L K k H) (hS : va_S (fun q : Nat => s.heap.size ≤ q) s.heap H locs) (hl : lv_has ls 4 [(3, .int (nI (6 * k))), (2, .ref (b 0)), (1, .ref (a 0)), (0, .ref sb)]) : W p l e room_1 s m #[Value.ref sb] below meth c H locs 85 4448 (lw_Z below #[Value.ref sb] s) (F0 m 624 ls []) := by
  obtain ⟨hx, hb, hr, hml, hown, hts, hX, hbl, hlocks, hgv⟩ := id C0
  have hw : ∀ w ∈ zz_all, w.before #[Value.ref sb] s = true := fun w h => hts w (zz_in_tbl h)
  have hown : s.vm.findClass RL = some m.cls := hown
  have hA : ∀ q : Nat, s.heap.size ≤ q → (fun q : Nat => s.heap.size ≤ q) q := fun _ h => h
  have hbA : ¬ (fun q : Nat => s.heap.size ≤ q) sb := Nat.not_le.mpr hbl
  obtain ⟨jN, jX, jF, V, gg, ⟨hc8, hf12, hnc, hnt, hnd, hne, hnp, hcc, hbn, hmt, hmc, hmh, hmf, hmd, hro, hrk, hrn, hrr, hrv, hdn, hrd, hrc, hru, hcm, hpk, hag1, hag2, hag3, hag4, hby, hcu0, hcu1, htc, hed, heo, hec, hes, heu, hel, hhi, hR, hil, huq, hoc, hdq, hlr, hpc, hpq⟩, hP, hD⟩ := hJ
  refine lv_aload_n hx hb dL_law_624 rfl (lv_at hl 2 rfl) ?_
  refine lv_aload_n hx hb dL_law_625 rfl (lv_at hl 3 rfl) ?_
  refine lv_iload_n hx hb dL_law_626 rfl (lv_at hl 0 rfl) ?_
  refine lv_iconst (v := 1) hx hb dL_law_627 (by decide) ?_
  refine lv_iadd hx hb dL_law_628 ?_
  refine zz_seti (nI ((6 * k) + 1)) (nI_1 _) ?_
  refine va_sld hx hb hX hbl hbA hS (vp_in_iff.mpr (by rw [zz_toInt ((6 * k) + 1) (by omega)]; constructor <;> omega)) dL_law_629 ?_
  refine lv_aload_n hx hb dL_law_630 rfl (lv_at hl 3 rfl) ?_
  refine lv_iload_n hx hb dL_law_631 rfl (lv_at hl 0 rfl) ?_
  refine lv_iconst (v := 2) hx hb dL_law_632 (by decide) ?_
  refine lv_iadd hx hb dL_law_633 ?_
  refine zz_seti (nI ((6 * k) + 2)) (nI_add _ 2) ?_
  refine va_sld hx hb hX hbl hbA hS (vp_in_iff.mpr (by rw [zz_toInt ((6 * k) + 2) (by omega)]; constructor <;> omega)) dL_law_634 ?_
  obtain ⟨hPc, hDc⟩ := zz_sub2 (ws' := [(a 0, .inr (7, [.ref (a 1), .ref (a 10), .ref (a 23), .ref (a 24), .ref (a 26), .ref (a 29), .ref (a 34), .ref (a 43), .int (nI (jN 0)), .int (nI (jN 1)), .int (nI (jN 2)), .int (jX 0)])), (a 1, .inl (cH, 8, .inr (.inr (.inr (.inr fH))))), (a 29, .inr (1, [.ref (a 30), .ref (a 31), .ref (a 32), .ref (a 33), .int (nI (jN 4))])), (a 30, .inl (cI, 300, .inl (jF 4))), (a 31, .inl (cI, 300, .inl (jF 5))), (a 32, .inl (cI, 300, .inl (jF 6))), (a 33, .inl (cI, 300, .inl (jF 7)))]) hP hD [0, 1, 9, 10, 11, 12, 13] (by decide) rfl
  have hKc := hK.sub (tys' := [(cH, .object RX4), (cI, .int)]) [0, 2] rfl
  have hFc := zz_free0 hS hA
  refine va_calli (va_runV (As := [.int (xs (Int32.toNatClampNeg (nI ((6 * k) + 1)))), .int (xs (Int32.toNatClampNeg (nI ((6 * k) + 2))))]) (rest := []) ⟨hx, hb, hml, hown, hw⟩ (kx_owes l dC dI a (jN 0) (jN 1) (nI (jN 2)) (jX 0) cH fH cI (jN 4) (jF 4) (jF 5) (jF 6) (jF 7) (xs (Int32.toNatClampNeg (nI ((6 * k) + 1)))) (xs (Int32.toNatClampNeg (nI ((6 * k) + 2)))) H.size (by omega) (by omega) hfH (by omega)) ⟨callB_of 2 hw (zz_good tw_618) rfl rfl rfl (hw _ tw_2) (hw _ tw_619) (by decide +kernel) ⟨Nat.le_of_ble_eq_true rfl, Nat.le_of_ble_eq_true rfl⟩, (hw _ tw_620), (hw _ tw_621)⟩ ⟨zz_blind, va_recv hKc hPc (ci := 7) (q0 := 0) rfl rfl, zz_pre hPc hKc hDc hN⟩ rfl rfl hl.1 rfl (lv_room (Nat.le_of_ble_eq_true rfl)) dL_law_635 ⟨Nat.le_of_ble_eq_true rfl, Nat.le_of_ble_eq_true rfl⟩) hS (fun q _ h => hFc q h) hFc (fun r_1 u_1 t H1 locs ht hvm e_1 hB hz1 hk1 hS => ?_)
  try dsimp only at e_1
  have hP := zz_keep hP hk1
  clear hk1 hB ht hvm
  generalize H1 = H at hP hS ⊢
  refine lv_pop hx hb dL_law_638 rfl ?_
  refine lv_aload_n hx hb dL_law_639 rfl (lv_at hl 1 rfl) ?_
  refine lv_aload_n hx hb dL_law_640 rfl (lv_at hl 3 rfl) ?_
  refine lv_iload_n hx hb dL_law_641 rfl (lv_at hl 0 rfl) ?_
  refine lv_iconst (v := 1) hx hb dL_law_642 (by decide) ?_
  refine lv_iadd hx hb dL_law_643 ?_
  refine zz_seti (nI ((6 * k) + 1)) (nI_1 _) ?_
  refine va_sld hx hb hX hbl hbA hS (vp_in_iff.mpr (by rw [zz_toInt ((6 * k) + 1) (by omega)]; constructor <;> omega)) dL_law_644 ?_
  refine lv_aload_n hx hb dL_law_645 rfl (lv_at hl 3 rfl) ?_
  refine lv_iload_n hx hb dL_law_646 rfl (lv_at hl 0 rfl) ?_
  refine lv_iconst (v := 2) hx hb dL_law_647 (by decide) ?_
  refine lv_iadd hx hb dL_law_648 ?_
  refine zz_seti (nI ((6 * k) + 2)) (nI_add _ 2) ?_
  refine va_sld hx hb hX hbl hbA hS (vp_in_iff.mpr (by rw [zz_toInt ((6 * k) + 2) (by omega)]; constructor <;> omega)) dL_law_649 ?_
  obtain ⟨hPc, hDc⟩ := zz_sub2 (ws' := [(b 0, .inr (8, [.ref (b 1), .int (nI (jN 8)), .int (gg 2), .int (gg 3), .int (gg 4), .int (gg 5), .int (gg 6), .int (gg 7), .int (gg 8), .int (gg 9), .ref (b 11), .ref (b 12), .ref (b 13), .int (nI (jN 9)), .int (nI (jN 10)), .ref (b 16), .ref (b 17), .ref (b 18), .ref (b 19), .ref (b 20), .ref (b 21), .ref (b 22), .ref (b 23), .ref (b 24), .int (nI (jN 11)), .ref (b 26), .ref (b 27), .ref (b 28), .ref (b 29), .ref (b 30), .ref (b 31), .ref (b 32), .int (gg 32), .int (nI (jN 12)), .ref (b 35), .ref (b 36), .ref (b 37), .ref (b 38), .ref (b 39), .ref (b 40), .int (gg 40), .ref (b 42), .ref (b 43), .ref (b 44), .int (gg 44), .ref (b 46), .ref (b 47), .int (gg 47), .ref (b 49)])), (b 35, .inl (cI, 300, .inl (jF 44))), (b 36, .inl (cI, 300, .inl (jF 45))), (b 37, .inl (cI, 300, .inl (jF 46))), (b 38, .inl (cI, 300, .inl (jF 47)))]) hP hD [32, 53, 54, 55, 56] (by decide) rfl
  have hKc := hK.sub (tys' := [(cI, .int)]) [2] rfl
  have hFc := zz_free0 hS hA
  refine va_calli (va_runV (As := [.int (xs (Int32.toNatClampNeg (nI ((6 * k) + 1)))), .int (xs (Int32.toNatClampNeg (nI ((6 * k) + 2))))]) (rest := []) ⟨hx, hb, hml, hown, hw⟩ (mx_owes l dC dI b gg (jN 8) (jN 9) (jN 10) (jN 11) (jN 12) cI (jF 44) (jF 45) (jF 46) (jF 47) (xs (Int32.toNatClampNeg (nI ((6 * k) + 1)))) (xs (Int32.toNatClampNeg (nI ((6 * k) + 2)))) H.size (by omega) (by omega)) ⟨callB_of 2 hw (zz_good tw_622) rfl rfl rfl (hw _ tw_184) (hw _ tw_623) (by decide +kernel) ⟨Nat.le_of_ble_eq_true rfl, Nat.le_of_ble_eq_true rfl⟩, (hw _ tw_624), (hw _ tw_625)⟩ ⟨zz_blind, va_recv hKc hPc (ci := 8) (q0 := 0) rfl rfl, zz_pre hPc hKc hDc hN⟩ rfl rfl hl.1 rfl (lv_room (Nat.le_of_ble_eq_true rfl)) dL_law_650 ⟨Nat.le_of_ble_eq_true rfl, Nat.le_of_ble_eq_true rfl⟩) hS (fun q _ h => hFc q h) hFc (fun r_2 u_2 t H1 locs ht hvm e_2 hB hz1 hk1 hS => ?_)
  try dsimp only at e_2
  have hP := zz_keep hP hk1
  clear hk1 hB ht hvm
  generalize H1 = H at hP hS ⊢
  refine lv_pop hx hb dL_law_653 rfl ?_
  refine lv_goto (tgt := 818) hx hb dL_law_654 (by decide) ?_
  refine lv_iinc (v := (nI ((6 * k) + 6))) (lv' := [(3, .int (nI ((6 * k) + 6))), (2, .ref (b 0)), (1, .ref (a 0)), (0, .ref sb)]) hx hb dL_law_818 hl (k := 0) rfl (nI_add _ 6) (by decide) rfl (fun ls hl => ?_)
  refine lv_goto (tgt := 18) hx hb dL_law_821 (by decide) ?_
  have hP9 := hP
  have hD9 := hD
  exact ih _ _ _ ⟨(fun j => ([(jN 0), (jN 1), (jN 2), (jN 3), (jN 4), (jN 5), (jN 6), (jN 7), (jN 8), (jN 9), (jN 10), (jN 11), (jN 12)] : List Nat).getD j 0), (fun j => ([(jX 0), (jX 1), (jX 2), (jX 3), (jX 4), (jX 5), (jX 6), (jX 7), (jX 8)] : List Int32).getD j 0), (fun j => ([(jF 0), (jF 1), (jF 2), (jF 3), (jF 4), (jF 5), (jF 6), (jF 7), (jF 8), (jF 9), (jF 10), (jF 11), (jF 12), (jF 13), (jF 14), (jF 15), (jF 16), (jF 17), (jF 18), (jF 19), (jF 20), (jF 21), (jF 22), (jF 23), (jF 24), (jF 25), (jF 26), (jF 27), (jF 28), (jF 29), (jF 30), (jF 31), (jF 32), (jF 33), (jF 34), (jF 35), (jF 36), (jF 37), (jF 38), (jF 39), (jF 40), (jF 41), (jF 42), (jF 43), (jF 44), (jF 45), (jF 46), (jF 47), (jF 48), (jF 49), (jF 50), (jF 51), (jF 52), (jF 53), (jF 54), (jF 55)] : List (Nat → Int32)).getD j (fun _ => 0)), V, gg, ⟨(show (jN 0) ≤ 8 from by omega), (show (jN 1) ≤ 12 from by omega), (show (jN 2) ≤ 400 from by omega), (show (jN 3) ≤ 200 from by omega), (show (jN 4) ≤ 300 from by omega), (show (jN 5) ≤ 8 from by omega), (show (jN 6) ≤ 7 from by omega), (show (jN 7) ≤ 7 from by omega), hbn, (show (jN 8) ≤ 200 from by omega), (show (jN 9) ≤ 400 from by omega), (show (jN 10) ≤ 8 from by omega), (show (jN 11) ≤ 12 from by omega), (show (jN 12) ≤ 300 from by omega), hro, hrk, hrn, hrr, hrv, hdn, hrd, hrc, (show zz_rg (jF 47) (jN 12) 0 (5940 * ((k + 1 : Nat) : Int)) from (zz_rg_wk hru (by omega))), hcm, hpk, (show (jN 0) = (jN 10) from by omega), (show (jN 1) = (jN 11) from by omega), (show (jN 2) = (jN 9) from by omega), (show (jN 3) = (jN 8) from by omega), hby, hcu0, hcu1, htc, (show (jN 4) = (jN 12) from by omega), heo, hec, hes, heu, hel, hhi, hR, hil, huq, hoc, hdq, hlr, hpc, hpq⟩, hP9, hD9⟩ hS (lv_sub hl [0, 1, 2, 3] rfl)
set_option maxHeartbeats 4000000 in
set_option maxRecDepth 100000 in
theorem lc_oldest {p : Program} {e : Env} {s : State} {m : MethodId} {below : List Frame} {meth : Method} {c : Code} (l : Launch) {sb SL : Nat} {xs : Nat → Int32} {dC : Nat → ClassId} {dI : Nat → Nat → Nat} {b0 b1 b2 : Nat} {adK adV : Nat → Nat} (a : Nat → Nat) (b : Nat → Nat) (cH : ClassId) (cF : ClassId) (cI : ClassId) (cB : ClassId) (cZ : ClassId) (fH : Nat → Option Nat) (fF : Nat → Option Nat) (L : List Nat) (K : Nat → Nat) (C0 : lw_At p s m meth c sb SL xs) (hN : zz_N s) (hU : zz_G b0 b1 b2 adK adV (fun q : Nat => s.heap.size ≤ q) s) (hfH : ∀ k, k < 8 → fH k = some (a (2 + k))) (hfF : ∀ k, k < 12 → fF k = some (a (11 + k))) (hH : ∀ k, k < 8 → a (2 + k) ∈ L ∧ K (a (2 + k)) = 4) (hF : ∀ k, k < 12 → a (11 + k) ∈ L ∧ K (a (11 + k)) = 3) (hK : va_K (dC, dI) vwCl [(cH, .object RX4), (cF, .object RX3), (cI, .int), (cB, .byte), (cZ, .boolean)] s) (hdj : zz_dj a) {k : Nat} (hk : 6 * k + 6 ≤ SL) (hL : SL ≤ 3072) (ih : ∀ (H : Heap) (locs : List Loc) (ls : Array Slot), zz_J (dC, dI) (fun q : Nat => s.heap.size ≤ q) a b cH cF cI cB cZ fH fF L K (k + 1) H → va_S (fun q : Nat => s.heap.size ≤ q) s.heap H locs → lv_has ls 4 [(3, .int (nI (6 * k + 6))), (2, .ref (b 0)), (1, .ref (a 0)), (0, .ref sb)] → W p l e room_1 s m #[Value.ref sb] below meth c H locs 85 4448 (lw_Z below #[Value.ref sb] s) (F0 m 18 ls [])) {H : Heap} {locs : List Loc} {ls : Array Slot} (hJ : zz_J (dC, dI) (fun q : Nat => s.heap.size ≤ q) a b cH cF cI cB cZ fH fF L K k H) (hS : va_S (fun q : Nat => s.heap.size ≤ q) s.heap H locs) (hl : lv_has ls 4 [(3, .int (nI (6 * k))), (2, .ref (b 0)), (1, .ref (a 0)), (0, .ref sb)]) : W p l e room_1 s m #[Value.ref sb] below meth c H locs 85 4448 (lw_Z below #[Value.ref sb] s) (F0 m 657 ls []) := by
  obtain ⟨hx, hb, hr, hml, hown, hts, hX, hbl, hlocks, hgv⟩ := id C0
  have hw : ∀ w ∈ zz_all, w.before #[Value.ref sb] s = true := fun w h => hts w (zz_in_tbl h)
  have hown : s.vm.findClass RL = some m.cls := hown
  have hA : ∀ q : Nat, s.heap.size ≤ q → (fun q : Nat => s.heap.size ≤ q) q := fun _ h => h
  have hbA : ¬ (fun q : Nat => s.heap.size ≤ q) sb := Nat.not_le.mpr hbl
  obtain ⟨jN, jX, jF, V, gg, ⟨hc8, hf12, hnc, hnt, hnd, hne, hnp, hcc, hbn, hmt, hmc, hmh, hmf, hmd, hro, hrk, hrn, hrr, hrv, hdn, hrd, hrc, hru, hcm, hpk, hag1, hag2, hag3, hag4, hby, hcu0, hcu1, htc, hed, heo, hec, hes, heu, hel, hhi, hR, hil, huq, hoc, hdq, hlr, hpc, hpq⟩, hP, hD⟩ := hJ
  refine lv_aload_n hx hb dL_law_657 rfl (lv_at hl 2 rfl) ?_
  refine lv_aload_n hx hb dL_law_658 rfl (lv_at hl 3 rfl) ?_
  refine lv_iload_n hx hb dL_law_659 rfl (lv_at hl 0 rfl) ?_
  refine lv_iconst (v := 1) hx hb dL_law_660 (by decide) ?_
  refine lv_iadd hx hb dL_law_661 ?_
  refine zz_seti (nI ((6 * k) + 1)) (nI_1 _) ?_
  refine va_sld hx hb hX hbl hbA hS (vp_in_iff.mpr (by rw [zz_toInt ((6 * k) + 1) (by omega)]; constructor <;> omega)) dL_law_662 ?_
  refine lv_aload_n hx hb dL_law_663 rfl (lv_at hl 3 rfl) ?_
  refine lv_iload_n hx hb dL_law_664 rfl (lv_at hl 0 rfl) ?_
  refine lv_iconst (v := 2) hx hb dL_law_665 (by decide) ?_
  refine lv_iadd hx hb dL_law_666 ?_
  refine zz_seti (nI ((6 * k) + 2)) (nI_add _ 2) ?_
  refine va_sld hx hb hX hbl hbA hS (vp_in_iff.mpr (by rw [zz_toInt ((6 * k) + 2) (by omega)]; constructor <;> omega)) dL_law_667 ?_
  obtain ⟨hPc, hDc⟩ := zz_sub2 (ws' := [(a 0, .inr (7, [.ref (a 1), .ref (a 10), .ref (a 23), .ref (a 24), .ref (a 26), .ref (a 29), .ref (a 34), .ref (a 43), .int (nI (jN 0)), .int (nI (jN 1)), .int (nI (jN 2)), .int (jX 0)])), (a 1, .inl (cH, 8, .inr (.inr (.inr (.inr fH))))), (a 29, .inr (1, [.ref (a 30), .ref (a 31), .ref (a 32), .ref (a 33), .int (nI (jN 4))])), (a 30, .inl (cI, 300, .inl (jF 4))), (a 31, .inl (cI, 300, .inl (jF 5))), (a 32, .inl (cI, 300, .inl (jF 6))), (a 33, .inl (cI, 300, .inl (jF 7)))]) hP hD [0, 1, 9, 10, 11, 12, 13] (by decide) rfl
  have hKc := hK.sub (tys' := [(cH, .object RX4), (cI, .int)]) [0, 2] rfl
  have hFc := zz_free0 hS hA
  refine va_calli (va_runV (As := [.int (xs (Int32.toNatClampNeg (nI ((6 * k) + 1)))), .int (xs (Int32.toNatClampNeg (nI ((6 * k) + 2))))]) (rest := []) ⟨hx, hb, hml, hown, hw⟩ (kx_oldest l dC dI a (jN 0) (jN 1) (nI (jN 2)) (jX 0) cH fH cI (jN 4) (jF 4) (jF 5) (jF 6) (jF 7) (xs (Int32.toNatClampNeg (nI ((6 * k) + 1)))) (xs (Int32.toNatClampNeg (nI ((6 * k) + 2)))) H.size (by omega) (by omega) hfH (by omega)) ⟨callB_of 2 hw (zz_good tw_626) rfl rfl rfl (hw _ tw_2) (hw _ tw_627) (by decide +kernel) ⟨Nat.le_of_ble_eq_true rfl, Nat.le_of_ble_eq_true rfl⟩, (hw _ tw_628), (hw _ tw_629)⟩ ⟨zz_blind, va_recv hKc hPc (ci := 7) (q0 := 0) rfl rfl, zz_pre hPc hKc hDc hN⟩ rfl rfl hl.1 rfl (lv_room (Nat.le_of_ble_eq_true rfl)) dL_law_668 ⟨Nat.le_of_ble_eq_true rfl, Nat.le_of_ble_eq_true rfl⟩) hS (fun q _ h => hFc q h) hFc (fun r_1 u_1 t H1 locs ht hvm e_1 hB hz1 hk1 hS => ?_)
  try dsimp only at e_1
  have hP := zz_keep hP hk1
  clear hk1 hB ht hvm
  generalize H1 = H at hP hS ⊢
  refine lv_pop hx hb dL_law_671 rfl ?_
  refine lv_aload_n hx hb dL_law_672 rfl (lv_at hl 1 rfl) ?_
  refine lv_aload_n hx hb dL_law_673 rfl (lv_at hl 3 rfl) ?_
  refine lv_iload_n hx hb dL_law_674 rfl (lv_at hl 0 rfl) ?_
  refine lv_iconst (v := 1) hx hb dL_law_675 (by decide) ?_
  refine lv_iadd hx hb dL_law_676 ?_
  refine zz_seti (nI ((6 * k) + 1)) (nI_1 _) ?_
  refine va_sld hx hb hX hbl hbA hS (vp_in_iff.mpr (by rw [zz_toInt ((6 * k) + 1) (by omega)]; constructor <;> omega)) dL_law_677 ?_
  refine lv_aload_n hx hb dL_law_678 rfl (lv_at hl 3 rfl) ?_
  refine lv_iload_n hx hb dL_law_679 rfl (lv_at hl 0 rfl) ?_
  refine lv_iconst (v := 2) hx hb dL_law_680 (by decide) ?_
  refine lv_iadd hx hb dL_law_681 ?_
  refine zz_seti (nI ((6 * k) + 2)) (nI_add _ 2) ?_
  refine va_sld hx hb hX hbl hbA hS (vp_in_iff.mpr (by rw [zz_toInt ((6 * k) + 2) (by omega)]; constructor <;> omega)) dL_law_682 ?_
  obtain ⟨hPc, hDc⟩ := zz_sub2 (ws' := [(b 0, .inr (8, [.ref (b 1), .int (nI (jN 8)), .int (gg 2), .int (gg 3), .int (gg 4), .int (gg 5), .int (gg 6), .int (gg 7), .int (gg 8), .int (gg 9), .ref (b 11), .ref (b 12), .ref (b 13), .int (nI (jN 9)), .int (nI (jN 10)), .ref (b 16), .ref (b 17), .ref (b 18), .ref (b 19), .ref (b 20), .ref (b 21), .ref (b 22), .ref (b 23), .ref (b 24), .int (nI (jN 11)), .ref (b 26), .ref (b 27), .ref (b 28), .ref (b 29), .ref (b 30), .ref (b 31), .ref (b 32), .int (gg 32), .int (nI (jN 12)), .ref (b 35), .ref (b 36), .ref (b 37), .ref (b 38), .ref (b 39), .ref (b 40), .int (gg 40), .ref (b 42), .ref (b 43), .ref (b 44), .int (gg 44), .ref (b 46), .ref (b 47), .int (gg 47), .ref (b 49)])), (b 35, .inl (cI, 300, .inl (jF 44))), (b 36, .inl (cI, 300, .inl (jF 45))), (b 37, .inl (cI, 300, .inl (jF 46))), (b 38, .inl (cI, 300, .inl (jF 47)))]) hP hD [32, 53, 54, 55, 56] (by decide) rfl
  have hKc := hK.sub (tys' := [(cI, .int)]) [2] rfl
  have hFc := zz_free0 hS hA
  refine va_calli (va_runV (As := [.int (xs (Int32.toNatClampNeg (nI ((6 * k) + 1)))), .int (xs (Int32.toNatClampNeg (nI ((6 * k) + 2))))]) (rest := []) ⟨hx, hb, hml, hown, hw⟩ (mx_oldest l dC dI b gg (jN 8) (jN 9) (jN 10) (jN 11) (jN 12) cI (jF 44) (jF 45) (jF 46) (jF 47) (xs (Int32.toNatClampNeg (nI ((6 * k) + 1)))) (xs (Int32.toNatClampNeg (nI ((6 * k) + 2)))) H.size (by omega) (by omega)) ⟨callB_of 2 hw (zz_good tw_630) rfl rfl rfl (hw _ tw_184) (hw _ tw_631) (by decide +kernel) ⟨Nat.le_of_ble_eq_true rfl, Nat.le_of_ble_eq_true rfl⟩, (hw _ tw_632), (hw _ tw_633)⟩ ⟨zz_blind, va_recv hKc hPc (ci := 8) (q0 := 0) rfl rfl, zz_pre hPc hKc hDc hN⟩ rfl rfl hl.1 rfl (lv_room (Nat.le_of_ble_eq_true rfl)) dL_law_683 ⟨Nat.le_of_ble_eq_true rfl, Nat.le_of_ble_eq_true rfl⟩) hS (fun q _ h => hFc q h) hFc (fun r_2 u_2 t H1 locs ht hvm e_2 hB hz1 hk1 hS => ?_)
  try dsimp only at e_2
  have hP := zz_keep hP hk1
  clear hk1 hB ht hvm
  generalize H1 = H at hP hS ⊢
  refine lv_pop hx hb dL_law_686 rfl ?_
  refine lv_goto (tgt := 818) hx hb dL_law_687 (by decide) ?_
  refine lv_iinc (v := (nI ((6 * k) + 6))) (lv' := [(3, .int (nI ((6 * k) + 6))), (2, .ref (b 0)), (1, .ref (a 0)), (0, .ref sb)]) hx hb dL_law_818 hl (k := 0) rfl (nI_add _ 6) (by decide) rfl (fun ls hl => ?_)
  refine lv_goto (tgt := 18) hx hb dL_law_821 (by decide) ?_
  have hP9 := hP
  have hD9 := hD
  exact ih _ _ _ ⟨(fun j => ([(jN 0), (jN 1), (jN 2), (jN 3), (jN 4), (jN 5), (jN 6), (jN 7), (jN 8), (jN 9), (jN 10), (jN 11), (jN 12)] : List Nat).getD j 0), (fun j => ([(jX 0), (jX 1), (jX 2), (jX 3), (jX 4), (jX 5), (jX 6), (jX 7), (jX 8)] : List Int32).getD j 0), (fun j => ([(jF 0), (jF 1), (jF 2), (jF 3), (jF 4), (jF 5), (jF 6), (jF 7), (jF 8), (jF 9), (jF 10), (jF 11), (jF 12), (jF 13), (jF 14), (jF 15), (jF 16), (jF 17), (jF 18), (jF 19), (jF 20), (jF 21), (jF 22), (jF 23), (jF 24), (jF 25), (jF 26), (jF 27), (jF 28), (jF 29), (jF 30), (jF 31), (jF 32), (jF 33), (jF 34), (jF 35), (jF 36), (jF 37), (jF 38), (jF 39), (jF 40), (jF 41), (jF 42), (jF 43), (jF 44), (jF 45), (jF 46), (jF 47), (jF 48), (jF 49), (jF 50), (jF 51), (jF 52), (jF 53), (jF 54), (jF 55)] : List (Nat → Int32)).getD j (fun _ => 0)), V, gg, ⟨(show (jN 0) ≤ 8 from by omega), (show (jN 1) ≤ 12 from by omega), (show (jN 2) ≤ 400 from by omega), (show (jN 3) ≤ 200 from by omega), (show (jN 4) ≤ 300 from by omega), (show (jN 5) ≤ 8 from by omega), (show (jN 6) ≤ 7 from by omega), (show (jN 7) ≤ 7 from by omega), hbn, (show (jN 8) ≤ 200 from by omega), (show (jN 9) ≤ 400 from by omega), (show (jN 10) ≤ 8 from by omega), (show (jN 11) ≤ 12 from by omega), (show (jN 12) ≤ 300 from by omega), hro, hrk, hrn, hrr, hrv, hdn, hrd, hrc, (show zz_rg (jF 47) (jN 12) 0 (5940 * ((k + 1 : Nat) : Int)) from (zz_rg_wk hru (by omega))), hcm, hpk, (show (jN 0) = (jN 10) from by omega), (show (jN 1) = (jN 11) from by omega), (show (jN 2) = (jN 9) from by omega), (show (jN 3) = (jN 8) from by omega), hby, hcu0, hcu1, htc, (show (jN 4) = (jN 12) from by omega), heo, hec, hes, heu, hel, hhi, hR, hil, huq, hoc, hdq, hlr, hpc, hpq⟩, hP9, hD9⟩ hS (lv_sub hl [0, 1, 2, 3] rfl)
