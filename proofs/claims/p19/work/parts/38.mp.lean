theorem tw_432 : Cond.code yX8_parts cX8_parts 5 none ∈ zz_all := zz_m5 15 rfl rfl
theorem tw_433 : Cond.methodLink RX8 279 yX8_parts ∈ zz_all := zz_m5 12 rfl rfl
theorem tw_434 : Cond.instanceMethod yX8_parts ∈ zz_all := zz_m5 14 rfl rfl
theorem tw_435 : Cond.selects RX8 yX8_parts yX8_parts ∈ zz_all := zz_ms 55 rfl rfl
theorem tw_436 : Cond.code yX8_evens cX8_evens 5 none ∈ zz_all := zz_m5 26 rfl rfl
theorem tw_437 : Cond.methodLink RX8 282 yX8_evens ∈ zz_all := zz_m5 23 rfl rfl
theorem tw_438 : Cond.instanceMethod yX8_evens ∈ zz_all := zz_m5 25 rfl rfl
theorem tw_439 : Cond.selects RX8 yX8_evens yX8_evens ∈ zz_all := zz_ms 57 rfl rfl
theorem tw_440 : Cond.code yX8_pays cX8_pays 3 none ∈ zz_all := zz_m5 11 rfl rfl
theorem tw_441 : Cond.methodLink RX8 289 yX8_pays ∈ zz_all := zz_m5 8 rfl rfl
theorem tw_442 : Cond.instanceMethod yX8_pays ∈ zz_all := zz_m5 10 rfl rfl
theorem tw_443 : Cond.selects RX8 yX8_pays yX8_pays ∈ zz_all := zz_ms 54 rfl rfl
theorem zy_b38mp_0 : decode cX8_pays 0 = .ok (.iconst 0, 1) ∧ decode cX8_pays 1 = .ok (.istore_n 1, 1) ∧ decode cX8_pays 2 = .ok (.aload_n 0, 1) ∧ decode cX8_pays 3 = .ok (.iconst 0, 1) ∧ decode cX8_pays 4 = .ok (.putfield 276, 3) ∧ decode cX8_pays 7 = .ok (.iconst 0, 1) ∧ decode cX8_pays 8 = .ok (.istore_n 2, 1) ∧ decode cX8_pays 9 = .ok (.iload_n 2, 1) := by decide +kernel
theorem dX8_pays_0 : decode cX8_pays 0 = .ok (.iconst 0, 1) := zy_b38mp_0.1
theorem dX8_pays_1 : decode cX8_pays 1 = .ok (.istore_n 1, 1) := zy_b38mp_0.2.1
theorem dX8_pays_2 : decode cX8_pays 2 = .ok (.aload_n 0, 1) := zy_b38mp_0.2.2.1
theorem dX8_pays_3 : decode cX8_pays 3 = .ok (.iconst 0, 1) := zy_b38mp_0.2.2.2.1
theorem dX8_pays_4 : decode cX8_pays 4 = .ok (.putfield 276, 3) := zy_b38mp_0.2.2.2.2.1
theorem dX8_pays_7 : decode cX8_pays 7 = .ok (.iconst 0, 1) := zy_b38mp_0.2.2.2.2.2.1
theorem dX8_pays_8 : decode cX8_pays 8 = .ok (.istore_n 2, 1) := zy_b38mp_0.2.2.2.2.2.2.1
theorem dX8_pays_9 : decode cX8_pays 9 = .ok (.iload_n 2, 1) := zy_b38mp_0.2.2.2.2.2.2.2
theorem zy_b38mp_1 : decode cX8_pays 10 = .ok (.aload_n 0, 1) ∧ decode cX8_pays 11 = .ok (.getfield 115, 3) ∧ decode cX8_pays 14 = .ok (.if_icmp .ge 39, 3) ∧ decode cX8_pays 17 = .ok (.aload_n 0, 1) ∧ decode cX8_pays 18 = .ok (.getfield 91, 3) ∧ decode cX8_pays 21 = .ok (.iload_n 2, 1) ∧ decode cX8_pays 22 = .ok (.aload_n 0, 1) ∧ decode cX8_pays 23 = .ok (.iload_n 2, 1) := by decide +kernel
theorem dX8_pays_10 : decode cX8_pays 10 = .ok (.aload_n 0, 1) := zy_b38mp_1.1
theorem dX8_pays_11 : decode cX8_pays 11 = .ok (.getfield 115, 3) := zy_b38mp_1.2.1
theorem dX8_pays_14 : decode cX8_pays 14 = .ok (.if_icmp .ge 39, 3) := zy_b38mp_1.2.2.1
theorem dX8_pays_17 : decode cX8_pays 17 = .ok (.aload_n 0, 1) := zy_b38mp_1.2.2.2.1
theorem dX8_pays_18 : decode cX8_pays 18 = .ok (.getfield 91, 3) := zy_b38mp_1.2.2.2.2.1
theorem dX8_pays_21 : decode cX8_pays 21 = .ok (.iload_n 2, 1) := zy_b38mp_1.2.2.2.2.2.1
theorem dX8_pays_22 : decode cX8_pays 22 = .ok (.aload_n 0, 1) := zy_b38mp_1.2.2.2.2.2.2.1
theorem dX8_pays_23 : decode cX8_pays 23 = .ok (.iload_n 2, 1) := zy_b38mp_1.2.2.2.2.2.2.2
theorem zy_b38mp_2 : decode cX8_pays 24 = .ok (.invokevirtual 264, 3) ∧ decode cX8_pays 27 = .ok (.iastore, 1) ∧ decode cX8_pays 28 = .ok (.iload_n 1, 1) ∧ decode cX8_pays 29 = .ok (.aload_n 0, 1) ∧ decode cX8_pays 30 = .ok (.getfield 91, 3) ∧ decode cX8_pays 33 = .ok (.iload_n 2, 1) ∧ decode cX8_pays 34 = .ok (.iaload, 1) ∧ decode cX8_pays 35 = .ok (.ifCond .eq 9, 3) := by decide +kernel
theorem dX8_pays_24 : decode cX8_pays 24 = .ok (.invokevirtual 264, 3) := zy_b38mp_2.1
theorem dX8_pays_27 : decode cX8_pays 27 = .ok (.iastore, 1) := zy_b38mp_2.2.1
theorem dX8_pays_28 : decode cX8_pays 28 = .ok (.iload_n 1, 1) := zy_b38mp_2.2.2.1
theorem dX8_pays_29 : decode cX8_pays 29 = .ok (.aload_n 0, 1) := zy_b38mp_2.2.2.2.1
theorem dX8_pays_30 : decode cX8_pays 30 = .ok (.getfield 91, 3) := zy_b38mp_2.2.2.2.2.1
theorem dX8_pays_33 : decode cX8_pays 33 = .ok (.iload_n 2, 1) := zy_b38mp_2.2.2.2.2.2.1
theorem dX8_pays_34 : decode cX8_pays 34 = .ok (.iaload, 1) := zy_b38mp_2.2.2.2.2.2.2.1
theorem dX8_pays_35 : decode cX8_pays 35 = .ok (.ifCond .eq 9, 3) := zy_b38mp_2.2.2.2.2.2.2.2
theorem zy_b38mp_3 : decode cX8_pays 38 = .ok (.iconst 1, 1) ∧ decode cX8_pays 39 = .ok (.iload_n 2, 1) ∧ decode cX8_pays 40 = .ok (.ishl, 1) ∧ decode cX8_pays 41 = .ok (.goto 4, 3) ∧ decode cX8_pays 44 = .ok (.iconst 0, 1) ∧ decode cX8_pays 45 = .ok (.iadd, 1) ∧ decode cX8_pays 46 = .ok (.istore_n 1, 1) ∧ decode cX8_pays 47 = .ok (.iinc 2 1, 3) := by decide +kernel
theorem dX8_pays_38 : decode cX8_pays 38 = .ok (.iconst 1, 1) := zy_b38mp_3.1
theorem dX8_pays_39 : decode cX8_pays 39 = .ok (.iload_n 2, 1) := zy_b38mp_3.2.1
theorem dX8_pays_40 : decode cX8_pays 40 = .ok (.ishl, 1) := zy_b38mp_3.2.2.1
theorem dX8_pays_41 : decode cX8_pays 41 = .ok (.goto 4, 3) := zy_b38mp_3.2.2.2.1
theorem dX8_pays_44 : decode cX8_pays 44 = .ok (.iconst 0, 1) := zy_b38mp_3.2.2.2.2.1
theorem dX8_pays_45 : decode cX8_pays 45 = .ok (.iadd, 1) := zy_b38mp_3.2.2.2.2.2.1
theorem dX8_pays_46 : decode cX8_pays 46 = .ok (.istore_n 1, 1) := zy_b38mp_3.2.2.2.2.2.2.1
theorem dX8_pays_47 : decode cX8_pays 47 = .ok (.iinc 2 1, 3) := zy_b38mp_3.2.2.2.2.2.2.2
theorem zy_b38mp_4 : decode cX8_pays 50 = .ok (.goto (-41), 3) ∧ decode cX8_pays 53 = .ok (.aload_n 0, 1) ∧ decode cX8_pays 54 = .ok (.iload_n 1, 1) ∧ decode cX8_pays 55 = .ok (.invokevirtual 279, 3) ∧ decode cX8_pays 58 = .ok (.iload_n 1, 1) ∧ decode cX8_pays 59 = .ok (.ifCond .le 68, 3) ∧ decode cX8_pays 62 = .ok (.iconst 1, 1) ∧ decode cX8_pays 63 = .ok (.istore_n 2, 1) := by decide +kernel
theorem dX8_pays_50 : decode cX8_pays 50 = .ok (.goto (-41), 3) := zy_b38mp_4.1
theorem dX8_pays_53 : decode cX8_pays 53 = .ok (.aload_n 0, 1) := zy_b38mp_4.2.1
theorem dX8_pays_54 : decode cX8_pays 54 = .ok (.iload_n 1, 1) := zy_b38mp_4.2.2.1
theorem dX8_pays_55 : decode cX8_pays 55 = .ok (.invokevirtual 279, 3) := zy_b38mp_4.2.2.2.1
theorem dX8_pays_58 : decode cX8_pays 58 = .ok (.iload_n 1, 1) := zy_b38mp_4.2.2.2.2.1
theorem dX8_pays_59 : decode cX8_pays 59 = .ok (.ifCond .le 68, 3) := zy_b38mp_4.2.2.2.2.2.1
theorem dX8_pays_62 : decode cX8_pays 62 = .ok (.iconst 1, 1) := zy_b38mp_4.2.2.2.2.2.2.1
theorem dX8_pays_63 : decode cX8_pays 63 = .ok (.istore_n 2, 1) := zy_b38mp_4.2.2.2.2.2.2.2
theorem zy_b38mp_5 : decode cX8_pays 64 = .ok (.iload_n 2, 1) ∧ decode cX8_pays 65 = .ok (.iload_n 1, 1) ∧ decode cX8_pays 66 = .ok (.iand, 1) ∧ decode cX8_pays 67 = .ok (.iload_n 2, 1) ∧ decode cX8_pays 68 = .ok (.if_icmp .ne 41, 3) ∧ decode cX8_pays 71 = .ok (.iload_n 2, 1) ∧ decode cX8_pays 72 = .ok (.iload_n 1, 1) ∧ decode cX8_pays 73 = .ok (.invokestatic 270, 3) := by decide +kernel
theorem dX8_pays_64 : decode cX8_pays 64 = .ok (.iload_n 2, 1) := zy_b38mp_5.1
theorem dX8_pays_65 : decode cX8_pays 65 = .ok (.iload_n 1, 1) := zy_b38mp_5.2.1
theorem dX8_pays_66 : decode cX8_pays 66 = .ok (.iand, 1) := zy_b38mp_5.2.2.1
theorem dX8_pays_67 : decode cX8_pays 67 = .ok (.iload_n 2, 1) := zy_b38mp_5.2.2.2.1
theorem dX8_pays_68 : decode cX8_pays 68 = .ok (.if_icmp .ne 41, 3) := zy_b38mp_5.2.2.2.2.1
theorem dX8_pays_71 : decode cX8_pays 71 = .ok (.iload_n 2, 1) := zy_b38mp_5.2.2.2.2.2.1
theorem dX8_pays_72 : decode cX8_pays 72 = .ok (.iload_n 1, 1) := zy_b38mp_5.2.2.2.2.2.2.1
theorem dX8_pays_73 : decode cX8_pays 73 = .ok (.invokestatic 270, 3) := zy_b38mp_5.2.2.2.2.2.2.2
theorem zy_b38mp_6 : decode cX8_pays 76 = .ok (.ishr, 1) ∧ decode cX8_pays 77 = .ok (.iconst 1, 1) ∧ decode cX8_pays 78 = .ok (.iand, 1) ∧ decode cX8_pays 79 = .ok (.ifCond .eq 30, 3) ∧ decode cX8_pays 82 = .ok (.aload_n 0, 1) ∧ decode cX8_pays 83 = .ok (.iload_n 2, 1) ∧ decode cX8_pays 84 = .ok (.invokevirtual 273, 3) ∧ decode cX8_pays 87 = .ok (.ifCond .ne 22, 3) := by decide +kernel
theorem dX8_pays_76 : decode cX8_pays 76 = .ok (.ishr, 1) := zy_b38mp_6.1
theorem dX8_pays_77 : decode cX8_pays 77 = .ok (.iconst 1, 1) := zy_b38mp_6.2.1
theorem dX8_pays_78 : decode cX8_pays 78 = .ok (.iand, 1) := zy_b38mp_6.2.2.1
theorem dX8_pays_79 : decode cX8_pays 79 = .ok (.ifCond .eq 30, 3) := zy_b38mp_6.2.2.2.1
theorem dX8_pays_82 : decode cX8_pays 82 = .ok (.aload_n 0, 1) := zy_b38mp_6.2.2.2.2.1
theorem dX8_pays_83 : decode cX8_pays 83 = .ok (.iload_n 2, 1) := zy_b38mp_6.2.2.2.2.2.1
theorem dX8_pays_84 : decode cX8_pays 84 = .ok (.invokevirtual 273, 3) := zy_b38mp_6.2.2.2.2.2.2.1
theorem dX8_pays_87 : decode cX8_pays 87 = .ok (.ifCond .ne 22, 3) := zy_b38mp_6.2.2.2.2.2.2.2
theorem zy_b38mp_7 : decode cX8_pays 90 = .ok (.aload_n 0, 1) ∧ decode cX8_pays 91 = .ok (.getfield 94, 3) ∧ decode cX8_pays 94 = .ok (.iload_n 1, 1) ∧ decode cX8_pays 95 = .ok (.iload_n 2, 1) ∧ decode cX8_pays 96 = .ok (.isub, 1) ∧ decode cX8_pays 97 = .ok (.iaload, 1) ∧ decode cX8_pays 98 = .ok (.iconst 1, 1) ∧ decode cX8_pays 99 = .ok (.iadd, 1) := by decide +kernel
theorem dX8_pays_90 : decode cX8_pays 90 = .ok (.aload_n 0, 1) := zy_b38mp_7.1
theorem dX8_pays_91 : decode cX8_pays 91 = .ok (.getfield 94, 3) := zy_b38mp_7.2.1
theorem dX8_pays_94 : decode cX8_pays 94 = .ok (.iload_n 1, 1) := zy_b38mp_7.2.2.1
theorem dX8_pays_95 : decode cX8_pays 95 = .ok (.iload_n 2, 1) := zy_b38mp_7.2.2.2.1
theorem dX8_pays_96 : decode cX8_pays 96 = .ok (.isub, 1) := zy_b38mp_7.2.2.2.2.1
theorem dX8_pays_97 : decode cX8_pays 97 = .ok (.iaload, 1) := zy_b38mp_7.2.2.2.2.2.1
theorem dX8_pays_98 : decode cX8_pays 98 = .ok (.iconst 1, 1) := zy_b38mp_7.2.2.2.2.2.2.1
theorem dX8_pays_99 : decode cX8_pays 99 = .ok (.iadd, 1) := zy_b38mp_7.2.2.2.2.2.2.2
theorem zy_b38mp_8 : decode cX8_pays 100 = .ok (.aload_n 0, 1) ∧ decode cX8_pays 101 = .ok (.getfield 94, 3) ∧ decode cX8_pays 104 = .ok (.iload_n 1, 1) ∧ decode cX8_pays 105 = .ok (.iaload, 1) ∧ decode cX8_pays 106 = .ok (.if_icmp .eq 9, 3) ∧ decode cX8_pays 109 = .ok (.iinc 2 1, 3) ∧ decode cX8_pays 112 = .ok (.goto (-48), 3) ∧ decode cX8_pays 115 = .ok (.aload_n 0, 1) := by decide +kernel
theorem dX8_pays_100 : decode cX8_pays 100 = .ok (.aload_n 0, 1) := zy_b38mp_8.1
theorem dX8_pays_101 : decode cX8_pays 101 = .ok (.getfield 94, 3) := zy_b38mp_8.2.1
theorem dX8_pays_104 : decode cX8_pays 104 = .ok (.iload_n 1, 1) := zy_b38mp_8.2.2.1
theorem dX8_pays_105 : decode cX8_pays 105 = .ok (.iaload, 1) := zy_b38mp_8.2.2.2.1
theorem dX8_pays_106 : decode cX8_pays 106 = .ok (.if_icmp .eq 9, 3) := zy_b38mp_8.2.2.2.2.1
theorem dX8_pays_109 : decode cX8_pays 109 = .ok (.iinc 2 1, 3) := zy_b38mp_8.2.2.2.2.2.1
theorem dX8_pays_112 : decode cX8_pays 112 = .ok (.goto (-48), 3) := zy_b38mp_8.2.2.2.2.2.2.1
theorem dX8_pays_115 : decode cX8_pays 115 = .ok (.aload_n 0, 1) := zy_b38mp_8.2.2.2.2.2.2.2
theorem zy_b38mp_9 : decode cX8_pays 116 = .ok (.iload_n 2, 1) ∧ decode cX8_pays 117 = .ok (.invokevirtual 282, 3) ∧ decode cX8_pays 120 = .ok (.iload_n 1, 1) ∧ decode cX8_pays 121 = .ok (.iload_n 2, 1) ∧ decode cX8_pays 122 = .ok (.isub, 1) ∧ decode cX8_pays 123 = .ok (.istore_n 1, 1) ∧ decode cX8_pays 124 = .ok (.goto (-66), 3) ∧ decode cX8_pays 127 = .ok (.return_, 1) := by decide +kernel
theorem dX8_pays_116 : decode cX8_pays 116 = .ok (.iload_n 2, 1) := zy_b38mp_9.1
theorem dX8_pays_117 : decode cX8_pays 117 = .ok (.invokevirtual 282, 3) := zy_b38mp_9.2.1
theorem dX8_pays_120 : decode cX8_pays 120 = .ok (.iload_n 1, 1) := zy_b38mp_9.2.2.1
theorem dX8_pays_121 : decode cX8_pays 121 = .ok (.iload_n 2, 1) := zy_b38mp_9.2.2.2.1
theorem dX8_pays_122 : decode cX8_pays 122 = .ok (.isub, 1) := zy_b38mp_9.2.2.2.2.1
theorem dX8_pays_123 : decode cX8_pays 123 = .ok (.istore_n 1, 1) := zy_b38mp_9.2.2.2.2.2.1
theorem dX8_pays_124 : decode cX8_pays 124 = .ok (.goto (-66), 3) := zy_b38mp_9.2.2.2.2.2.2.1
theorem dX8_pays_127 : decode cX8_pays 127 = .ok (.return_, 1) := zy_b38mp_9.2.2.2.2.2.2.2
theorem zy_b38mp_10 : decode cX8_payments 0 = .ok (.aload_n 0, 1) ∧ decode cX8_payments 1 = .ok (.invokevirtual 289, 3) ∧ decode cX8_payments 4 = .ok (.aload_n 0, 1) ∧ decode cX8_payments 5 = .ok (.getfield 276, 3) ∧ decode cX8_payments 8 = .ok (.ireturn, 1) := by decide +kernel
theorem dX8_payments_0 : decode cX8_payments 0 = .ok (.aload_n 0, 1) := zy_b38mp_10.1
theorem dX8_payments_1 : decode cX8_payments 1 = .ok (.invokevirtual 289, 3) := zy_b38mp_10.2.1
theorem dX8_payments_4 : decode cX8_payments 4 = .ok (.aload_n 0, 1) := zy_b38mp_10.2.2.1
theorem dX8_payments_5 : decode cX8_payments 5 = .ok (.getfield 276, 3) := zy_b38mp_10.2.2.2.1
theorem dX8_payments_8 : decode cX8_payments 8 = .ok (.ireturn, 1) := zy_b38mp_10.2.2.2.2
theorem zy_b38mp_11 : decode cX8_payment 0 = .ok (.aload_n 0, 1) ∧ decode cX8_payment 1 = .ok (.invokevirtual 289, 3) ∧ decode cX8_payment 4 = .ok (.iload_n 1, 1) ∧ decode cX8_payment 5 = .ok (.i2l, 1) ∧ decode cX8_payment 6 = .ok (.lconst 0, 1) ∧ decode cX8_payment 7 = .ok (.aload_n 0, 1) ∧ decode cX8_payment 8 = .ok (.getfield 276, 3) ∧ decode cX8_payment 11 = .ok (.iconst 1, 1) := by decide +kernel
theorem dX8_payment_0 : decode cX8_payment 0 = .ok (.aload_n 0, 1) := zy_b38mp_11.1
theorem dX8_payment_1 : decode cX8_payment 1 = .ok (.invokevirtual 289, 3) := zy_b38mp_11.2.1
theorem dX8_payment_4 : decode cX8_payment 4 = .ok (.iload_n 1, 1) := zy_b38mp_11.2.2.1
theorem dX8_payment_5 : decode cX8_payment 5 = .ok (.i2l, 1) := zy_b38mp_11.2.2.2.1
theorem dX8_payment_6 : decode cX8_payment 6 = .ok (.lconst 0, 1) := zy_b38mp_11.2.2.2.2.1
theorem dX8_payment_7 : decode cX8_payment 7 = .ok (.aload_n 0, 1) := zy_b38mp_11.2.2.2.2.2.1
theorem dX8_payment_8 : decode cX8_payment 8 = .ok (.getfield 276, 3) := zy_b38mp_11.2.2.2.2.2.2.1
theorem dX8_payment_11 : decode cX8_payment 11 = .ok (.iconst 1, 1) := zy_b38mp_11.2.2.2.2.2.2.2
theorem zy_b38mp_12 : decode cX8_payment 12 = .ok (.isub, 1) ∧ decode cX8_payment 13 = .ok (.i2l, 1) ∧ decode cX8_payment 14 = .ok (.invokestatic 118, 3) ∧ decode cX8_payment 17 = .ok (.ifCond .ne 5, 3) ∧ decode cX8_payment 20 = .ok (.iconst (-1), 1) ∧ decode cX8_payment 21 = .ok (.ireturn, 1) ∧ decode cX8_payment 22 = .ok (.iload_n 2, 1) ∧ decode cX8_payment 23 = .ok (.ifCond .ne 12, 3) := by decide +kernel
theorem dX8_payment_12 : decode cX8_payment 12 = .ok (.isub, 1) := zy_b38mp_12.1
theorem dX8_payment_13 : decode cX8_payment 13 = .ok (.i2l, 1) := zy_b38mp_12.2.1
theorem dX8_payment_14 : decode cX8_payment 14 = .ok (.invokestatic 118, 3) := zy_b38mp_12.2.2.1
theorem dX8_payment_17 : decode cX8_payment 17 = .ok (.ifCond .ne 5, 3) := zy_b38mp_12.2.2.2.1
theorem dX8_payment_20 : decode cX8_payment 20 = .ok (.iconst (-1), 1) := zy_b38mp_12.2.2.2.2.1
theorem dX8_payment_21 : decode cX8_payment 21 = .ok (.ireturn, 1) := zy_b38mp_12.2.2.2.2.2.1
theorem dX8_payment_22 : decode cX8_payment 22 = .ok (.iload_n 2, 1) := zy_b38mp_12.2.2.2.2.2.2.1
theorem dX8_payment_23 : decode cX8_payment 23 = .ok (.ifCond .ne 12, 3) := zy_b38mp_12.2.2.2.2.2.2.2
theorem zy_b38mp_13 : decode cX8_payment 26 = .ok (.aload_n 0, 1) ∧ decode cX8_payment 27 = .ok (.getfield 97, 3) ∧ decode cX8_payment 30 = .ok (.iload_n 1, 1) ∧ decode cX8_payment 31 = .ok (.iaload, 1) ∧ decode cX8_payment 32 = .ok (.goto 32, 3) ∧ decode cX8_payment 35 = .ok (.iload_n 2, 1) ∧ decode cX8_payment 36 = .ok (.iconst 1, 1) ∧ decode cX8_payment 37 = .ok (.if_icmp .ne 12, 3) := by decide +kernel
theorem dX8_payment_26 : decode cX8_payment 26 = .ok (.aload_n 0, 1) := zy_b38mp_13.1
theorem dX8_payment_27 : decode cX8_payment 27 = .ok (.getfield 97, 3) := zy_b38mp_13.2.1
theorem dX8_payment_30 : decode cX8_payment 30 = .ok (.iload_n 1, 1) := zy_b38mp_13.2.2.1
theorem dX8_payment_31 : decode cX8_payment 31 = .ok (.iaload, 1) := zy_b38mp_13.2.2.2.1
theorem dX8_payment_32 : decode cX8_payment 32 = .ok (.goto 32, 3) := zy_b38mp_13.2.2.2.2.1
theorem dX8_payment_35 : decode cX8_payment 35 = .ok (.iload_n 2, 1) := zy_b38mp_13.2.2.2.2.2.1
theorem dX8_payment_36 : decode cX8_payment 36 = .ok (.iconst 1, 1) := zy_b38mp_13.2.2.2.2.2.2.1
theorem dX8_payment_37 : decode cX8_payment 37 = .ok (.if_icmp .ne 12, 3) := zy_b38mp_13.2.2.2.2.2.2.2
theorem zy_b38mp_14 : decode cX8_payment 40 = .ok (.aload_n 0, 1) ∧ decode cX8_payment 41 = .ok (.getfield 100, 3) ∧ decode cX8_payment 44 = .ok (.iload_n 1, 1) ∧ decode cX8_payment 45 = .ok (.iaload, 1) ∧ decode cX8_payment 46 = .ok (.goto 18, 3) ∧ decode cX8_payment 49 = .ok (.iload_n 2, 1) ∧ decode cX8_payment 50 = .ok (.iconst 2, 1) ∧ decode cX8_payment 51 = .ok (.if_icmp .ne 12, 3) := by decide +kernel
theorem dX8_payment_40 : decode cX8_payment 40 = .ok (.aload_n 0, 1) := zy_b38mp_14.1
theorem dX8_payment_41 : decode cX8_payment 41 = .ok (.getfield 100, 3) := zy_b38mp_14.2.1
theorem dX8_payment_44 : decode cX8_payment 44 = .ok (.iload_n 1, 1) := zy_b38mp_14.2.2.1
theorem dX8_payment_45 : decode cX8_payment 45 = .ok (.iaload, 1) := zy_b38mp_14.2.2.2.1
theorem dX8_payment_46 : decode cX8_payment 46 = .ok (.goto 18, 3) := zy_b38mp_14.2.2.2.2.1
theorem dX8_payment_49 : decode cX8_payment 49 = .ok (.iload_n 2, 1) := zy_b38mp_14.2.2.2.2.2.1
theorem dX8_payment_50 : decode cX8_payment 50 = .ok (.iconst 2, 1) := zy_b38mp_14.2.2.2.2.2.2.1
theorem dX8_payment_51 : decode cX8_payment 51 = .ok (.if_icmp .ne 12, 3) := zy_b38mp_14.2.2.2.2.2.2.2
theorem zy_b38mp_15 : decode cX8_payment 54 = .ok (.aload_n 0, 1) ∧ decode cX8_payment 55 = .ok (.getfield 103, 3) ∧ decode cX8_payment 58 = .ok (.iload_n 1, 1) ∧ decode cX8_payment 59 = .ok (.iaload, 1) ∧ decode cX8_payment 60 = .ok (.goto 4, 3) ∧ decode cX8_payment 63 = .ok (.iconst (-1), 1) ∧ decode cX8_payment 64 = .ok (.ireturn, 1) := by decide +kernel
theorem dX8_payment_54 : decode cX8_payment 54 = .ok (.aload_n 0, 1) := zy_b38mp_15.1
theorem dX8_payment_55 : decode cX8_payment 55 = .ok (.getfield 103, 3) := zy_b38mp_15.2.1
theorem dX8_payment_58 : decode cX8_payment 58 = .ok (.iload_n 1, 1) := zy_b38mp_15.2.2.1
theorem dX8_payment_59 : decode cX8_payment 59 = .ok (.iaload, 1) := zy_b38mp_15.2.2.2.1
theorem dX8_payment_60 : decode cX8_payment 60 = .ok (.goto 4, 3) := zy_b38mp_15.2.2.2.2.1
theorem dX8_payment_63 : decode cX8_payment 63 = .ok (.iconst (-1), 1) := zy_b38mp_15.2.2.2.2.2.1
theorem dX8_payment_64 : decode cX8_payment 64 = .ok (.ireturn, 1) := zy_b38mp_15.2.2.2.2.2.2
theorem zy_b38mp_16 : decode cX8_even 0 = .ok (.aload_n 0, 1) ∧ decode cX8_even 1 = .ok (.invokevirtual 289, 3) ∧ decode cX8_even 4 = .ok (.aload_n 0, 1) ∧ decode cX8_even 5 = .ok (.iconst 0, 1) ∧ decode cX8_even 6 = .ok (.putfield 230, 3) ∧ decode cX8_even 9 = .ok (.aload_n 0, 1) ∧ decode cX8_even 10 = .ok (.getfield 276, 3) ∧ decode cX8_even 13 = .ok (.ireturn, 1) := by decide +kernel
theorem dX8_even_0 : decode cX8_even 0 = .ok (.aload_n 0, 1) := zy_b38mp_16.1
theorem dX8_even_1 : decode cX8_even 1 = .ok (.invokevirtual 289, 3) := zy_b38mp_16.2.1
theorem dX8_even_4 : decode cX8_even 4 = .ok (.aload_n 0, 1) := zy_b38mp_16.2.2.1
theorem dX8_even_5 : decode cX8_even 5 = .ok (.iconst 0, 1) := zy_b38mp_16.2.2.2.1
theorem dX8_even_6 : decode cX8_even 6 = .ok (.putfield 230, 3) := zy_b38mp_16.2.2.2.2.1
theorem dX8_even_9 : decode cX8_even 9 = .ok (.aload_n 0, 1) := zy_b38mp_16.2.2.2.2.2.1
theorem dX8_even_10 : decode cX8_even 10 = .ok (.getfield 276, 3) := zy_b38mp_16.2.2.2.2.2.2.1
theorem dX8_even_13 : decode cX8_even 13 = .ok (.ireturn, 1) := zy_b38mp_16.2.2.2.2.2.2.2
set_option maxHeartbeats 4000000 in
set_option maxRecDepth 100000 in
theorem m_pays (l : Launch) (dC : Nat → ClassId) (dI : Nat → Nat → Nat) (b : Nat → Nat) (gg : Nat → Int32) (mt : Nat) (mc : Nat) (mh : Nat) (mf : Nat) (md : Nat) (cI : ClassId) (mo : Nat → Int32) (mr : Nat → Int32) (my : Nat → Int32) (mu : Nat → Int32) (nz : Nat → Int32) (gr : Nat → Int32) (y1 : Nat → Int32) (y2 : Nat → Int32) (y3 : Nat → Int32) (bu : Int) (sz : Nat) (hmh : mh ≤ 8) (hmd : md ≤ 300) (hrd : zz_rg mo md 0 ((mh : Int) - 1)) (hrc : zz_rg mr md 0 ((mh : Int) - 1)) (hru : zz_rg mu md 0 bu) (hbu : 0 ≤ bu ∧ bu ≤ 3100000) : Met l yX8_pays (zz_w yX8_pays cX8_pays 3 none) ({ frames := 2, cells := 0, slots := 0, locals := 48 }) (va_Pc [.ref (b 0)] (zz_B (dC, dI) sz [(b 0, .inr (8, [.ref (b 1), .int (nI mt), .int (gg 2), .int (gg 3), .int (gg 4), .int (gg 5), .int (gg 6), .int (gg 7), .int (gg 8), .int (gg 9), .ref (b 11), .ref (b 12), .ref (b 13), .int (nI mc), .int (nI mh), .ref (b 16), .ref (b 17), .ref (b 18), .ref (b 19), .ref (b 20), .ref (b 21), .ref (b 22), .ref (b 23), .ref (b 24), .int (nI mf), .ref (b 26), .ref (b 27), .ref (b 28), .ref (b 29), .ref (b 30), .ref (b 31), .ref (b 32), .int (gg 32), .int (nI md), .ref (b 35), .ref (b 36), .ref (b 37), .ref (b 38), .ref (b 39), .ref (b 40), .int (gg 40), .ref (b 42), .ref (b 43), .ref (b 44), .int (gg 44), .ref (b 46), .ref (b 47), .int (gg 47), .ref (b 49)])), (b 35, .inl (cI, 300, .inl mo)), (b 36, .inl (cI, 300, .inl mr)), (b 37, .inl (cI, 300, .inl my)), (b 38, .inl (cI, 300, .inl mu)), (b 39, .inl (cI, 8, .inl nz)), (b 40, .inl (cI, 256, .inl gr)), (b 42, .inl (cI, 8, .inl y1)), (b 43, .inl (cI, 8, .inl y2)), (b 44, .inl (cI, 8, .inl y3))] [(cI, .int)])) (va_Qv (fun (u : Nat × (Nat → Int32) × (Nat → Int32) × (Nat → Int32) × (Nat → Int32) × (Nat → Int32)) => match u with | (n2, _, _, _, _, _) => n2 ≤ 8) (fun (u : Nat × (Nat → Int32) × (Nat → Int32) × (Nat → Int32) × (Nat → Int32) × (Nat → Int32)) (t : State) => match u with | (u0, u1, u2, u3, u4, u5) => va_P (dC, dI) vwCl [(b 0, .inr (8, [.ref (b 1), .int (nI mt), .int (gg 2), .int (gg 3), .int (gg 4), .int (gg 5), .int (gg 6), .int (gg 7), .int (gg 8), .int (gg 9), .ref (b 11), .ref (b 12), .ref (b 13), .int (nI mc), .int (nI mh), .ref (b 16), .ref (b 17), .ref (b 18), .ref (b 19), .ref (b 20), .ref (b 21), .ref (b 22), .ref (b 23), .ref (b 24), .int (nI mf), .ref (b 26), .ref (b 27), .ref (b 28), .ref (b 29), .ref (b 30), .ref (b 31), .ref (b 32), .int (gg 32), .int (nI md), .ref (b 35), .ref (b 36), .ref (b 37), .ref (b 38), .ref (b 39), .ref (b 40), .int (nI u0), .ref (b 42), .ref (b 43), .ref (b 44), .int (gg 44), .ref (b 46), .ref (b 47), .int (gg 47), .ref (b 49)])), (b 35, .inl (cI, 300, .inl mo)), (b 36, .inl (cI, 300, .inl mr)), (b 37, .inl (cI, 300, .inl my)), (b 38, .inl (cI, 300, .inl mu)), (b 39, .inl (cI, 8, .inl u1)), (b 40, .inl (cI, 256, .inl u2)), (b 42, .inl (cI, 8, .inl u3)), (b 43, .inl (cI, 8, .inl u4)), (b 44, .inl (cI, 8, .inl u5))] t.heap ∧ va_K (dC, dI) vwCl [(cI, .int)] t ∧ va_D (va_A [(b 0, .inr (8, [.ref (b 1), .int (nI mt), .int (gg 2), .int (gg 3), .int (gg 4), .int (gg 5), .int (gg 6), .int (gg 7), .int (gg 8), .int (gg 9), .ref (b 11), .ref (b 12), .ref (b 13), .int (nI mc), .int (nI mh), .ref (b 16), .ref (b 17), .ref (b 18), .ref (b 19), .ref (b 20), .ref (b 21), .ref (b 22), .ref (b 23), .ref (b 24), .int (nI mf), .ref (b 26), .ref (b 27), .ref (b 28), .ref (b 29), .ref (b 30), .ref (b 31), .ref (b 32), .int (gg 32), .int (nI md), .ref (b 35), .ref (b 36), .ref (b 37), .ref (b 38), .ref (b 39), .ref (b 40), .int (gg 40), .ref (b 42), .ref (b 43), .ref (b 44), .int (gg 44), .ref (b 46), .ref (b 47), .int (gg 47), .ref (b 49)])), (b 35, .inl (cI, 300, .inl mo)), (b 36, .inl (cI, 300, .inl mr)), (b 37, .inl (cI, 300, .inl my)), (b 38, .inl (cI, 300, .inl mu)), (b 39, .inl (cI, 8, .inl nz)), (b 40, .inl (cI, 256, .inl gr)), (b 42, .inl (cI, 8, .inl y1)), (b 43, .inl (cI, 8, .inl y2)), (b 44, .inl (cI, 8, .inl y3))] sz) [(b 0, .inr (8, [.ref (b 1), .int (nI mt), .int (gg 2), .int (gg 3), .int (gg 4), .int (gg 5), .int (gg 6), .int (gg 7), .int (gg 8), .int (gg 9), .ref (b 11), .ref (b 12), .ref (b 13), .int (nI mc), .int (nI mh), .ref (b 16), .ref (b 17), .ref (b 18), .ref (b 19), .ref (b 20), .ref (b 21), .ref (b 22), .ref (b 23), .ref (b 24), .int (nI mf), .ref (b 26), .ref (b 27), .ref (b 28), .ref (b 29), .ref (b 30), .ref (b 31), .ref (b 32), .int (gg 32), .int (nI md), .ref (b 35), .ref (b 36), .ref (b 37), .ref (b 38), .ref (b 39), .ref (b 40), .int (nI u0), .ref (b 42), .ref (b 43), .ref (b 44), .int (gg 44), .ref (b 46), .ref (b 47), .int (gg 47), .ref (b 49)])), (b 35, .inl (cI, 300, .inl mo)), (b 36, .inl (cI, 300, .inl mr)), (b 37, .inl (cI, 300, .inl my)), (b 38, .inl (cI, 300, .inl mu)), (b 39, .inl (cI, 8, .inl u1)), (b 40, .inl (cI, 256, .inl u2)), (b 42, .inl (cI, 8, .inl u3)), (b 43, .inl (cI, 8, .inl u4)), (b 44, .inl (cI, 8, .inl u5))]) (va_A [(b 0, .inr (8, [.ref (b 1), .int (nI mt), .int (gg 2), .int (gg 3), .int (gg 4), .int (gg 5), .int (gg 6), .int (gg 7), .int (gg 8), .int (gg 9), .ref (b 11), .ref (b 12), .ref (b 13), .int (nI mc), .int (nI mh), .ref (b 16), .ref (b 17), .ref (b 18), .ref (b 19), .ref (b 20), .ref (b 21), .ref (b 22), .ref (b 23), .ref (b 24), .int (nI mf), .ref (b 26), .ref (b 27), .ref (b 28), .ref (b 29), .ref (b 30), .ref (b 31), .ref (b 32), .int (gg 32), .int (nI md), .ref (b 35), .ref (b 36), .ref (b 37), .ref (b 38), .ref (b 39), .ref (b 40), .int (gg 40), .ref (b 42), .ref (b 43), .ref (b 44), .int (gg 44), .ref (b 46), .ref (b 47), .int (gg 47), .ref (b 49)])), (b 35, .inl (cI, 300, .inl mo)), (b 36, .inl (cI, 300, .inl mr)), (b 37, .inl (cI, 300, .inl my)), (b 38, .inl (cI, 300, .inl mu)), (b 39, .inl (cI, 8, .inl nz)), (b 40, .inl (cI, 256, .inl gr)), (b 42, .inl (cI, 8, .inl y1)), (b 43, .inl (cI, 8, .inl y2)), (b 44, .inl (cI, 8, .inl y3))] sz)) 0 0 (va_A [(b 0, .inr (8, [.ref (b 1), .int (nI mt), .int (gg 2), .int (gg 3), .int (gg 4), .int (gg 5), .int (gg 6), .int (gg 7), .int (gg 8), .int (gg 9), .ref (b 11), .ref (b 12), .ref (b 13), .int (nI mc), .int (nI mh), .ref (b 16), .ref (b 17), .ref (b 18), .ref (b 19), .ref (b 20), .ref (b 21), .ref (b 22), .ref (b 23), .ref (b 24), .int (nI mf), .ref (b 26), .ref (b 27), .ref (b 28), .ref (b 29), .ref (b 30), .ref (b 31), .ref (b 32), .int (gg 32), .int (nI md), .ref (b 35), .ref (b 36), .ref (b 37), .ref (b 38), .ref (b 39), .ref (b 40), .int (gg 40), .ref (b 42), .ref (b 43), .ref (b 44), .int (gg 44), .ref (b 46), .ref (b 47), .int (gg 47), .ref (b 49)])), (b 35, .inl (cI, 300, .inl mo)), (b 36, .inl (cI, 300, .inl mr)), (b 37, .inl (cI, 300, .inl my)), (b 38, .inl (cI, 300, .inl mu)), (b 39, .inl (cI, 8, .inl nz)), (b 40, .inl (cI, 256, .inl gr)), (b 42, .inl (cI, 8, .inl y1)), (b 43, .inl (cI, 8, .inl y2)), (b 44, .inl (cI, 8, .inl y3))] sz) := by
  refine Met.ofW (cc := cX8_pays) (maxL := 3) (ret := none) (by decide) rfl ?_
  intro p e s m args below meth c s₁ B hml hv
  obtain ⟨rfl, hsz, hP, hK, hD0, hN⟩ := hv
  have hx := B.exec
  have hb := B.bytes
  have hr := B.returns
  have hts := atoms_spec (ws := zz_w yX8_pays cX8_pays 3 none) B.pre
  have hw : ∀ w ∈ zz_all, w.before _ s = true := fun w h => hts w (List.mem_cons_of_mem _ h)
  have hown : s.vm.findClass RX8 = some m.cls := findClass_of_methodNamed B.named
  have hlocks := B.notSynchronized
  subst hsz
  have hD := hD0.self (sz := s.heap.size)
  generalize hAe : va_A [(b 0, .inr (8, [.ref (b 1), .int (nI mt), .int (gg 2), .int (gg 3), .int (gg 4), .int (gg 5), .int (gg 6), .int (gg 7), .int (gg 8), .int (gg 9), .ref (b 11), .ref (b 12), .ref (b 13), .int (nI mc), .int (nI mh), .ref (b 16), .ref (b 17), .ref (b 18), .ref (b 19), .ref (b 20), .ref (b 21), .ref (b 22), .ref (b 23), .ref (b 24), .int (nI mf), .ref (b 26), .ref (b 27), .ref (b 28), .ref (b 29), .ref (b 30), .ref (b 31), .ref (b 32), .int (gg 32), .int (nI md), .ref (b 35), .ref (b 36), .ref (b 37), .ref (b 38), .ref (b 39), .ref (b 40), .int (gg 40), .ref (b 42), .ref (b 43), .ref (b 44), .int (gg 44), .ref (b 46), .ref (b 47), .int (gg 47), .ref (b 49)])), (b 35, .inl (cI, 300, .inl mo)), (b 36, .inl (cI, 300, .inl mr)), (b 37, .inl (cI, 300, .inl my)), (b 38, .inl (cI, 300, .inl mu)), (b 39, .inl (cI, 8, .inl nz)), (b 40, .inl (cI, 256, .inl gr)), (b 42, .inl (cI, 8, .inl y1)), (b 43, .inl (cI, 8, .inl y2)), (b 44, .inl (cI, 8, .inl y3))] s.heap.size = A at hD ⊢
  have hA : ∀ q : Nat, s.heap.size ≤ q → A q := fun q h => by rw [← hAe]; exact Or.inr h
  have hS : va_S A s.heap s.heap [] := va_S.rf
  have hP : va_P (dC, dI) vwCl [(b 0, .inr (8, [.ref (b 1), .int (nI mt), .int (gg 2), .int (gg 3), .int (gg 4), .int (gg 5), .int (gg 6), .int (gg 7), .int (gg 8), .int (gg 9), .ref (b 11), .ref (b 12), .ref (b 13), .int (nI mc), .int (nI mh), .ref (b 16), .ref (b 17), .ref (b 18), .ref (b 19), .ref (b 20), .ref (b 21), .ref (b 22), .ref (b 23), .ref (b 24), .int (nI mf), .ref (b 26), .ref (b 27), .ref (b 28), .ref (b 29), .ref (b 30), .ref (b 31), .ref (b 32), .int (gg 32), .int (nI md), .ref (b 35), .ref (b 36), .ref (b 37), .ref (b 38), .ref (b 39), .ref (b 40), .int (gg 40), .ref (b 42), .ref (b 43), .ref (b 44), .int (gg 44), .ref (b 46), .ref (b 47), .int (gg 47), .ref (b 49)])), (b 35, .inl (cI, 300, .inl mo)), (b 36, .inl (cI, 300, .inl mr)), (b 37, .inl (cI, 300, .inl my)), (b 38, .inl (cI, 300, .inl mu)), (b 39, .inl (cI, 8, .inl nz)), (b 40, .inl (cI, 256, .inl gr)), (b 42, .inl (cI, 8, .inl y1)), (b 43, .inl (cI, 8, .inl y2)), (b 44, .inl (cI, 8, .inl y3))] s.heap := hP
  have hl := lv_entry ([.ref (b 0)]) (n := 3) (Nat.le_of_ble_eq_true rfl)
  rw [lg_entry_eq]
  generalize (lg_sl ([.ref (b 0)]) ++ List.replicate (3 - (lg_sl ([.ref (b 0)])).length) Slot.unset).toArray = ls at hl ⊢
  have hl : lv_has ls 3 [(0, .ref (b 0))] := hl
  refine lv_iconst (v := 0) hx hb dX8_pays_0 (by decide) ?_
  refine lv_istore_n (lv' := [(1, .int 0), (0, .ref (b 0))]) hx hb dX8_pays_1 rfl hl (by decide) rfl (fun ls hl => ?_)
  refine lv_aload_n hx hb dX8_pays_2 rfl (lv_at hl 1 rfl) ?_
  refine lv_iconst (v := 0) hx hb dX8_pays_3 (by decide) ?_
  refine va_put (D := (dC, dI)) (ci := 8) (v := .int 0) (ty := .int) (C := RX8) (T := TX8) (N := 49) hx hb hw zz_inX8 tyX8 tyX8_ok nmX8 hown hK hP hD hS 0 rfl rfl 40 (by decide) (hw _ tw_429) (fun _ h9 => h9) rfl (by decide +kernel) rfl rfl (Nat.le_of_ble_eq_true rfl) dX8_pays_4 (fun H locs hP hD hS => ?_)
  obtain ⟨hP, hD⟩ := zz_ty (D := (dC, dI)) (cl := vwCl) (A := A) (H := H) [(b 0, .inr (8, [.ref (b 1), .int (nI mt), .int (gg 2), .int (gg 3), .int (gg 4), .int (gg 5), .int (gg 6), .int (gg 7), .int (gg 8), .int (gg 9), .ref (b 11), .ref (b 12), .ref (b 13), .int (nI mc), .int (nI mh), .ref (b 16), .ref (b 17), .ref (b 18), .ref (b 19), .ref (b 20), .ref (b 21), .ref (b 22), .ref (b 23), .ref (b 24), .int (nI mf), .ref (b 26), .ref (b 27), .ref (b 28), .ref (b 29), .ref (b 30), .ref (b 31), .ref (b 32), .int (gg 32), .int (nI md), .ref (b 35), .ref (b 36), .ref (b 37), .ref (b 38), .ref (b 39), .ref (b 40), .int 0, .ref (b 42), .ref (b 43), .ref (b 44), .int (gg 44), .ref (b 46), .ref (b 47), .int (gg 47), .ref (b 49)])), (b 35, .inl (cI, 300, .inl mo)), (b 36, .inl (cI, 300, .inl mr)), (b 37, .inl (cI, 300, .inl my)), (b 38, .inl (cI, 300, .inl mu)), (b 39, .inl (cI, 8, .inl nz)), (b 40, .inl (cI, 256, .inl gr)), (b 42, .inl (cI, 8, .inl y1)), (b 43, .inl (cI, 8, .inl y2)), (b 44, .inl (cI, 8, .inl y3))] hP hD rfl
  obtain ⟨hP, hD⟩ := zz_ty (D := (dC, dI)) (cl := vwCl) (A := A) (H := H) [(b 0, .inr (8, [.ref (b 1), .int (nI mt), .int (gg 2), .int (gg 3), .int (gg 4), .int (gg 5), .int (gg 6), .int (gg 7), .int (gg 8), .int (gg 9), .ref (b 11), .ref (b 12), .ref (b 13), .int (nI mc), .int (nI mh), .ref (b 16), .ref (b 17), .ref (b 18), .ref (b 19), .ref (b 20), .ref (b 21), .ref (b 22), .ref (b 23), .ref (b 24), .int (nI mf), .ref (b 26), .ref (b 27), .ref (b 28), .ref (b 29), .ref (b 30), .ref (b 31), .ref (b 32), .int (gg 32), .int (nI md), .ref (b 35), .ref (b 36), .ref (b 37), .ref (b 38), .ref (b 39), .ref (b 40), .int (nI 0), .ref (b 42), .ref (b 43), .ref (b 44), .int (gg 44), .ref (b 46), .ref (b 47), .int (gg 47), .ref (b 49)])), (b 35, .inl (cI, 300, .inl mo)), (b 36, .inl (cI, 300, .inl mr)), (b 37, .inl (cI, 300, .inl my)), (b 38, .inl (cI, 300, .inl mu)), (b 39, .inl (cI, 8, .inl nz)), (b 40, .inl (cI, 256, .inl gr)), (b 42, .inl (cI, 8, .inl y1)), (b 43, .inl (cI, 8, .inl y2)), (b 44, .inl (cI, 8, .inl y3))] hP hD rfl
  refine lv_iconst (v := 0) hx hb dX8_pays_7 (by decide) ?_
  refine lv_istore_n (lv' := [(2, .int 0), (1, .int 0), (0, .ref (b 0))]) hx hb dX8_pays_8 rfl hl (by decide) rfl (fun ls hl => ?_)
  refine zz_loopS (fun (u : (Nat) × (Nat) × (Nat → Int32)) => match u with | (jh, lf, gz) => [(b 0, .inr (8, [.ref (b 1), .int (nI mt), .int (gg 2), .int (gg 3), .int (gg 4), .int (gg 5), .int (gg 6), .int (gg 7), .int (gg 8), .int (gg 9), .ref (b 11), .ref (b 12), .ref (b 13), .int (nI mc), .int (nI mh), .ref (b 16), .ref (b 17), .ref (b 18), .ref (b 19), .ref (b 20), .ref (b 21), .ref (b 22), .ref (b 23), .ref (b 24), .int (nI mf), .ref (b 26), .ref (b 27), .ref (b 28), .ref (b 29), .ref (b 30), .ref (b 31), .ref (b 32), .int (gg 32), .int (nI md), .ref (b 35), .ref (b 36), .ref (b 37), .ref (b 38), .ref (b 39), .ref (b 40), .int (nI 0), .ref (b 42), .ref (b 43), .ref (b 44), .int (gg 44), .ref (b 46), .ref (b 47), .int (gg 47), .ref (b 49)])), (b 35, .inl (cI, 300, .inl mo)), (b 36, .inl (cI, 300, .inl mr)), (b 37, .inl (cI, 300, .inl my)), (b 38, .inl (cI, 300, .inl mu)), (b 39, .inl (cI, 8, .inl gz)), (b 40, .inl (cI, 256, .inl gr)), (b 42, .inl (cI, 8, .inl y1)), (b 43, .inl (cI, 8, .inl y2)), (b 44, .inl (cI, 8, .inl y3))]) (fun (u : (Nat) × (Nat) × (Nat → Int32)) => match u with | (jh, lf, gz) => [(0, .ref (b 0)), (1, .int (nI lf)), (2, .int (nI jh))]) (fun (u : (Nat) × (Nat) × (Nat → Int32)) => match u with | (jh, lf, gz) => jh ≤ mh ∧ zz_lf gz lf jh ∧ ∀ i : Nat, i < jh → (gz i).toInt = zz_nt mo mr mu i md) (fun (u : (Nat) × (Nat) × (Nat → Int32)) => match u with | (jh, lf, gz) => mh - jh) (fun u hI H locs ls hP hD hS hl ih_9 => ?_) (0, 0, nz) ⟨by omega, zz_lf_0, fun i h => absurd h (by omega)⟩ _ _ _ (hP.sub [0, 1, 2, 3, 4, 5, 6, 7, 8, 9] rfl) (hD.sub [0, 1, 2, 3, 4, 5, 6, 7, 8, 9] (by decide) rfl) hS (lv_sub hl [2, 1, 0] rfl)
  obtain ⟨jh, lf, gz⟩ := u
  obtain ⟨hP, hD⟩ := zz_ty (D := (dC, dI)) (cl := vwCl) (A := A) (H := H) [(b 0, .inr (8, [.ref (b 1), .int (nI mt), .int (gg 2), .int (gg 3), .int (gg 4), .int (gg 5), .int (gg 6), .int (gg 7), .int (gg 8), .int (gg 9), .ref (b 11), .ref (b 12), .ref (b 13), .int (nI mc), .int (nI mh), .ref (b 16), .ref (b 17), .ref (b 18), .ref (b 19), .ref (b 20), .ref (b 21), .ref (b 22), .ref (b 23), .ref (b 24), .int (nI mf), .ref (b 26), .ref (b 27), .ref (b 28), .ref (b 29), .ref (b 30), .ref (b 31), .ref (b 32), .int (gg 32), .int (nI md), .ref (b 35), .ref (b 36), .ref (b 37), .ref (b 38), .ref (b 39), .ref (b 40), .int (nI 0), .ref (b 42), .ref (b 43), .ref (b 44), .int (gg 44), .ref (b 46), .ref (b 47), .int (gg 47), .ref (b 49)])), (b 35, .inl (cI, 300, .inl mo)), (b 36, .inl (cI, 300, .inl mr)), (b 37, .inl (cI, 300, .inl my)), (b 38, .inl (cI, 300, .inl mu)), (b 39, .inl (cI, 8, .inl gz)), (b 40, .inl (cI, 256, .inl gr)), (b 42, .inl (cI, 8, .inl y1)), (b 43, .inl (cI, 8, .inl y2)), (b 44, .inl (cI, 8, .inl y3))] hP hD rfl
  have hl : lv_has ls 3 [(0, .ref (b 0)), (1, .int (nI lf)), (2, .int (nI jh))] := hl
  have hI : jh ≤ mh ∧ zz_lf gz lf jh ∧ ∀ i : Nat, i < jh → (gz i).toInt = zz_nt mo mr mu i md := hI
  obtain ⟨ij, il, ig⟩ := hI
  refine lv_iload_n hx hb dX8_pays_9 rfl (lv_at hl 2 rfl) ?_
  refine lv_aload_n hx hb dX8_pays_10 rfl (lv_at hl 0 rfl) ?_
  refine va_get (D := (dC, dI)) (ci := 8) (v := .int (nI mh)) (C := RX8) (T := TX8) (N := 49) hx hb hw zz_inX8 hown hK hP 0 rfl rfl 14 (by decide) (hw _ tw_182) (fun _ h9 => h9) rfl dX8_pays_11 ?_
  refine lv_icmp_ge (tgt := 53) hx hb dX8_pays_14 (by decide) (fun c_1 => ?_) (fun c_1 => ?_)
  · have zc_1 := c_1
    rw [Int32.le_iff_toInt_le] at zc_1
    try rw [zz_toInt jh (by omega)] at zc_1
    try rw [zz_toInt mh (by omega)] at zc_1
    obtain ⟨hl8, hsum, hz0, hrz0, hcz0⟩ := zz_pays0 hmh hmd hru hbu hrd hrc (show jh = mh from by omega) il ig
    refine lv_aload_n hx hb dX8_pays_53 rfl (lv_at hl 0 rfl) ?_
    refine lv_iload_n hx hb dX8_pays_54 rfl (lv_at hl 1 rfl) ?_
    obtain ⟨hPc, hDc⟩ := zz_sub2 (ws' := [(b 0, .inr (8, [.ref (b 1), .int (nI mt), .int (gg 2), .int (gg 3), .int (gg 4), .int (gg 5), .int (gg 6), .int (gg 7), .int (gg 8), .int (gg 9), .ref (b 11), .ref (b 12), .ref (b 13), .int (nI mc), .int (nI mh), .ref (b 16), .ref (b 17), .ref (b 18), .ref (b 19), .ref (b 20), .ref (b 21), .ref (b 22), .ref (b 23), .ref (b 24), .int (nI mf), .ref (b 26), .ref (b 27), .ref (b 28), .ref (b 29), .ref (b 30), .ref (b 31), .ref (b 32), .int (gg 32), .int (nI md), .ref (b 35), .ref (b 36), .ref (b 37), .ref (b 38), .ref (b 39), .ref (b 40), .int (nI 0), .ref (b 42), .ref (b 43), .ref (b 44), .int (gg 44), .ref (b 46), .ref (b 47), .int (gg 47), .ref (b 49)])), (b 39, .inl (cI, 8, .inl gz)), (b 40, .inl (cI, 256, .inl gr))]) hP hD [0, 5, 6] (by decide) rfl
    have hKc := hK.sub (tys' := [(cI, .int)]) [0] rfl
    have hFc := zz_free1 hDc hS hA
    refine va_callv (va_runV (As := [.int (nI lf)]) (rest := []) ⟨hx, hb, hml, hown, hw⟩ (m_parts l dC dI b gg mt mc mh mf md 0 cI gz gr lf H.size (by omega) (by omega)) ⟨callB_of 1 hw (zz_good tw_432) rfl rfl rfl (hw _ tw_184) (hw _ tw_433) (by decide +kernel) ⟨Nat.le_of_ble_eq_true rfl, Nat.le_of_ble_eq_true rfl⟩, (hw _ tw_434), (hw _ tw_435)⟩ ⟨zz_blind, va_recv hKc hPc (ci := 8) (q0 := 0) rfl rfl, zz_pre hPc hKc hDc hN⟩ rfl rfl hl.1 rfl (lv_room (Nat.le_of_ble_eq_true rfl)) dX8_pays_55 ⟨Nat.le_of_ble_eq_true rfl, Nat.le_of_ble_eq_true rfl⟩) hS (fun q _ h => hFc q h) hFc (fun u_2 t H1 locs ht hvm e_2 hB hz1 hk1 hS => ?_)
    try dsimp only at e_2
    obtain ⟨gq, rfl⟩ : ∃ z, z = u_2 := ⟨_, rfl⟩
    obtain ⟨hP1, hK1, hD1⟩ := hB
    rw [ht] at hP1
    have hK1 := va_K.moved hvm.symm hK1
    try dsimp only at e_2
    obtain ⟨hP, hD⟩ := va_join (wr := [(b 35, .inl (cI, 300, .inl mo)), (b 36, .inl (cI, 300, .inl mr)), (b 37, .inl (cI, 300, .inl my)), (b 38, .inl (cI, 300, .inl mu)), (b 42, .inl (cI, 8, .inl y1)), (b 43, .inl (cI, 8, .inl y2)), (b 44, .inl (cI, 8, .inl y3))]) (w1 := [(b 0, .inr (8, [.ref (b 1), .int (nI mt), .int (gg 2), .int (gg 3), .int (gg 4), .int (gg 5), .int (gg 6), .int (gg 7), .int (gg 8), .int (gg 9), .ref (b 11), .ref (b 12), .ref (b 13), .int (nI mc), .int (nI mh), .ref (b 16), .ref (b 17), .ref (b 18), .ref (b 19), .ref (b 20), .ref (b 21), .ref (b 22), .ref (b 23), .ref (b 24), .int (nI mf), .ref (b 26), .ref (b 27), .ref (b 28), .ref (b 29), .ref (b 30), .ref (b 31), .ref (b 32), .int (gg 32), .int (nI md), .ref (b 35), .ref (b 36), .ref (b 37), .ref (b 38), .ref (b 39), .ref (b 40), .int (nI 0), .ref (b 42), .ref (b 43), .ref (b 44), .int (gg 44), .ref (b 46), .ref (b 47), .int (gg 47), .ref (b 49)])), (b 39, .inl (cI, 8, .inl gz)), (b 40, .inl (cI, 256, .inl gq))]) hP hD [0, 5, 6] [1, 2, 3, 4, 7, 8, 9] rfl rfl (by decide) (by decide) hk1 hFc hP1 hD1
    clear hk1 ht hvm
    generalize H1 = H at hP hS ⊢
    obtain ⟨hP, hD⟩ := zz_ty (D := (dC, dI)) (cl := vwCl) (A := A) (H := H) [(b 35, .inl (cI, 300, .inl mo)), (b 36, .inl (cI, 300, .inl mr)), (b 37, .inl (cI, 300, .inl my)), (b 38, .inl (cI, 300, .inl mu)), (b 42, .inl (cI, 8, .inl y1)), (b 43, .inl (cI, 8, .inl y2)), (b 44, .inl (cI, 8, .inl y3)), (b 0, .inr (8, [.ref (b 1), .int (nI mt), .int (gg 2), .int (gg 3), .int (gg 4), .int (gg 5), .int (gg 6), .int (gg 7), .int (gg 8), .int (gg 9), .ref (b 11), .ref (b 12), .ref (b 13), .int (nI mc), .int (nI mh), .ref (b 16), .ref (b 17), .ref (b 18), .ref (b 19), .ref (b 20), .ref (b 21), .ref (b 22), .ref (b 23), .ref (b 24), .int (nI mf), .ref (b 26), .ref (b 27), .ref (b 28), .ref (b 29), .ref (b 30), .ref (b 31), .ref (b 32), .int (gg 32), .int (nI md), .ref (b 35), .ref (b 36), .ref (b 37), .ref (b 38), .ref (b 39), .ref (b 40), .int (nI 0), .ref (b 42), .ref (b 43), .ref (b 44), .int (gg 44), .ref (b 46), .ref (b 47), .int (gg 47), .ref (b 49)])), (b 39, .inl (cI, 8, .inl gz)), (b 40, .inl (cI, 256, .inl gq))] hP hD rfl
    have egp := e_2
    refine zz_loopS (fun (u : (Nat) × (Nat) × (Nat → Int32) × (Nat → Int32) × (Nat → Int32) × (Nat → Int32)) => match u with | (lft, pm, gy, x1, x2, x3) => [(b 0, .inr (8, [.ref (b 1), .int (nI mt), .int (gg 2), .int (gg 3), .int (gg 4), .int (gg 5), .int (gg 6), .int (gg 7), .int (gg 8), .int (gg 9), .ref (b 11), .ref (b 12), .ref (b 13), .int (nI mc), .int (nI mh), .ref (b 16), .ref (b 17), .ref (b 18), .ref (b 19), .ref (b 20), .ref (b 21), .ref (b 22), .ref (b 23), .ref (b 24), .int (nI mf), .ref (b 26), .ref (b 27), .ref (b 28), .ref (b 29), .ref (b 30), .ref (b 31), .ref (b 32), .int (gg 32), .int (nI md), .ref (b 35), .ref (b 36), .ref (b 37), .ref (b 38), .ref (b 39), .ref (b 40), .int (nI pm), .ref (b 42), .ref (b 43), .ref (b 44), .int (gg 44), .ref (b 46), .ref (b 47), .int (gg 47), .ref (b 49)])), (b 35, .inl (cI, 300, .inl mo)), (b 36, .inl (cI, 300, .inl mr)), (b 37, .inl (cI, 300, .inl my)), (b 38, .inl (cI, 300, .inl mu)), (b 39, .inl (cI, 8, .inl gy)), (b 40, .inl (cI, 256, .inl gq)), (b 42, .inl (cI, 8, .inl x1)), (b 43, .inl (cI, 8, .inl x2)), (b 44, .inl (cI, 8, .inl x3))]) (fun (u : (Nat) × (Nat) × (Nat → Int32) × (Nat → Int32) × (Nat → Int32) × (Nat → Int32)) => match u with | (lft, pm, gy, x1, x2, x3) => [(0, .ref (b 0)), (1, .int (nI lft))]) (fun (u : (Nat) × (Nat) × (Nat → Int32) × (Nat → Int32) × (Nat → Int32) × (Nat → Int32)) => match u with | (lft, pm, gy, x1, x2, x3) => lft ≤ lf ∧ lft &&& lf = lft ∧ (∀ h : Nat, h < mh → Nat.testBit lft h = true → gy h = gz h) ∧ zz_is gz lft mh = 0 ∧ zz_rg gy mh (-930000000) 930000000 ∧ pm + zz_cn gy mh ≤ 8) (fun (u : (Nat) × (Nat) × (Nat → Int32) × (Nat → Int32) × (Nat → Int32) × (Nat → Int32)) => match u with | (lft, pm, gy, x1, x2, x3) => lft) (fun u hI H locs ls hP hD hS hl ih_58 => ?_) (lf, 0, gz, y1, y2, y3) ⟨Nat.le_refl _, Nat.and_self _, fun h hh hb2 => rfl, hz0, hrz0, hcz0⟩ _ _ _ (hP.sub [7, 0, 1, 2, 3, 8, 9, 4, 5, 6] rfl) (hD.sub [7, 0, 1, 2, 3, 8, 9, 4, 5, 6] (by decide) rfl) hS (lv_sub hl [0, 1] rfl)
    obtain ⟨lft, pm, gy, x1, x2, x3⟩ := u
    obtain ⟨hP, hD⟩ := zz_ty (D := (dC, dI)) (cl := vwCl) (A := A) (H := H) [(b 0, .inr (8, [.ref (b 1), .int (nI mt), .int (gg 2), .int (gg 3), .int (gg 4), .int (gg 5), .int (gg 6), .int (gg 7), .int (gg 8), .int (gg 9), .ref (b 11), .ref (b 12), .ref (b 13), .int (nI mc), .int (nI mh), .ref (b 16), .ref (b 17), .ref (b 18), .ref (b 19), .ref (b 20), .ref (b 21), .ref (b 22), .ref (b 23), .ref (b 24), .int (nI mf), .ref (b 26), .ref (b 27), .ref (b 28), .ref (b 29), .ref (b 30), .ref (b 31), .ref (b 32), .int (gg 32), .int (nI md), .ref (b 35), .ref (b 36), .ref (b 37), .ref (b 38), .ref (b 39), .ref (b 40), .int (nI pm), .ref (b 42), .ref (b 43), .ref (b 44), .int (gg 44), .ref (b 46), .ref (b 47), .int (gg 47), .ref (b 49)])), (b 35, .inl (cI, 300, .inl mo)), (b 36, .inl (cI, 300, .inl mr)), (b 37, .inl (cI, 300, .inl my)), (b 38, .inl (cI, 300, .inl mu)), (b 39, .inl (cI, 8, .inl gy)), (b 40, .inl (cI, 256, .inl gq)), (b 42, .inl (cI, 8, .inl x1)), (b 43, .inl (cI, 8, .inl x2)), (b 44, .inl (cI, 8, .inl x3))] hP hD rfl
    have hl : lv_has ls 3 [(0, .ref (b 0)), (1, .int (nI lft))] := hl
    have hI : lft ≤ lf ∧ lft &&& lf = lft ∧ (∀ h : Nat, h < mh → Nat.testBit lft h = true → gy h = gz h) ∧ zz_is gz lft mh = 0 ∧ zz_rg gy mh (-930000000) 930000000 ∧ pm + zz_cn gy mh ≤ 8 := hI
    obtain ⟨i1, i2, i3, i4, i5, i6⟩ := hI
    refine lv_iload_n hx hb dX8_pays_58 rfl (lv_at hl 1 rfl) ?_
    refine lv_if_le (tgt := 127) hx hb dX8_pays_59 (by decide) (fun c_3 => ?_) (fun c_3 => ?_)
    · have zc_3 := c_3
      rw [Int32.le_iff_toInt_le] at zc_3
      try rw [zz_toInt lft (by omega)] at zc_3
      try rw [show (0 : Int32).toInt = 0 from by decide] at zc_3
      obtain ⟨hP9, hD9⟩ := zz_sub2 (ws' := [(b 0, .inr (8, [.ref (b 1), .int (nI mt), .int (gg 2), .int (gg 3), .int (gg 4), .int (gg 5), .int (gg 6), .int (gg 7), .int (gg 8), .int (gg 9), .ref (b 11), .ref (b 12), .ref (b 13), .int (nI mc), .int (nI mh), .ref (b 16), .ref (b 17), .ref (b 18), .ref (b 19), .ref (b 20), .ref (b 21), .ref (b 22), .ref (b 23), .ref (b 24), .int (nI mf), .ref (b 26), .ref (b 27), .ref (b 28), .ref (b 29), .ref (b 30), .ref (b 31), .ref (b 32), .int (gg 32), .int (nI md), .ref (b 35), .ref (b 36), .ref (b 37), .ref (b 38), .ref (b 39), .ref (b 40), .int (nI pm), .ref (b 42), .ref (b 43), .ref (b 44), .int (gg 44), .ref (b 46), .ref (b 47), .int (gg 47), .ref (b 49)])), (b 35, .inl (cI, 300, .inl mo)), (b 36, .inl (cI, 300, .inl mr)), (b 37, .inl (cI, 300, .inl my)), (b 38, .inl (cI, 300, .inl mu)), (b 39, .inl (cI, 8, .inl gy)), (b 40, .inl (cI, 256, .inl gq)), (b 42, .inl (cI, 8, .inl x1)), (b 43, .inl (cI, 8, .inl x2)), (b 44, .inl (cI, 8, .inl x3))]) hP hD [0, 1, 2, 3, 4, 5, 6, 7, 8, 9] (by decide) rfl
      have hK9 := hK.sub (tys' := [(cI, .int)]) [0] rfl
      exact W.vret hx hb hr (fun t ht hW => ⟨⟨(pm, gy, gq, x1, x2, x3), rfl, (by show _ ≤ _; omega), by rw [ht]; exact hP9, va_K.moved hW.alike hK9, hD9⟩, hS.F ht⟩) hS.2.2 dX8_pays_127
    · have zc_3 := c_3
      rw [Int32.le_iff_toInt_le] at zc_3
      try rw [zz_toInt lft (by omega)] at zc_3
      try rw [show (0 : Int32).toInt = 0 from by decide] at zc_3
      obtain ⟨pw, hq, hgr⟩ := zz_gp_use egp (x := lft) (by omega) i1 (by omega) i2 i4
      have hpw := hq.2.1
      have hpw1 := hq.1
      refine lv_iconst (v := 1) hx hb dX8_pays_62 (by decide) ?_
      refine lv_istore_n (lv' := [(2, .int 1), (0, .ref (b 0)), (1, .int (nI lft))]) hx hb dX8_pays_63 rfl hl (by decide) rfl (fun ls hl => ?_)
      refine zz_loopS (fun (pt : (Nat)) => [(b 0, .inr (8, [.ref (b 1), .int (nI mt), .int (gg 2), .int (gg 3), .int (gg 4), .int (gg 5), .int (gg 6), .int (gg 7), .int (gg 8), .int (gg 9), .ref (b 11), .ref (b 12), .ref (b 13), .int (nI mc), .int (nI mh), .ref (b 16), .ref (b 17), .ref (b 18), .ref (b 19), .ref (b 20), .ref (b 21), .ref (b 22), .ref (b 23), .ref (b 24), .int (nI mf), .ref (b 26), .ref (b 27), .ref (b 28), .ref (b 29), .ref (b 30), .ref (b 31), .ref (b 32), .int (gg 32), .int (nI md), .ref (b 35), .ref (b 36), .ref (b 37), .ref (b 38), .ref (b 39), .ref (b 40), .int (nI pm), .ref (b 42), .ref (b 43), .ref (b 44), .int (gg 44), .ref (b 46), .ref (b 47), .int (gg 47), .ref (b 49)])), (b 35, .inl (cI, 300, .inl mo)), (b 36, .inl (cI, 300, .inl mr)), (b 37, .inl (cI, 300, .inl my)), (b 38, .inl (cI, 300, .inl mu)), (b 39, .inl (cI, 8, .inl gy)), (b 40, .inl (cI, 256, .inl gq)), (b 42, .inl (cI, 8, .inl x1)), (b 43, .inl (cI, 8, .inl x2)), (b 44, .inl (cI, 8, .inl x3))]) (fun (pt : (Nat)) => [(0, .ref (b 0)), (1, .int (nI lft)), (2, .int (nI pt))]) (fun (pt : (Nat)) => 1 ≤ pt ∧ pt ≤ pw) (fun (pt : (Nat)) => pw + 1 - pt) (fun u hI H locs ls hP hD hS hl ih_64 => ?_) 1 ⟨by omega, by omega⟩ _ _ _ (hP.sub [0, 1, 2, 3, 4, 5, 6, 7, 8, 9] rfl) (hD.sub [0, 1, 2, 3, 4, 5, 6, 7, 8, 9] (by decide) rfl) hS (lv_sub hl [1, 2, 0] rfl)
      obtain ⟨pt, rfl⟩ : ∃ z, z = u := ⟨_, rfl⟩
      obtain ⟨hP, hD⟩ := zz_ty (D := (dC, dI)) (cl := vwCl) (A := A) (H := H) [(b 0, .inr (8, [.ref (b 1), .int (nI mt), .int (gg 2), .int (gg 3), .int (gg 4), .int (gg 5), .int (gg 6), .int (gg 7), .int (gg 8), .int (gg 9), .ref (b 11), .ref (b 12), .ref (b 13), .int (nI mc), .int (nI mh), .ref (b 16), .ref (b 17), .ref (b 18), .ref (b 19), .ref (b 20), .ref (b 21), .ref (b 22), .ref (b 23), .ref (b 24), .int (nI mf), .ref (b 26), .ref (b 27), .ref (b 28), .ref (b 29), .ref (b 30), .ref (b 31), .ref (b 32), .int (gg 32), .int (nI md), .ref (b 35), .ref (b 36), .ref (b 37), .ref (b 38), .ref (b 39), .ref (b 40), .int (nI pm), .ref (b 42), .ref (b 43), .ref (b 44), .int (gg 44), .ref (b 46), .ref (b 47), .int (gg 47), .ref (b 49)])), (b 35, .inl (cI, 300, .inl mo)), (b 36, .inl (cI, 300, .inl mr)), (b 37, .inl (cI, 300, .inl my)), (b 38, .inl (cI, 300, .inl mu)), (b 39, .inl (cI, 8, .inl gy)), (b 40, .inl (cI, 256, .inl gq)), (b 42, .inl (cI, 8, .inl x1)), (b 43, .inl (cI, 8, .inl x2)), (b 44, .inl (cI, 8, .inl x3))] hP hD rfl
      have hl : lv_has ls 3 [(0, .ref (b 0)), (1, .int (nI lft)), (2, .int (nI pt))] := hl
      have hI : 1 ≤ pt ∧ pt ≤ pw := hI
      obtain ⟨ip1, ip2⟩ := hI
      refine lv_iload_n hx hb dX8_pays_64 rfl (lv_at hl 2 rfl) ?_
      refine lv_iload_n hx hb dX8_pays_65 rfl (lv_at hl 1 rfl) ?_
      refine lv_iand hx hb dX8_pays_66 ?_
      refine zz_seti (nI (pt &&& lft)) (zz_andN (by omega) (by omega)) ?_
      have hand_4 := Nat.and_le_left (n := pt) (m := lft)
      refine lv_iload_n hx hb dX8_pays_67 rfl (lv_at hl 2 rfl) ?_
      refine lv_icmp_ne (tgt := 109) hx hb dX8_pays_68 (by decide) (fun c_5 => ?_) (fun c_5 => ?_)
      · have zc_5 := c_5
        rw [← Int32.toInt_inj] at zc_5
        try rw [zz_toInt (pt &&& lft) (by omega)] at zc_5
        try rw [zz_toInt pt (by omega)] at zc_5
        refine lv_iinc (v := (nI (pt + 1))) (lv' := [(2, .int (nI (pt + 1))), (0, .ref (b 0)), (1, .int (nI lft))]) hx hb dX8_pays_109 hl (k := 2) rfl (nI_1 _) (by decide) rfl (fun ls hl => ?_)
        refine lv_goto (tgt := 64) hx hb dX8_pays_112 (by decide) ?_
        exact ih_64 (pt + 1) ⟨by omega, zz_lt_of ip2 (fun h9 => by have h8 := hq.2.2.1; rw [← h9] at h8; omega)⟩ (show pw + 1 - (pt + 1) < pw + 1 - pt from by omega) _ _ _ (hP.sub [0, 1, 2, 3, 4, 5, 6, 7, 8, 9] rfl) (hD.sub [0, 1, 2, 3, 4, 5, 6, 7, 8, 9] (by decide) rfl) hS (lv_sub hl [1, 2, 0] rfl)
      · have zc_5 := c_5
        rw [← Int32.toInt_inj] at zc_5
        try rw [zz_toInt (pt &&& lft) (by omega)] at zc_5
        try rw [zz_toInt pt (by omega)] at zc_5
        refine lv_iload_n hx hb dX8_pays_71 rfl (lv_at hl 2 rfl) ?_
        refine lv_iload_n hx hb dX8_pays_72 rfl (lv_at hl 1 rfl) ?_
        obtain ⟨hPc, hDc⟩ := zz_sub2 (ws' := []) hP hD [] (by decide) rfl
        have hKc := hK.sub (tys' := []) [] rfl
        have hFc := zz_free0 hS hA
        refine va_calli (va_runS (As := [.int (nI lft)]) (rest := [.int (nI pt)]) ⟨hx, hb, hml, hown, hw⟩ (m_least l dC dI lft H.size (by omega) (by omega)) ⟨callB_of 1 hw (zz_good tw_417) rfl rfl rfl (hw _ tw_184) (hw _ tw_418) (by decide +kernel) ⟨Nat.le_of_ble_eq_true rfl, Nat.le_of_ble_eq_true rfl⟩, (hw _ tw_419)⟩ ⟨zz_blind, zz_pre hPc hKc hDc hN⟩ rfl rfl hl.1 rfl (lv_room (Nat.le_of_ble_eq_true rfl)) dX8_pays_73 ⟨Nat.le_of_ble_eq_true rfl, Nat.le_of_ble_eq_true rfl⟩) hS (fun q _ h => hFc q h) hFc (fun r_6 u_6 t H1 locs ht hvm e_6 hB hz1 hk1 hS => ?_)
        try dsimp only at e_6
        have hP := zz_keep hP hk1
        clear hk1 hB ht hvm
        generalize H1 = H at hP hS ⊢
        refine zz_seti (nI (zz_ls lft)) e_6 ?_
        refine lv_ishr hx hb dX8_pays_76 ?_
        refine lv_iconst (v := 1) hx hb dX8_pays_77 (by decide) ?_
        refine lv_iand hx hb dX8_pays_78 ?_
        rcases zz_bitc pt (by omega) (zz_ls lft) (zz_ls_in lft (by omega) (by omega)).2 with ⟨hb_7, eb_7⟩ | ⟨hb_7, eb_7⟩
        · refine zz_seti 1 eb_7 ?_
          refine lv_if_eq (tgt := 109) hx hb dX8_pays_79 (by decide) (fun c_9 => absurd c_9 (by decide)) (fun _ => ?_)
          refine lv_aload_n hx hb dX8_pays_82 rfl (lv_at hl 0 rfl) ?_
          refine lv_iload_n hx hb dX8_pays_83 rfl (lv_at hl 2 rfl) ?_
          obtain ⟨hPc, hDc⟩ := zz_sub2 (ws' := [(b 0, .inr (8, [.ref (b 1), .int (nI mt), .int (gg 2), .int (gg 3), .int (gg 4), .int (gg 5), .int (gg 6), .int (gg 7), .int (gg 8), .int (gg 9), .ref (b 11), .ref (b 12), .ref (b 13), .int (nI mc), .int (nI mh), .ref (b 16), .ref (b 17), .ref (b 18), .ref (b 19), .ref (b 20), .ref (b 21), .ref (b 22), .ref (b 23), .ref (b 24), .int (nI mf), .ref (b 26), .ref (b 27), .ref (b 28), .ref (b 29), .ref (b 30), .ref (b 31), .ref (b 32), .int (gg 32), .int (nI md), .ref (b 35), .ref (b 36), .ref (b 37), .ref (b 38), .ref (b 39), .ref (b 40), .int (nI pm), .ref (b 42), .ref (b 43), .ref (b 44), .int (gg 44), .ref (b 46), .ref (b 47), .int (gg 47), .ref (b 49)])), (b 39, .inl (cI, 8, .inl gy))]) hP hD [0, 5] (by decide) rfl
          have hKc := hK.sub (tys' := [(cI, .int)]) [0] rfl
          have hFc := zz_free0 hS hA
          refine va_calli (va_runV (As := [.int (nI pt)]) (rest := []) ⟨hx, hb, hml, hown, hw⟩ (m_sumOf l dC dI b gg mt mc mh mf md pm cI gy pt H.size (by omega) (by omega)) ⟨callB_of 1 hw (zz_good tw_420) rfl rfl rfl (hw _ tw_184) (hw _ tw_421) (by decide +kernel) ⟨Nat.le_of_ble_eq_true rfl, Nat.le_of_ble_eq_true rfl⟩, (hw _ tw_422), (hw _ tw_423)⟩ ⟨zz_blind, va_recv hKc hPc (ci := 8) (q0 := 0) rfl rfl, zz_pre hPc hKc hDc hN⟩ rfl rfl hl.1 rfl (lv_room (Nat.le_of_ble_eq_true rfl)) dX8_pays_84 ⟨Nat.le_of_ble_eq_true rfl, Nat.le_of_ble_eq_true rfl⟩) hS (fun q _ h => hFc q h) hFc (fun r_8 u_8 t H1 locs ht hvm e_8 hB hz1 hk1 hS => ?_)
          try dsimp only at e_8
          have hP := zz_keep hP hk1
          clear hk1 hB ht hvm
          generalize H1 = H at hP hS ⊢
          refine lv_if_ne (tgt := 109) hx hb dX8_pays_87 (by decide) (fun c_9 => ?_) (fun c_9 => ?_)
          · have zc_9 := c_9
            rw [← Int32.toInt_inj] at zc_9
            try rw [show (0 : Int32).toInt = 0 from by decide] at zc_9
            refine lv_iinc (v := (nI (pt + 1))) (lv' := [(2, .int (nI (pt + 1))), (0, .ref (b 0)), (1, .int (nI lft))]) hx hb dX8_pays_109 hl (k := 2) rfl (nI_1 _) (by decide) rfl (fun ls hl => ?_)
            refine lv_goto (tgt := 64) hx hb dX8_pays_112 (by decide) ?_
            exact ih_64 (pt + 1) ⟨by omega, zz_lt_of ip2 (fun h9 => c_9 (by rw [e_8, (zz_is_congr mh (G := gz) (fun h hh hb2 => i3 h hh (zz_in_of (show pt &&& lft = pt by omega) hb2))), h9]; exact hq.2.2.2.2.1))⟩ (show pw + 1 - (pt + 1) < pw + 1 - pt from by omega) _ _ _ (hP.sub [0, 1, 2, 3, 4, 5, 6, 7, 8, 9] rfl) (hD.sub [0, 1, 2, 3, 4, 5, 6, 7, 8, 9] (by decide) rfl) hS (lv_sub hl [1, 2, 0] rfl)
          · have zc_9 := c_9
            rw [← Int32.toInt_inj] at zc_9
            try rw [show (0 : Int32).toInt = 0 from by decide] at zc_9
            refine lv_aload_n hx hb dX8_pays_90 rfl (lv_at hl 0 rfl) ?_
            refine va_get (D := (dC, dI)) (ci := 8) (v := .ref (b 40)) (C := RX8) (T := TX8) (N := 49) hx hb hw zz_inX8 hown hK hP 0 rfl rfl 39 (by decide) (hw _ tw_416) (fun _ h9 => h9) rfl dX8_pays_91 ?_
            refine lv_iload_n hx hb dX8_pays_94 rfl (lv_at hl 1 rfl) ?_
            refine lv_iload_n hx hb dX8_pays_95 rfl (lv_at hl 2 rfl) ?_
            refine lv_isub hx hb dX8_pays_96 ?_
            refine zz_seti (nI (lft - pt)) (pk_sub (by omega)) ?_
            refine va_iald hx hb hK hP 6 0 rfl rfl (vp_in_iff.mpr (by rw [zz_toInt (lft - pt) (by omega)]; constructor <;> omega)) dX8_pays_97 ?_
            refine zz_seti (gq (lft - pt)) (congrArg gq (zz_cl (by omega))) ?_
            refine lv_iconst (v := 1) hx hb dX8_pays_98 (by decide) ?_
            refine lv_iadd hx hb dX8_pays_99 ?_
            refine lv_aload_n hx hb dX8_pays_100 rfl (lv_at hl 0 rfl) ?_
            refine va_get (D := (dC, dI)) (ci := 8) (v := .ref (b 40)) (C := RX8) (T := TX8) (N := 49) hx hb hw zz_inX8 hown hK hP 0 rfl rfl 39 (by decide) (hw _ tw_416) (fun _ h9 => h9) rfl dX8_pays_101 ?_
            refine lv_iload_n hx hb dX8_pays_104 rfl (lv_at hl 1 rfl) ?_
            refine va_iald hx hb hK hP 6 0 rfl rfl (vp_in_iff.mpr (by rw [zz_toInt lft (by omega)]; constructor <;> omega)) dX8_pays_105 ?_
            refine zz_seti (gq lft) (congrArg gq (zz_cl (by omega))) ?_
            refine lv_icmp_eq (tgt := 115) hx hb dX8_pays_106 (by decide) (fun c_10 => ?_) (fun c_10 => ?_)
            · have zc_10 := c_10
              rw [← Int32.toInt_inj] at zc_10
              have hpl : pt &&& lft = pt := by omega
              have hcg : zz_is gy pt mh = zz_is gz pt mh := (zz_is_congr mh (G := gz) (fun h hh hb2 => i3 h hh (zz_in_of (show pt &&& lft = pt by omega) hb2)))
              have hzp : zz_is gz pt mh = 0 := zz_oi_z (by have := hsum pt; omega) (by have := hsum pt; omega) (by rw [← hcg]; exact e_8.symm.trans c_9)
              refine lv_aload_n hx hb dX8_pays_115 rfl (lv_at hl 0 rfl) ?_
              refine lv_iload_n hx hb dX8_pays_116 rfl (lv_at hl 2 rfl) ?_
              obtain ⟨hPc, hDc⟩ := zz_sub2 (ws' := [(b 0, .inr (8, [.ref (b 1), .int (nI mt), .int (gg 2), .int (gg 3), .int (gg 4), .int (gg 5), .int (gg 6), .int (gg 7), .int (gg 8), .int (gg 9), .ref (b 11), .ref (b 12), .ref (b 13), .int (nI mc), .int (nI mh), .ref (b 16), .ref (b 17), .ref (b 18), .ref (b 19), .ref (b 20), .ref (b 21), .ref (b 22), .ref (b 23), .ref (b 24), .int (nI mf), .ref (b 26), .ref (b 27), .ref (b 28), .ref (b 29), .ref (b 30), .ref (b 31), .ref (b 32), .int (gg 32), .int (nI md), .ref (b 35), .ref (b 36), .ref (b 37), .ref (b 38), .ref (b 39), .ref (b 40), .int (nI pm), .ref (b 42), .ref (b 43), .ref (b 44), .int (gg 44), .ref (b 46), .ref (b 47), .int (gg 47), .ref (b 49)])), (b 39, .inl (cI, 8, .inl gy)), (b 42, .inl (cI, 8, .inl x1)), (b 43, .inl (cI, 8, .inl x2)), (b 44, .inl (cI, 8, .inl x3))]) hP hD [0, 5, 7, 8, 9] (by decide) rfl
              have hKc := hK.sub (tys' := [(cI, .int)]) [0] rfl
              have hFc := zz_free1 hDc hS hA
              refine va_callv (va_runV (As := [.int (nI pt)]) (rest := []) ⟨hx, hb, hml, hown, hw⟩ (m_evens l dC dI b gg mt mc mh mf md pm cI gy x1 x2 x3 pt H.size (by omega) (by omega) (hcg.trans hzp) i5 i6) ⟨callB_of 1 hw (zz_good tw_436) rfl rfl rfl (hw _ tw_184) (hw _ tw_437) (by decide +kernel) ⟨Nat.le_of_ble_eq_true rfl, Nat.le_of_ble_eq_true rfl⟩, (hw _ tw_438), (hw _ tw_439)⟩ ⟨zz_blind, va_recv hKc hPc (ci := 8) (q0 := 0) rfl rfl, zz_pre hPc hKc hDc hN⟩ rfl rfl hl.1 rfl (lv_room (Nat.le_of_ble_eq_true rfl)) dX8_pays_117 ⟨Nat.le_of_ble_eq_true rfl, Nat.le_of_ble_eq_true rfl⟩) hS (fun q _ h => hFc q h) hFc (fun u_11 t H1 locs ht hvm e_11 hB hz1 hk1 hS => ?_)
              try dsimp only at e_11
              obtain ⟨pm2, gy2, w1, w2, w3⟩ := u_11
              obtain ⟨hP1, hK1, hD1⟩ := hB
              rw [ht] at hP1
              have hK1 := va_K.moved hvm.symm hK1
              try dsimp only at e_11
              obtain ⟨hP, hD⟩ := va_join (wr := [(b 35, .inl (cI, 300, .inl mo)), (b 36, .inl (cI, 300, .inl mr)), (b 37, .inl (cI, 300, .inl my)), (b 38, .inl (cI, 300, .inl mu)), (b 40, .inl (cI, 256, .inl gq))]) (w1 := [(b 0, .inr (8, [.ref (b 1), .int (nI mt), .int (gg 2), .int (gg 3), .int (gg 4), .int (gg 5), .int (gg 6), .int (gg 7), .int (gg 8), .int (gg 9), .ref (b 11), .ref (b 12), .ref (b 13), .int (nI mc), .int (nI mh), .ref (b 16), .ref (b 17), .ref (b 18), .ref (b 19), .ref (b 20), .ref (b 21), .ref (b 22), .ref (b 23), .ref (b 24), .int (nI mf), .ref (b 26), .ref (b 27), .ref (b 28), .ref (b 29), .ref (b 30), .ref (b 31), .ref (b 32), .int (gg 32), .int (nI md), .ref (b 35), .ref (b 36), .ref (b 37), .ref (b 38), .ref (b 39), .ref (b 40), .int (nI pm2), .ref (b 42), .ref (b 43), .ref (b 44), .int (gg 44), .ref (b 46), .ref (b 47), .int (gg 47), .ref (b 49)])), (b 39, .inl (cI, 8, .inl gy2)), (b 42, .inl (cI, 8, .inl w1)), (b 43, .inl (cI, 8, .inl w2)), (b 44, .inl (cI, 8, .inl w3))]) hP hD [0, 5, 7, 8, 9] [1, 2, 3, 4, 6] rfl rfl (by decide) (by decide) hk1 hFc hP1 hD1
              clear hk1 ht hvm
              generalize H1 = H at hP hS ⊢
              obtain ⟨hP, hD⟩ := zz_ty (D := (dC, dI)) (cl := vwCl) (A := A) (H := H) [(b 35, .inl (cI, 300, .inl mo)), (b 36, .inl (cI, 300, .inl mr)), (b 37, .inl (cI, 300, .inl my)), (b 38, .inl (cI, 300, .inl mu)), (b 40, .inl (cI, 256, .inl gq)), (b 0, .inr (8, [.ref (b 1), .int (nI mt), .int (gg 2), .int (gg 3), .int (gg 4), .int (gg 5), .int (gg 6), .int (gg 7), .int (gg 8), .int (gg 9), .ref (b 11), .ref (b 12), .ref (b 13), .int (nI mc), .int (nI mh), .ref (b 16), .ref (b 17), .ref (b 18), .ref (b 19), .ref (b 20), .ref (b 21), .ref (b 22), .ref (b 23), .ref (b 24), .int (nI mf), .ref (b 26), .ref (b 27), .ref (b 28), .ref (b 29), .ref (b 30), .ref (b 31), .ref (b 32), .int (gg 32), .int (nI md), .ref (b 35), .ref (b 36), .ref (b 37), .ref (b 38), .ref (b 39), .ref (b 40), .int (nI pm2), .ref (b 42), .ref (b 43), .ref (b 44), .int (gg 44), .ref (b 46), .ref (b 47), .int (gg 47), .ref (b 49)])), (b 39, .inl (cI, 8, .inl gy2)), (b 42, .inl (cI, 8, .inl w1)), (b 43, .inl (cI, 8, .inl w2)), (b 44, .inl (cI, 8, .inl w3))] hP hD rfl
              obtain ⟨v1, v2, v3, v4⟩ := e_11
              refine lv_iload_n hx hb dX8_pays_120 rfl (lv_at hl 1 rfl) ?_
              refine lv_iload_n hx hb dX8_pays_121 rfl (lv_at hl 2 rfl) ?_
              refine lv_isub hx hb dX8_pays_122 ?_
              refine zz_seti (nI (lft - pt)) (pk_sub (by omega)) ?_
              refine lv_istore_n (lv' := [(1, .int (nI (lft - pt))), (0, .ref (b 0)), (2, .int (nI pt))]) hx hb dX8_pays_123 rfl hl (by decide) rfl (fun ls hl => ?_)
              refine lv_goto (tgt := 58) hx hb dX8_pays_124 (by decide) ?_
              exact ih_58 ((lft - pt), pm2, gy2, w1, w2, w3) ⟨by omega, zz_sub_and (by omega) hpl i2, fun h hh hb2 => (v3 h (zz_sub_in (by omega) hpl hb2).2).trans (i3 h hh (zz_sub_in (by omega) hpl hb2).1), (by rw [zz_is_sub (by omega) hpl, i4, hzp]; rfl), v4, v1⟩ (show (lft - pt) < lft from by omega) _ _ _ (hP.sub [5, 0, 1, 2, 3, 6, 4, 7, 8, 9] rfl) (hD.sub [5, 0, 1, 2, 3, 6, 4, 7, 8, 9] (by decide) rfl) hS (lv_sub hl [1, 0] rfl)
            · have zc_10 := c_10
              rw [← Int32.toInt_inj] at zc_10
              refine lv_iinc (v := (nI (pt + 1))) (lv' := [(2, .int (nI (pt + 1))), (0, .ref (b 0)), (1, .int (nI lft))]) hx hb dX8_pays_109 hl (k := 2) rfl (nI_1 _) (by decide) rfl (fun ls hl => ?_)
              refine lv_goto (tgt := 64) hx hb dX8_pays_112 (by decide) ?_
              exact ih_64 (pt + 1) ⟨by omega, zz_lt_of ip2 (fun h9 => c_10 (by rw [h9]; exact hgr))⟩ (show pw + 1 - (pt + 1) < pw + 1 - pt from by omega) _ _ _ (hP.sub [0, 1, 2, 3, 4, 5, 6, 7, 8, 9] rfl) (hD.sub [0, 1, 2, 3, 4, 5, 6, 7, 8, 9] (by decide) rfl) hS (lv_sub hl [1, 2, 0] rfl)
        · refine zz_seti 0 eb_7 ?_
          refine lv_if_eq (tgt := 109) hx hb dX8_pays_79 (by decide) (fun _ => ?_) (fun c_9 => absurd c_9 (by decide))
          refine lv_iinc (v := (nI (pt + 1))) (lv' := [(2, .int (nI (pt + 1))), (0, .ref (b 0)), (1, .int (nI lft))]) hx hb dX8_pays_109 hl (k := 2) rfl (nI_1 _) (by decide) rfl (fun ls hl => ?_)
          refine lv_goto (tgt := 64) hx hb dX8_pays_112 (by decide) ?_
          exact ih_64 (pt + 1) ⟨by omega, zz_lt_of ip2 (fun h9 => by have h8 := hq.2.2.2.1; rw [← h9, hb_7] at h8; cases h8)⟩ (show pw + 1 - (pt + 1) < pw + 1 - pt from by omega) _ _ _ (hP.sub [0, 1, 2, 3, 4, 5, 6, 7, 8, 9] rfl) (hD.sub [0, 1, 2, 3, 4, 5, 6, 7, 8, 9] (by decide) rfl) hS (lv_sub hl [1, 2, 0] rfl)
  · have zc_1 := c_1
    rw [Int32.le_iff_toInt_le] at zc_1
    try rw [zz_toInt jh (by omega)] at zc_1
    try rw [zz_toInt mh (by omega)] at zc_1
    refine lv_aload_n hx hb dX8_pays_17 rfl (lv_at hl 0 rfl) ?_
    refine va_get (D := (dC, dI)) (ci := 8) (v := .ref (b 39)) (C := RX8) (T := TX8) (N := 49) hx hb hw zz_inX8 hown hK hP 0 rfl rfl 38 (by decide) (hw _ tw_415) (fun _ h9 => h9) rfl dX8_pays_18 ?_
    refine lv_iload_n hx hb dX8_pays_21 rfl (lv_at hl 2 rfl) ?_
    refine lv_aload_n hx hb dX8_pays_22 rfl (lv_at hl 0 rfl) ?_
    refine lv_iload_n hx hb dX8_pays_23 rfl (lv_at hl 2 rfl) ?_
    obtain ⟨hPc, hDc⟩ := zz_sub2 (ws' := [(b 0, .inr (8, [.ref (b 1), .int (nI mt), .int (gg 2), .int (gg 3), .int (gg 4), .int (gg 5), .int (gg 6), .int (gg 7), .int (gg 8), .int (gg 9), .ref (b 11), .ref (b 12), .ref (b 13), .int (nI mc), .int (nI mh), .ref (b 16), .ref (b 17), .ref (b 18), .ref (b 19), .ref (b 20), .ref (b 21), .ref (b 22), .ref (b 23), .ref (b 24), .int (nI mf), .ref (b 26), .ref (b 27), .ref (b 28), .ref (b 29), .ref (b 30), .ref (b 31), .ref (b 32), .int (gg 32), .int (nI md), .ref (b 35), .ref (b 36), .ref (b 37), .ref (b 38), .ref (b 39), .ref (b 40), .int (nI 0), .ref (b 42), .ref (b 43), .ref (b 44), .int (gg 44), .ref (b 46), .ref (b 47), .int (gg 47), .ref (b 49)])), (b 35, .inl (cI, 300, .inl mo)), (b 36, .inl (cI, 300, .inl mr)), (b 37, .inl (cI, 300, .inl my)), (b 38, .inl (cI, 300, .inl mu))]) hP hD [0, 1, 2, 3, 4] (by decide) rfl
    have hKc := hK.sub (tys' := [(cI, .int)]) [0] rfl
    have hFc := zz_free0 hS hA
    refine va_calli (va_runV (As := [.int (nI jh)]) (rest := [.int (nI jh), .ref (b 39)]) ⟨hx, hb, hml, hown, hw⟩ (m_net2 l dC dI b gg mt mc mh mf md 0 cI mo mr my mu bu jh H.size (by omega) hru (by omega) (by omega)) ⟨callB_of 1 hw (zz_good tw_249) rfl rfl rfl (hw _ tw_184) (hw _ tw_250) (by decide +kernel) ⟨Nat.le_of_ble_eq_true rfl, Nat.le_of_ble_eq_true rfl⟩, (hw _ tw_251), (hw _ tw_252)⟩ ⟨zz_blind, va_recv hKc hPc (ci := 8) (q0 := 0) rfl rfl, zz_pre hPc hKc hDc hN⟩ rfl rfl hl.1 rfl (lv_room (Nat.le_of_ble_eq_true rfl)) dX8_pays_24 ⟨Nat.le_of_ble_eq_true rfl, Nat.le_of_ble_eq_true rfl⟩) hS (fun q _ h => hFc q h) hFc (fun r_12 u_12 t H1 locs ht hvm e_12 hB hz1 hk1 hS => ?_)
    try dsimp only at e_12
    have hP := zz_keep hP hk1
    clear hk1 hB ht hvm
    generalize H1 = H at hP hS ⊢
    refine va_iast hx hb hK hP hD hS 5 0 rfl rfl (vp_in_iff.mpr (by rw [zz_toInt jh (by omega)]; constructor <;> omega)) dX8_pays_27 (fun H locs hP hD hS => ?_)
    obtain ⟨hP, hD⟩ := zz_ty (D := (dC, dI)) (cl := vwCl) (A := A) (H := H) [(b 0, .inr (8, [.ref (b 1), .int (nI mt), .int (gg 2), .int (gg 3), .int (gg 4), .int (gg 5), .int (gg 6), .int (gg 7), .int (gg 8), .int (gg 9), .ref (b 11), .ref (b 12), .ref (b 13), .int (nI mc), .int (nI mh), .ref (b 16), .ref (b 17), .ref (b 18), .ref (b 19), .ref (b 20), .ref (b 21), .ref (b 22), .ref (b 23), .ref (b 24), .int (nI mf), .ref (b 26), .ref (b 27), .ref (b 28), .ref (b 29), .ref (b 30), .ref (b 31), .ref (b 32), .int (gg 32), .int (nI md), .ref (b 35), .ref (b 36), .ref (b 37), .ref (b 38), .ref (b 39), .ref (b 40), .int (nI 0), .ref (b 42), .ref (b 43), .ref (b 44), .int (gg 44), .ref (b 46), .ref (b 47), .int (gg 47), .ref (b 49)])), (b 35, .inl (cI, 300, .inl mo)), (b 36, .inl (cI, 300, .inl mr)), (b 37, .inl (cI, 300, .inl my)), (b 38, .inl (cI, 300, .inl mu)), (b 39, .inl (cI, 8, .inl (upd gz (Int32.toNatClampNeg (nI jh)) r_12))), (b 40, .inl (cI, 256, .inl gr)), (b 42, .inl (cI, 8, .inl y1)), (b 43, .inl (cI, 8, .inl y2)), (b 44, .inl (cI, 8, .inl y3))] hP hD rfl
    obtain ⟨gz2, egz2⟩ : ∃ z : Nat → Int32, z = (upd gz (Int32.toNatClampNeg (nI jh)) r_12) := ⟨_, rfl⟩
    have hP : va_P (dC, dI) vwCl [(b 0, .inr (8, [.ref (b 1), .int (nI mt), .int (gg 2), .int (gg 3), .int (gg 4), .int (gg 5), .int (gg 6), .int (gg 7), .int (gg 8), .int (gg 9), .ref (b 11), .ref (b 12), .ref (b 13), .int (nI mc), .int (nI mh), .ref (b 16), .ref (b 17), .ref (b 18), .ref (b 19), .ref (b 20), .ref (b 21), .ref (b 22), .ref (b 23), .ref (b 24), .int (nI mf), .ref (b 26), .ref (b 27), .ref (b 28), .ref (b 29), .ref (b 30), .ref (b 31), .ref (b 32), .int (gg 32), .int (nI md), .ref (b 35), .ref (b 36), .ref (b 37), .ref (b 38), .ref (b 39), .ref (b 40), .int (nI 0), .ref (b 42), .ref (b 43), .ref (b 44), .int (gg 44), .ref (b 46), .ref (b 47), .int (gg 47), .ref (b 49)])), (b 35, .inl (cI, 300, .inl mo)), (b 36, .inl (cI, 300, .inl mr)), (b 37, .inl (cI, 300, .inl my)), (b 38, .inl (cI, 300, .inl mu)), (b 39, .inl (cI, 8, .inl gz2)), (b 40, .inl (cI, 256, .inl gr)), (b 42, .inl (cI, 8, .inl y1)), (b 43, .inl (cI, 8, .inl y2)), (b 44, .inl (cI, 8, .inl y3))] H := by rw [egz2]; exact hP
    have hD : va_D A [(b 0, .inr (8, [.ref (b 1), .int (nI mt), .int (gg 2), .int (gg 3), .int (gg 4), .int (gg 5), .int (gg 6), .int (gg 7), .int (gg 8), .int (gg 9), .ref (b 11), .ref (b 12), .ref (b 13), .int (nI mc), .int (nI mh), .ref (b 16), .ref (b 17), .ref (b 18), .ref (b 19), .ref (b 20), .ref (b 21), .ref (b 22), .ref (b 23), .ref (b 24), .int (nI mf), .ref (b 26), .ref (b 27), .ref (b 28), .ref (b 29), .ref (b 30), .ref (b 31), .ref (b 32), .int (gg 32), .int (nI md), .ref (b 35), .ref (b 36), .ref (b 37), .ref (b 38), .ref (b 39), .ref (b 40), .int (nI 0), .ref (b 42), .ref (b 43), .ref (b 44), .int (gg 44), .ref (b 46), .ref (b 47), .int (gg 47), .ref (b 49)])), (b 35, .inl (cI, 300, .inl mo)), (b 36, .inl (cI, 300, .inl mr)), (b 37, .inl (cI, 300, .inl my)), (b 38, .inl (cI, 300, .inl mu)), (b 39, .inl (cI, 8, .inl gz2)), (b 40, .inl (cI, 256, .inl gr)), (b 42, .inl (cI, 8, .inl y1)), (b 43, .inl (cI, 8, .inl y2)), (b 44, .inl (cI, 8, .inl y3))] := by rw [egz2]; exact hD
    have hgj : gz2 jh = r_12 := by rw [egz2, zz_cl (by omega)]; simp only [upd, if_pos]
    refine lv_iload_n hx hb dX8_pays_28 rfl (lv_at hl 1 rfl) ?_
    refine lv_aload_n hx hb dX8_pays_29 rfl (lv_at hl 0 rfl) ?_
    refine va_get (D := (dC, dI)) (ci := 8) (v := .ref (b 39)) (C := RX8) (T := TX8) (N := 49) hx hb hw zz_inX8 hown hK hP 0 rfl rfl 38 (by decide) (hw _ tw_415) (fun _ h9 => h9) rfl dX8_pays_30 ?_
    refine lv_iload_n hx hb dX8_pays_33 rfl (lv_at hl 2 rfl) ?_
    refine va_iald hx hb hK hP 5 0 rfl rfl (vp_in_iff.mpr (by rw [zz_toInt jh (by omega)]; constructor <;> omega)) dX8_pays_34 ?_
    refine zz_seti (gz2 jh) (congrArg gz2 (zz_cl (by omega))) ?_
    refine lv_if_eq (tgt := 44) hx hb dX8_pays_35 (by decide) (fun c_13 => ?_) (fun c_13 => ?_)
    · have zc_13 := c_13
      rw [← Int32.toInt_inj] at zc_13
      try rw [show (0 : Int32).toInt = 0 from by decide] at zc_13
      refine lv_iconst (v := 0) hx hb dX8_pays_44 (by decide) ?_
      refine lv_iadd hx hb dX8_pays_45 ?_
      refine zz_seti (nI lf) (Int32.add_zero _) ?_
      refine lv_istore_n (lv' := [(1, .int (nI lf)), (0, .ref (b 0)), (2, .int (nI jh))]) hx hb dX8_pays_46 rfl hl (by decide) rfl (fun ls hl => ?_)
      refine lv_iinc (v := (nI (jh + 1))) (lv' := [(2, .int (nI (jh + 1))), (1, .int (nI lf)), (0, .ref (b 0))]) hx hb dX8_pays_47 hl (k := 2) rfl (nI_1 _) (by decide) rfl (fun ls hl => ?_)
      refine lv_goto (tgt := 9) hx hb dX8_pays_50 (by decide) ?_
      exact ih_9 ((jh + 1), lf, gz2) ⟨by omega, (by rw [egz2]; exact zz_lf_z il (hgj.symm.trans c_13) (by omega)), (by rw [egz2]; exact zz_ntu ig e_12 (by omega))⟩ (show mh - (jh + 1) < mh - jh from by omega) _ _ _ (hP.sub [0, 1, 2, 3, 4, 5, 6, 7, 8, 9] rfl) (hD.sub [0, 1, 2, 3, 4, 5, 6, 7, 8, 9] (by decide) rfl) hS (lv_sub hl [2, 1, 0] rfl)
    · have zc_13 := c_13
      rw [← Int32.toInt_inj] at zc_13
      try rw [show (0 : Int32).toInt = 0 from by decide] at zc_13
      refine lv_iconst (v := 1) hx hb dX8_pays_38 (by decide) ?_
      refine lv_iload_n hx hb dX8_pays_39 rfl (lv_at hl 2 rfl) ?_
      refine lv_ishl hx hb dX8_pays_40 ?_
      refine zz_seti (nI (2 ^ jh)) (zz_shl (by omega)) ?_
      refine lv_goto (tgt := 45) hx hb dX8_pays_41 (by decide) ?_
      refine lv_iadd hx hb dX8_pays_45 ?_
      refine zz_seti (nI (lf + (2 ^ jh))) (nI_add _ _) ?_
      refine lv_istore_n (lv' := [(1, .int (nI (lf + (2 ^ jh)))), (0, .ref (b 0)), (2, .int (nI jh))]) hx hb dX8_pays_46 rfl hl (by decide) rfl (fun ls hl => ?_)
      refine lv_iinc (v := (nI (jh + 1))) (lv' := [(2, .int (nI (jh + 1))), (1, .int (nI (lf + (2 ^ jh)))), (0, .ref (b 0))]) hx hb dX8_pays_47 hl (k := 2) rfl (nI_1 _) (by decide) rfl (fun ls hl => ?_)
      refine lv_goto (tgt := 9) hx hb dX8_pays_50 (by decide) ?_
      exact ih_9 ((jh + 1), (lf + (2 ^ jh)), gz2) ⟨by omega, (by rw [egz2]; exact zz_lf_n il (fun z => c_13 (hgj.trans z)) (by omega)), (by rw [egz2]; exact zz_ntu ig e_12 (by omega))⟩ (show mh - (jh + 1) < mh - jh from by omega) _ _ _ (hP.sub [0, 1, 2, 3, 4, 5, 6, 7, 8, 9] rfl) (hD.sub [0, 1, 2, 3, 4, 5, 6, 7, 8, 9] (by decide) rfl) hS (lv_sub hl [2, 1, 0] rfl)
set_option maxHeartbeats 4000000 in
set_option maxRecDepth 100000 in
theorem m_even (l : Launch) (dC : Nat → ClassId) (dI : Nat → Nat → Nat) (b : Nat → Nat) (gg : Nat → Int32) (mt : Nat) (mc : Nat) (mh : Nat) (mf : Nat) (md : Nat) (cI : ClassId) (mo : Nat → Int32) (mr : Nat → Int32) (my : Nat → Int32) (mu : Nat → Int32) (nz : Nat → Int32) (gr : Nat → Int32) (y1 : Nat → Int32) (y2 : Nat → Int32) (y3 : Nat → Int32) (bu : Int) (sz : Nat) (hmh : mh ≤ 8) (hmd : md ≤ 300) (hrd : zz_rg mo md 0 ((mh : Int) - 1)) (hrc : zz_rg mr md 0 ((mh : Int) - 1)) (hru : zz_rg mu md 0 bu) (hbu : 0 ≤ bu ∧ bu ≤ 3100000) : Met l yX8_even (zz_w yX8_even cX8_even 1 (some .int)) ({ frames := 3, cells := 0, slots := 0, locals := 70 }) (va_Pc [.ref (b 0)] (zz_B (dC, dI) sz [(b 0, .inr (8, [.ref (b 1), .int (nI mt), .int (gg 2), .int (gg 3), .int (gg 4), .int (gg 5), .int (gg 6), .int (gg 7), .int (gg 8), .int (gg 9), .ref (b 11), .ref (b 12), .ref (b 13), .int (nI mc), .int (nI mh), .ref (b 16), .ref (b 17), .ref (b 18), .ref (b 19), .ref (b 20), .ref (b 21), .ref (b 22), .ref (b 23), .ref (b 24), .int (nI mf), .ref (b 26), .ref (b 27), .ref (b 28), .ref (b 29), .ref (b 30), .ref (b 31), .ref (b 32), .int (gg 32), .int (nI md), .ref (b 35), .ref (b 36), .ref (b 37), .ref (b 38), .ref (b 39), .ref (b 40), .int (gg 40), .ref (b 42), .ref (b 43), .ref (b 44), .int (gg 44), .ref (b 46), .ref (b 47), .int (gg 47), .ref (b 49)])), (b 35, .inl (cI, 300, .inl mo)), (b 36, .inl (cI, 300, .inl mr)), (b 37, .inl (cI, 300, .inl my)), (b 38, .inl (cI, 300, .inl mu)), (b 39, .inl (cI, 8, .inl nz)), (b 40, .inl (cI, 256, .inl gr)), (b 42, .inl (cI, 8, .inl y1)), (b 43, .inl (cI, 8, .inl y2)), (b 44, .inl (cI, 8, .inl y3))] [(cI, .int)])) (va_Qi (fun (_ : Int32) (u : (Nat → Int32) × (Nat → Int32) × (Nat → Int32) × (Nat → Int32) × (Nat → Int32) × (Nat → Int32)) => match u with | (h2, _, _, _, _, _) => zz_gl h2 gg) (fun (u : (Nat → Int32) × (Nat → Int32) × (Nat → Int32) × (Nat → Int32) × (Nat → Int32) × (Nat → Int32)) (t : State) => match u with | (u0, u1, u2, u3, u4, u5) => va_P (dC, dI) vwCl [(b 0, .inr (8, [.ref (b 1), .int (nI mt), .int (u0 2), .int (u0 3), .int (u0 4), .int (u0 5), .int (u0 6), .int (u0 7), .int (u0 8), .int (u0 9), .ref (b 11), .ref (b 12), .ref (b 13), .int (nI mc), .int (nI mh), .ref (b 16), .ref (b 17), .ref (b 18), .ref (b 19), .ref (b 20), .ref (b 21), .ref (b 22), .ref (b 23), .ref (b 24), .int (nI mf), .ref (b 26), .ref (b 27), .ref (b 28), .ref (b 29), .ref (b 30), .ref (b 31), .ref (b 32), .int (u0 32), .int (nI 0), .ref (b 35), .ref (b 36), .ref (b 37), .ref (b 38), .ref (b 39), .ref (b 40), .int (u0 40), .ref (b 42), .ref (b 43), .ref (b 44), .int (u0 44), .ref (b 46), .ref (b 47), .int (u0 47), .ref (b 49)])), (b 35, .inl (cI, 300, .inl mo)), (b 36, .inl (cI, 300, .inl mr)), (b 37, .inl (cI, 300, .inl my)), (b 38, .inl (cI, 300, .inl mu)), (b 39, .inl (cI, 8, .inl u1)), (b 40, .inl (cI, 256, .inl u2)), (b 42, .inl (cI, 8, .inl u3)), (b 43, .inl (cI, 8, .inl u4)), (b 44, .inl (cI, 8, .inl u5))] t.heap ∧ va_K (dC, dI) vwCl [(cI, .int)] t ∧ va_D (va_A [(b 0, .inr (8, [.ref (b 1), .int (nI mt), .int (gg 2), .int (gg 3), .int (gg 4), .int (gg 5), .int (gg 6), .int (gg 7), .int (gg 8), .int (gg 9), .ref (b 11), .ref (b 12), .ref (b 13), .int (nI mc), .int (nI mh), .ref (b 16), .ref (b 17), .ref (b 18), .ref (b 19), .ref (b 20), .ref (b 21), .ref (b 22), .ref (b 23), .ref (b 24), .int (nI mf), .ref (b 26), .ref (b 27), .ref (b 28), .ref (b 29), .ref (b 30), .ref (b 31), .ref (b 32), .int (gg 32), .int (nI md), .ref (b 35), .ref (b 36), .ref (b 37), .ref (b 38), .ref (b 39), .ref (b 40), .int (gg 40), .ref (b 42), .ref (b 43), .ref (b 44), .int (gg 44), .ref (b 46), .ref (b 47), .int (gg 47), .ref (b 49)])), (b 35, .inl (cI, 300, .inl mo)), (b 36, .inl (cI, 300, .inl mr)), (b 37, .inl (cI, 300, .inl my)), (b 38, .inl (cI, 300, .inl mu)), (b 39, .inl (cI, 8, .inl nz)), (b 40, .inl (cI, 256, .inl gr)), (b 42, .inl (cI, 8, .inl y1)), (b 43, .inl (cI, 8, .inl y2)), (b 44, .inl (cI, 8, .inl y3))] sz) [(b 0, .inr (8, [.ref (b 1), .int (nI mt), .int (u0 2), .int (u0 3), .int (u0 4), .int (u0 5), .int (u0 6), .int (u0 7), .int (u0 8), .int (u0 9), .ref (b 11), .ref (b 12), .ref (b 13), .int (nI mc), .int (nI mh), .ref (b 16), .ref (b 17), .ref (b 18), .ref (b 19), .ref (b 20), .ref (b 21), .ref (b 22), .ref (b 23), .ref (b 24), .int (nI mf), .ref (b 26), .ref (b 27), .ref (b 28), .ref (b 29), .ref (b 30), .ref (b 31), .ref (b 32), .int (u0 32), .int (nI 0), .ref (b 35), .ref (b 36), .ref (b 37), .ref (b 38), .ref (b 39), .ref (b 40), .int (u0 40), .ref (b 42), .ref (b 43), .ref (b 44), .int (u0 44), .ref (b 46), .ref (b 47), .int (u0 47), .ref (b 49)])), (b 35, .inl (cI, 300, .inl mo)), (b 36, .inl (cI, 300, .inl mr)), (b 37, .inl (cI, 300, .inl my)), (b 38, .inl (cI, 300, .inl mu)), (b 39, .inl (cI, 8, .inl u1)), (b 40, .inl (cI, 256, .inl u2)), (b 42, .inl (cI, 8, .inl u3)), (b 43, .inl (cI, 8, .inl u4)), (b 44, .inl (cI, 8, .inl u5))]) (va_A [(b 0, .inr (8, [.ref (b 1), .int (nI mt), .int (gg 2), .int (gg 3), .int (gg 4), .int (gg 5), .int (gg 6), .int (gg 7), .int (gg 8), .int (gg 9), .ref (b 11), .ref (b 12), .ref (b 13), .int (nI mc), .int (nI mh), .ref (b 16), .ref (b 17), .ref (b 18), .ref (b 19), .ref (b 20), .ref (b 21), .ref (b 22), .ref (b 23), .ref (b 24), .int (nI mf), .ref (b 26), .ref (b 27), .ref (b 28), .ref (b 29), .ref (b 30), .ref (b 31), .ref (b 32), .int (gg 32), .int (nI md), .ref (b 35), .ref (b 36), .ref (b 37), .ref (b 38), .ref (b 39), .ref (b 40), .int (gg 40), .ref (b 42), .ref (b 43), .ref (b 44), .int (gg 44), .ref (b 46), .ref (b 47), .int (gg 47), .ref (b 49)])), (b 35, .inl (cI, 300, .inl mo)), (b 36, .inl (cI, 300, .inl mr)), (b 37, .inl (cI, 300, .inl my)), (b 38, .inl (cI, 300, .inl mu)), (b 39, .inl (cI, 8, .inl nz)), (b 40, .inl (cI, 256, .inl gr)), (b 42, .inl (cI, 8, .inl y1)), (b 43, .inl (cI, 8, .inl y2)), (b 44, .inl (cI, 8, .inl y3))] sz)) 0 0 (va_A [(b 0, .inr (8, [.ref (b 1), .int (nI mt), .int (gg 2), .int (gg 3), .int (gg 4), .int (gg 5), .int (gg 6), .int (gg 7), .int (gg 8), .int (gg 9), .ref (b 11), .ref (b 12), .ref (b 13), .int (nI mc), .int (nI mh), .ref (b 16), .ref (b 17), .ref (b 18), .ref (b 19), .ref (b 20), .ref (b 21), .ref (b 22), .ref (b 23), .ref (b 24), .int (nI mf), .ref (b 26), .ref (b 27), .ref (b 28), .ref (b 29), .ref (b 30), .ref (b 31), .ref (b 32), .int (gg 32), .int (nI md), .ref (b 35), .ref (b 36), .ref (b 37), .ref (b 38), .ref (b 39), .ref (b 40), .int (gg 40), .ref (b 42), .ref (b 43), .ref (b 44), .int (gg 44), .ref (b 46), .ref (b 47), .int (gg 47), .ref (b 49)])), (b 35, .inl (cI, 300, .inl mo)), (b 36, .inl (cI, 300, .inl mr)), (b 37, .inl (cI, 300, .inl my)), (b 38, .inl (cI, 300, .inl mu)), (b 39, .inl (cI, 8, .inl nz)), (b 40, .inl (cI, 256, .inl gr)), (b 42, .inl (cI, 8, .inl y1)), (b 43, .inl (cI, 8, .inl y2)), (b 44, .inl (cI, 8, .inl y3))] sz) := by
  refine Met.ofW (cc := cX8_even) (maxL := 1) (ret := (some .int)) (by decide) rfl ?_
  intro p e s m args below meth c s₁ B hml hv
  obtain ⟨rfl, hsz, hP, hK, hD0, hN⟩ := hv
  have hx := B.exec
  have hb := B.bytes
  have hr := B.returns
  have hts := atoms_spec (ws := zz_w yX8_even cX8_even 1 (some .int)) B.pre
  have hw : ∀ w ∈ zz_all, w.before _ s = true := fun w h => hts w (List.mem_cons_of_mem _ h)
  have hown : s.vm.findClass RX8 = some m.cls := findClass_of_methodNamed B.named
  have hlocks := B.notSynchronized
  subst hsz
  have hD := hD0.self (sz := s.heap.size)
  generalize hAe : va_A [(b 0, .inr (8, [.ref (b 1), .int (nI mt), .int (gg 2), .int (gg 3), .int (gg 4), .int (gg 5), .int (gg 6), .int (gg 7), .int (gg 8), .int (gg 9), .ref (b 11), .ref (b 12), .ref (b 13), .int (nI mc), .int (nI mh), .ref (b 16), .ref (b 17), .ref (b 18), .ref (b 19), .ref (b 20), .ref (b 21), .ref (b 22), .ref (b 23), .ref (b 24), .int (nI mf), .ref (b 26), .ref (b 27), .ref (b 28), .ref (b 29), .ref (b 30), .ref (b 31), .ref (b 32), .int (gg 32), .int (nI md), .ref (b 35), .ref (b 36), .ref (b 37), .ref (b 38), .ref (b 39), .ref (b 40), .int (gg 40), .ref (b 42), .ref (b 43), .ref (b 44), .int (gg 44), .ref (b 46), .ref (b 47), .int (gg 47), .ref (b 49)])), (b 35, .inl (cI, 300, .inl mo)), (b 36, .inl (cI, 300, .inl mr)), (b 37, .inl (cI, 300, .inl my)), (b 38, .inl (cI, 300, .inl mu)), (b 39, .inl (cI, 8, .inl nz)), (b 40, .inl (cI, 256, .inl gr)), (b 42, .inl (cI, 8, .inl y1)), (b 43, .inl (cI, 8, .inl y2)), (b 44, .inl (cI, 8, .inl y3))] s.heap.size = A at hD ⊢
  have hA : ∀ q : Nat, s.heap.size ≤ q → A q := fun q h => by rw [← hAe]; exact Or.inr h
  have hS : va_S A s.heap s.heap [] := va_S.rf
  have hP : va_P (dC, dI) vwCl [(b 0, .inr (8, [.ref (b 1), .int (nI mt), .int (gg 2), .int (gg 3), .int (gg 4), .int (gg 5), .int (gg 6), .int (gg 7), .int (gg 8), .int (gg 9), .ref (b 11), .ref (b 12), .ref (b 13), .int (nI mc), .int (nI mh), .ref (b 16), .ref (b 17), .ref (b 18), .ref (b 19), .ref (b 20), .ref (b 21), .ref (b 22), .ref (b 23), .ref (b 24), .int (nI mf), .ref (b 26), .ref (b 27), .ref (b 28), .ref (b 29), .ref (b 30), .ref (b 31), .ref (b 32), .int (gg 32), .int (nI md), .ref (b 35), .ref (b 36), .ref (b 37), .ref (b 38), .ref (b 39), .ref (b 40), .int (gg 40), .ref (b 42), .ref (b 43), .ref (b 44), .int (gg 44), .ref (b 46), .ref (b 47), .int (gg 47), .ref (b 49)])), (b 35, .inl (cI, 300, .inl mo)), (b 36, .inl (cI, 300, .inl mr)), (b 37, .inl (cI, 300, .inl my)), (b 38, .inl (cI, 300, .inl mu)), (b 39, .inl (cI, 8, .inl nz)), (b 40, .inl (cI, 256, .inl gr)), (b 42, .inl (cI, 8, .inl y1)), (b 43, .inl (cI, 8, .inl y2)), (b 44, .inl (cI, 8, .inl y3))] s.heap := hP
  have hl := lv_entry ([.ref (b 0)]) (n := 1) (Nat.le_of_ble_eq_true rfl)
  rw [lg_entry_eq]
  generalize (lg_sl ([.ref (b 0)]) ++ List.replicate (1 - (lg_sl ([.ref (b 0)])).length) Slot.unset).toArray = ls at hl ⊢
  have hl : lv_has ls 1 [(0, .ref (b 0))] := hl
  refine lv_aload_n hx hb dX8_even_0 rfl (lv_at hl 0 rfl) ?_
  obtain ⟨hPc, hDc⟩ := zz_sub2 (ws' := [(b 0, .inr (8, [.ref (b 1), .int (nI mt), .int (gg 2), .int (gg 3), .int (gg 4), .int (gg 5), .int (gg 6), .int (gg 7), .int (gg 8), .int (gg 9), .ref (b 11), .ref (b 12), .ref (b 13), .int (nI mc), .int (nI mh), .ref (b 16), .ref (b 17), .ref (b 18), .ref (b 19), .ref (b 20), .ref (b 21), .ref (b 22), .ref (b 23), .ref (b 24), .int (nI mf), .ref (b 26), .ref (b 27), .ref (b 28), .ref (b 29), .ref (b 30), .ref (b 31), .ref (b 32), .int (gg 32), .int (nI md), .ref (b 35), .ref (b 36), .ref (b 37), .ref (b 38), .ref (b 39), .ref (b 40), .int (gg 40), .ref (b 42), .ref (b 43), .ref (b 44), .int (gg 44), .ref (b 46), .ref (b 47), .int (gg 47), .ref (b 49)])), (b 35, .inl (cI, 300, .inl mo)), (b 36, .inl (cI, 300, .inl mr)), (b 37, .inl (cI, 300, .inl my)), (b 38, .inl (cI, 300, .inl mu)), (b 39, .inl (cI, 8, .inl nz)), (b 40, .inl (cI, 256, .inl gr)), (b 42, .inl (cI, 8, .inl y1)), (b 43, .inl (cI, 8, .inl y2)), (b 44, .inl (cI, 8, .inl y3))]) hP hD [0, 1, 2, 3, 4, 5, 6, 7, 8, 9] (by decide) rfl
  have hKc := hK.sub (tys' := [(cI, .int)]) [0] rfl
  have hFc := zz_free1 hDc hS hA
  refine va_callv (va_runV (As := []) (rest := []) ⟨hx, hb, hml, hown, hw⟩ (m_pays l dC dI b gg mt mc mh mf md cI mo mr my mu nz gr y1 y2 y3 bu s.heap.size (by omega) (by omega) hrd hrc hru (by omega)) ⟨callB_of 0 hw (zz_good tw_440) rfl rfl rfl (hw _ tw_184) (hw _ tw_441) (by decide +kernel) ⟨Nat.le_of_ble_eq_true rfl, Nat.le_of_ble_eq_true rfl⟩, (hw _ tw_442), (hw _ tw_443)⟩ ⟨zz_blind, va_recv hKc hPc (ci := 8) (q0 := 0) rfl rfl, zz_pre hPc hKc hDc hN⟩ rfl rfl hl.1 rfl (lv_room (Nat.le_of_ble_eq_true rfl)) dX8_even_1 ⟨Nat.le_of_ble_eq_true rfl, Nat.le_of_ble_eq_true rfl⟩) hS (fun q _ h => hFc q h) hFc (fun u_1 t H1 locs ht hvm e_1 hB hz1 hk1 hS => ?_)
  try dsimp only at e_1
  obtain ⟨v_1_0, v_1_1, v_1_2, v_1_3, v_1_4, v_1_5⟩ := u_1
  obtain ⟨hP1, hK1, hD1⟩ := hB
  rw [ht] at hP1
  have hK1 := va_K.moved hvm.symm hK1
  try dsimp only at e_1
  obtain ⟨hP, hD⟩ := va_join (wr := []) (w1 := [(b 0, .inr (8, [.ref (b 1), .int (nI mt), .int (gg 2), .int (gg 3), .int (gg 4), .int (gg 5), .int (gg 6), .int (gg 7), .int (gg 8), .int (gg 9), .ref (b 11), .ref (b 12), .ref (b 13), .int (nI mc), .int (nI mh), .ref (b 16), .ref (b 17), .ref (b 18), .ref (b 19), .ref (b 20), .ref (b 21), .ref (b 22), .ref (b 23), .ref (b 24), .int (nI mf), .ref (b 26), .ref (b 27), .ref (b 28), .ref (b 29), .ref (b 30), .ref (b 31), .ref (b 32), .int (gg 32), .int (nI md), .ref (b 35), .ref (b 36), .ref (b 37), .ref (b 38), .ref (b 39), .ref (b 40), .int (nI v_1_0), .ref (b 42), .ref (b 43), .ref (b 44), .int (gg 44), .ref (b 46), .ref (b 47), .int (gg 47), .ref (b 49)])), (b 35, .inl (cI, 300, .inl mo)), (b 36, .inl (cI, 300, .inl mr)), (b 37, .inl (cI, 300, .inl my)), (b 38, .inl (cI, 300, .inl mu)), (b 39, .inl (cI, 8, .inl v_1_1)), (b 40, .inl (cI, 256, .inl v_1_2)), (b 42, .inl (cI, 8, .inl v_1_3)), (b 43, .inl (cI, 8, .inl v_1_4)), (b 44, .inl (cI, 8, .inl v_1_5))]) hP hD [0, 1, 2, 3, 4, 5, 6, 7, 8, 9] [] rfl rfl (by decide) (by decide) hk1 hFc hP1 hD1
  clear hk1 ht hvm
  generalize H1 = H at hP hS ⊢
  obtain ⟨hP, hD⟩ := zz_ty (D := (dC, dI)) (cl := vwCl) (A := A) (H := H) [(b 0, .inr (8, [.ref (b 1), .int (nI mt), .int (gg 2), .int (gg 3), .int (gg 4), .int (gg 5), .int (gg 6), .int (gg 7), .int (gg 8), .int (gg 9), .ref (b 11), .ref (b 12), .ref (b 13), .int (nI mc), .int (nI mh), .ref (b 16), .ref (b 17), .ref (b 18), .ref (b 19), .ref (b 20), .ref (b 21), .ref (b 22), .ref (b 23), .ref (b 24), .int (nI mf), .ref (b 26), .ref (b 27), .ref (b 28), .ref (b 29), .ref (b 30), .ref (b 31), .ref (b 32), .int (gg 32), .int (nI md), .ref (b 35), .ref (b 36), .ref (b 37), .ref (b 38), .ref (b 39), .ref (b 40), .int (nI v_1_0), .ref (b 42), .ref (b 43), .ref (b 44), .int (gg 44), .ref (b 46), .ref (b 47), .int (gg 47), .ref (b 49)])), (b 35, .inl (cI, 300, .inl mo)), (b 36, .inl (cI, 300, .inl mr)), (b 37, .inl (cI, 300, .inl my)), (b 38, .inl (cI, 300, .inl mu)), (b 39, .inl (cI, 8, .inl v_1_1)), (b 40, .inl (cI, 256, .inl v_1_2)), (b 42, .inl (cI, 8, .inl v_1_3)), (b 43, .inl (cI, 8, .inl v_1_4)), (b 44, .inl (cI, 8, .inl v_1_5))] hP hD rfl
  refine lv_aload_n hx hb dX8_even_4 rfl (lv_at hl 0 rfl) ?_
  refine lv_iconst (v := 0) hx hb dX8_even_5 (by decide) ?_
  refine va_put (D := (dC, dI)) (ci := 8) (v := .int 0) (ty := .int) (C := RX8) (T := TX8) (N := 49) hx hb hw zz_inX8 tyX8 tyX8_ok nmX8 hown hK hP hD hS 0 rfl rfl 33 (by decide) (hw _ tw_206) (fun _ h9 => h9) rfl (by decide +kernel) rfl rfl (Nat.le_of_ble_eq_true rfl) dX8_even_6 (fun H locs hP hD hS => ?_)
  obtain ⟨hP, hD⟩ := zz_ty (D := (dC, dI)) (cl := vwCl) (A := A) (H := H) [(b 0, .inr (8, [.ref (b 1), .int (nI mt), .int (gg 2), .int (gg 3), .int (gg 4), .int (gg 5), .int (gg 6), .int (gg 7), .int (gg 8), .int (gg 9), .ref (b 11), .ref (b 12), .ref (b 13), .int (nI mc), .int (nI mh), .ref (b 16), .ref (b 17), .ref (b 18), .ref (b 19), .ref (b 20), .ref (b 21), .ref (b 22), .ref (b 23), .ref (b 24), .int (nI mf), .ref (b 26), .ref (b 27), .ref (b 28), .ref (b 29), .ref (b 30), .ref (b 31), .ref (b 32), .int (gg 32), .int 0, .ref (b 35), .ref (b 36), .ref (b 37), .ref (b 38), .ref (b 39), .ref (b 40), .int (nI v_1_0), .ref (b 42), .ref (b 43), .ref (b 44), .int (gg 44), .ref (b 46), .ref (b 47), .int (gg 47), .ref (b 49)])), (b 35, .inl (cI, 300, .inl mo)), (b 36, .inl (cI, 300, .inl mr)), (b 37, .inl (cI, 300, .inl my)), (b 38, .inl (cI, 300, .inl mu)), (b 39, .inl (cI, 8, .inl v_1_1)), (b 40, .inl (cI, 256, .inl v_1_2)), (b 42, .inl (cI, 8, .inl v_1_3)), (b 43, .inl (cI, 8, .inl v_1_4)), (b 44, .inl (cI, 8, .inl v_1_5))] hP hD rfl
  refine lv_aload_n hx hb dX8_even_9 rfl (lv_at hl 0 rfl) ?_
  refine va_get (D := (dC, dI)) (ci := 8) (v := .int (nI v_1_0)) (C := RX8) (T := TX8) (N := 49) hx hb hw zz_inX8 hown hK hP 0 rfl rfl 40 (by decide) (hw _ tw_429) (fun _ h9 => h9) rfl dX8_even_10 ?_
  obtain ⟨hP9, hD9⟩ := zz_sub2 (ws' := [(b 0, .inr (8, [.ref (b 1), .int (nI mt), .int (gg 2), .int (gg 3), .int (gg 4), .int (gg 5), .int (gg 6), .int (gg 7), .int (gg 8), .int (gg 9), .ref (b 11), .ref (b 12), .ref (b 13), .int (nI mc), .int (nI mh), .ref (b 16), .ref (b 17), .ref (b 18), .ref (b 19), .ref (b 20), .ref (b 21), .ref (b 22), .ref (b 23), .ref (b 24), .int (nI mf), .ref (b 26), .ref (b 27), .ref (b 28), .ref (b 29), .ref (b 30), .ref (b 31), .ref (b 32), .int (gg 32), .int 0, .ref (b 35), .ref (b 36), .ref (b 37), .ref (b 38), .ref (b 39), .ref (b 40), .int (nI v_1_0), .ref (b 42), .ref (b 43), .ref (b 44), .int (gg 44), .ref (b 46), .ref (b 47), .int (gg 47), .ref (b 49)])), (b 35, .inl (cI, 300, .inl mo)), (b 36, .inl (cI, 300, .inl mr)), (b 37, .inl (cI, 300, .inl my)), (b 38, .inl (cI, 300, .inl mu)), (b 39, .inl (cI, 8, .inl v_1_1)), (b 40, .inl (cI, 256, .inl v_1_2)), (b 42, .inl (cI, 8, .inl v_1_3)), (b 43, .inl (cI, 8, .inl v_1_4)), (b 44, .inl (cI, 8, .inl v_1_5))]) hP hD [0, 1, 2, 3, 4, 5, 6, 7, 8, 9] (by decide) rfl
  have hK9 := hK.sub (tys' := [(cI, .int)]) [0] rfl
  exact W.iret (v := (nI v_1_0)) hx hb hr (fun t ht hW => ⟨⟨(nI v_1_0), ((fun j => ([0, 0, (gg 2), (gg 3), (gg 4), (gg 5), (gg 6), (gg 7), (gg 8), (gg 9), 0, 0, 0, 0, 0, 0, 0, 0, 0, 0, 0, 0, 0, 0, 0, 0, 0, 0, 0, 0, 0, 0, (gg 32), 0, 0, 0, 0, 0, 0, 0, (nI v_1_0), 0, 0, 0, (gg 44), 0, 0, (gg 47), 0] : List Int32).getD j 0), v_1_1, v_1_2, v_1_3, v_1_4, v_1_5), rfl, ⟨⟨rfl, rfl, rfl⟩, rfl⟩, by rw [ht]; exact hP9, va_K.moved hW.alike hK9, hD9⟩, hS.F ht⟩) hS.2.2 dX8_even_13
