theorem tw_396 : Cond.methodLink RX0 28 arraycopyName ∈ zz_all := zz_m1 122 rfl rfl
theorem tw_397 : Cond.native arraycopyName ∈ zz_all := zz_m1 124 rfl rfl
theorem tw_398 : Cond.static arraycopyName ∈ zz_all := zz_m1 123 rfl rfl
theorem tw_399 : Cond.initialized "java/lang/System" ∈ zz_all := zz_m1 6 rfl rfl
theorem tw_400 : Cond.fieldLink RX0 9 "HandsReturned$Custom" "told" "[I" ∈ zz_all := zz_m1 125 rfl rfl
theorem tw_401 : Cond.code yX0_note cX0_note 3 none ∈ zz_all := zz_m2 202 rfl rfl
theorem tw_402 : Cond.methodLink RX0 59 yX0_note ∈ zz_all := zz_m2 199 rfl rfl
theorem tw_403 : Cond.instanceMethod yX0_note ∈ zz_all := zz_m2 201 rfl rfl
theorem tw_404 : Cond.selects RX0 yX0_note yX0_note ∈ zz_all := zz_ms 7 rfl rfl
theorem tw_405 : Cond.code yX0_beginsToken cX0_beginsToken 3 (some .boolean) ∈ zz_all := zz_m2 104 rfl rfl
theorem tw_406 : Cond.methodLink RX0 51 yX0_beginsToken ∈ zz_all := zz_m2 102 rfl rfl
theorem tw_407 : Cond.static yX0_beginsToken ∈ zz_all := zz_m2 103 rfl rfl
theorem tw_408 : Cond.code yX0_takeToken cX0_takeToken 3 (some .int) ∈ zz_all := zz_m2 115 rfl rfl
theorem tw_409 : Cond.methodLink RX0 55 yX0_takeToken ∈ zz_all := zz_m2 112 rfl rfl
theorem tw_410 : Cond.instanceMethod yX0_takeToken ∈ zz_all := zz_m2 114 rfl rfl
theorem tw_411 : Cond.selects RX0 yX0_takeToken yX0_takeToken ∈ zz_all := zz_ms 4 rfl rfl
theorem tw_412 : Cond.code yX0_read cX0_read 3 (some .int) ∈ zz_all := zz_m2 101 rfl rfl
theorem tw_413 : Cond.instanceMethod yX0_read ∈ zz_all := zz_m2 100 rfl rfl
theorem tw_414 : Cond.selects RX0 yX0_read yX0_read ∈ zz_all := zz_ms 2 rfl rfl
theorem zy_b33xu_0 : decode cX0_read 0 = .ok (.getstatic 25, 3) ∧ decode cX0_read 3 = .ok (.iconst 0, 1) ∧ decode cX0_read 4 = .ok (.aload_n 0, 1) ∧ decode cX0_read 5 = .ok (.getfield 15, 3) ∧ decode cX0_read 8 = .ok (.iconst 0, 1) ∧ decode cX0_read 9 = .ok (.bipush 7, 2) ∧ decode cX0_read 11 = .ok (.invokestatic 28, 3) ∧ decode cX0_read 14 = .ok (.aload_n 0, 1) := by decide +kernel
theorem dX0_read_0 : decode cX0_read 0 = .ok (.getstatic 25, 3) := zy_b33xu_0.1
theorem dX0_read_3 : decode cX0_read 3 = .ok (.iconst 0, 1) := zy_b33xu_0.2.1
theorem dX0_read_4 : decode cX0_read 4 = .ok (.aload_n 0, 1) := zy_b33xu_0.2.2.1
theorem dX0_read_5 : decode cX0_read 5 = .ok (.getfield 15, 3) := zy_b33xu_0.2.2.2.1
theorem dX0_read_8 : decode cX0_read 8 = .ok (.iconst 0, 1) := zy_b33xu_0.2.2.2.2.1
theorem dX0_read_9 : decode cX0_read 9 = .ok (.bipush 7, 2) := zy_b33xu_0.2.2.2.2.2.1
theorem dX0_read_11 : decode cX0_read 11 = .ok (.invokestatic 28, 3) := zy_b33xu_0.2.2.2.2.2.2.1
theorem dX0_read_14 : decode cX0_read 14 = .ok (.aload_n 0, 1) := zy_b33xu_0.2.2.2.2.2.2.2
theorem zy_b33xu_1 : decode cX0_read 15 = .ok (.iconst 0, 1) ∧ decode cX0_read 16 = .ok (.putfield 18, 3) ∧ decode cX0_read 19 = .ok (.aload_n 0, 1) ∧ decode cX0_read 20 = .ok (.iconst (-1), 1) ∧ decode cX0_read 21 = .ok (.putfield 22, 3) ∧ decode cX0_read 24 = .ok (.aload_n 0, 1) ∧ decode cX0_read 25 = .ok (.iconst 1, 1) ∧ decode cX0_read 26 = .ok (.putfield 34, 3) := by decide +kernel
theorem dX0_read_15 : decode cX0_read 15 = .ok (.iconst 0, 1) := zy_b33xu_1.1
theorem dX0_read_16 : decode cX0_read 16 = .ok (.putfield 18, 3) := zy_b33xu_1.2.1
theorem dX0_read_19 : decode cX0_read 19 = .ok (.aload_n 0, 1) := zy_b33xu_1.2.2.1
theorem dX0_read_20 : decode cX0_read 20 = .ok (.iconst (-1), 1) := zy_b33xu_1.2.2.2.1
theorem dX0_read_21 : decode cX0_read 21 = .ok (.putfield 22, 3) := zy_b33xu_1.2.2.2.2.1
theorem dX0_read_24 : decode cX0_read 24 = .ok (.aload_n 0, 1) := zy_b33xu_1.2.2.2.2.2.1
theorem dX0_read_25 : decode cX0_read 25 = .ok (.iconst 1, 1) := zy_b33xu_1.2.2.2.2.2.2.1
theorem dX0_read_26 : decode cX0_read 26 = .ok (.putfield 34, 3) := zy_b33xu_1.2.2.2.2.2.2.2
theorem zy_b33xu_2 : decode cX0_read 29 = .ok (.aload_n 0, 1) ∧ decode cX0_read 30 = .ok (.iconst (-1), 1) ∧ decode cX0_read 31 = .ok (.putfield 37, 3) ∧ decode cX0_read 34 = .ok (.aload_n 0, 1) ∧ decode cX0_read 35 = .ok (.iconst 0, 1) ∧ decode cX0_read 36 = .ok (.putfield 40, 3) ∧ decode cX0_read 39 = .ok (.aload_n 0, 1) ∧ decode cX0_read 40 = .ok (.iconst 0, 1) := by decide +kernel
theorem dX0_read_29 : decode cX0_read 29 = .ok (.aload_n 0, 1) := zy_b33xu_2.1
theorem dX0_read_30 : decode cX0_read 30 = .ok (.iconst (-1), 1) := zy_b33xu_2.2.1
theorem dX0_read_31 : decode cX0_read 31 = .ok (.putfield 37, 3) := zy_b33xu_2.2.2.1
theorem dX0_read_34 : decode cX0_read 34 = .ok (.aload_n 0, 1) := zy_b33xu_2.2.2.2.1
theorem dX0_read_35 : decode cX0_read 35 = .ok (.iconst 0, 1) := zy_b33xu_2.2.2.2.2.1
theorem dX0_read_36 : decode cX0_read 36 = .ok (.putfield 40, 3) := zy_b33xu_2.2.2.2.2.2.1
theorem dX0_read_39 : decode cX0_read 39 = .ok (.aload_n 0, 1) := zy_b33xu_2.2.2.2.2.2.2.1
theorem dX0_read_40 : decode cX0_read 40 = .ok (.iconst 0, 1) := zy_b33xu_2.2.2.2.2.2.2.2
theorem zy_b33xu_3 : decode cX0_read 41 = .ok (.putfield 43, 3) ∧ decode cX0_read 44 = .ok (.iconst 0, 1) ∧ decode cX0_read 45 = .ok (.istore_n 2, 1) ∧ decode cX0_read 46 = .ok (.iload_n 2, 1) ∧ decode cX0_read 47 = .ok (.aload_n 1, 1) ∧ decode cX0_read 48 = .ok (.getfield 46, 3) ∧ decode cX0_read 51 = .ok (.if_icmp .ge 35, 3) ∧ decode cX0_read 54 = .ok (.aload_n 0, 1) := by decide +kernel
theorem dX0_read_41 : decode cX0_read 41 = .ok (.putfield 43, 3) := zy_b33xu_3.1
theorem dX0_read_44 : decode cX0_read 44 = .ok (.iconst 0, 1) := zy_b33xu_3.2.1
theorem dX0_read_45 : decode cX0_read 45 = .ok (.istore_n 2, 1) := zy_b33xu_3.2.2.1
theorem dX0_read_46 : decode cX0_read 46 = .ok (.iload_n 2, 1) := zy_b33xu_3.2.2.2.1
theorem dX0_read_47 : decode cX0_read 47 = .ok (.aload_n 1, 1) := zy_b33xu_3.2.2.2.2.1
theorem dX0_read_48 : decode cX0_read 48 = .ok (.getfield 46, 3) := zy_b33xu_3.2.2.2.2.2.1
theorem dX0_read_51 : decode cX0_read 51 = .ok (.if_icmp .ge 35, 3) := zy_b33xu_3.2.2.2.2.2.2.1
theorem dX0_read_54 : decode cX0_read 54 = .ok (.aload_n 0, 1) := zy_b33xu_3.2.2.2.2.2.2.2
theorem zy_b33xu_4 : decode cX0_read 55 = .ok (.getfield 18, 3) ∧ decode cX0_read 58 = .ok (.ifCond .ne 28, 3) ∧ decode cX0_read 61 = .ok (.aload_n 1, 1) ∧ decode cX0_read 62 = .ok (.iload_n 2, 1) ∧ decode cX0_read 63 = .ok (.invokestatic 51, 3) ∧ decode cX0_read 66 = .ok (.ifCond .eq 14, 3) ∧ decode cX0_read 69 = .ok (.aload_n 0, 1) ∧ decode cX0_read 70 = .ok (.aload_n 0, 1) := by decide +kernel
theorem dX0_read_55 : decode cX0_read 55 = .ok (.getfield 18, 3) := zy_b33xu_4.1
theorem dX0_read_58 : decode cX0_read 58 = .ok (.ifCond .ne 28, 3) := zy_b33xu_4.2.1
theorem dX0_read_61 : decode cX0_read 61 = .ok (.aload_n 1, 1) := zy_b33xu_4.2.2.1
theorem dX0_read_62 : decode cX0_read 62 = .ok (.iload_n 2, 1) := zy_b33xu_4.2.2.2.1
theorem dX0_read_63 : decode cX0_read 63 = .ok (.invokestatic 51, 3) := zy_b33xu_4.2.2.2.2.1
theorem dX0_read_66 : decode cX0_read 66 = .ok (.ifCond .eq 14, 3) := zy_b33xu_4.2.2.2.2.2.1
theorem dX0_read_69 : decode cX0_read 69 = .ok (.aload_n 0, 1) := zy_b33xu_4.2.2.2.2.2.2.1
theorem dX0_read_70 : decode cX0_read 70 = .ok (.aload_n 0, 1) := zy_b33xu_4.2.2.2.2.2.2.2
theorem zy_b33xu_5 : decode cX0_read 71 = .ok (.aload_n 1, 1) ∧ decode cX0_read 72 = .ok (.iload_n 2, 1) ∧ decode cX0_read 73 = .ok (.invokevirtual 55, 3) ∧ decode cX0_read 76 = .ok (.iload_n 2, 1) ∧ decode cX0_read 77 = .ok (.invokevirtual 59, 3) ∧ decode cX0_read 80 = .ok (.iinc 2 1, 3) ∧ decode cX0_read 83 = .ok (.goto (-37), 3) ∧ decode cX0_read 86 = .ok (.aload_n 0, 1) := by decide +kernel
theorem dX0_read_71 : decode cX0_read 71 = .ok (.aload_n 1, 1) := zy_b33xu_5.1
theorem dX0_read_72 : decode cX0_read 72 = .ok (.iload_n 2, 1) := zy_b33xu_5.2.1
theorem dX0_read_73 : decode cX0_read 73 = .ok (.invokevirtual 55, 3) := zy_b33xu_5.2.2.1
theorem dX0_read_76 : decode cX0_read 76 = .ok (.iload_n 2, 1) := zy_b33xu_5.2.2.2.1
theorem dX0_read_77 : decode cX0_read 77 = .ok (.invokevirtual 59, 3) := zy_b33xu_5.2.2.2.2.1
theorem dX0_read_80 : decode cX0_read 80 = .ok (.iinc 2 1, 3) := zy_b33xu_5.2.2.2.2.2.1
theorem dX0_read_83 : decode cX0_read 83 = .ok (.goto (-37), 3) := zy_b33xu_5.2.2.2.2.2.2.1
theorem dX0_read_86 : decode cX0_read 86 = .ok (.aload_n 0, 1) := zy_b33xu_5.2.2.2.2.2.2.2
theorem zy_b33xu_6 : decode cX0_read 87 = .ok (.getfield 18, 3) ∧ decode cX0_read 90 = .ok (.ifCond .ne 20, 3) ∧ decode cX0_read 93 = .ok (.aload_n 0, 1) ∧ decode cX0_read 94 = .ok (.getfield 34, 3) ∧ decode cX0_read 97 = .ok (.iconst 1, 1) ∧ decode cX0_read 98 = .ok (.if_icmp .eq 12, 3) ∧ decode cX0_read 101 = .ok (.aload_n 0, 1) ∧ decode cX0_read 102 = .ok (.iconst 1, 1) := by decide +kernel
theorem dX0_read_87 : decode cX0_read 87 = .ok (.getfield 18, 3) := zy_b33xu_6.1
theorem dX0_read_90 : decode cX0_read 90 = .ok (.ifCond .ne 20, 3) := zy_b33xu_6.2.1
theorem dX0_read_93 : decode cX0_read 93 = .ok (.aload_n 0, 1) := zy_b33xu_6.2.2.1
theorem dX0_read_94 : decode cX0_read 94 = .ok (.getfield 34, 3) := zy_b33xu_6.2.2.2.1
theorem dX0_read_97 : decode cX0_read 97 = .ok (.iconst 1, 1) := zy_b33xu_6.2.2.2.2.1
theorem dX0_read_98 : decode cX0_read 98 = .ok (.if_icmp .eq 12, 3) := zy_b33xu_6.2.2.2.2.2.1
theorem dX0_read_101 : decode cX0_read 101 = .ok (.aload_n 0, 1) := zy_b33xu_6.2.2.2.2.2.2.1
theorem dX0_read_102 : decode cX0_read 102 = .ok (.iconst 1, 1) := zy_b33xu_6.2.2.2.2.2.2.2
theorem zy_b33xu_7 : decode cX0_read 103 = .ok (.aload_n 1, 1) ∧ decode cX0_read 104 = .ok (.getfield 46, 3) ∧ decode cX0_read 107 = .ok (.invokevirtual 59, 3) ∧ decode cX0_read 110 = .ok (.aload_n 0, 1) ∧ decode cX0_read 111 = .ok (.getfield 18, 3) ∧ decode cX0_read 114 = .ok (.ifCond .eq 5, 3) ∧ decode cX0_read 117 = .ok (.iconst (-1), 1) ∧ decode cX0_read 118 = .ok (.ireturn, 1) := by decide +kernel
theorem dX0_read_103 : decode cX0_read 103 = .ok (.aload_n 1, 1) := zy_b33xu_7.1
theorem dX0_read_104 : decode cX0_read 104 = .ok (.getfield 46, 3) := zy_b33xu_7.2.1
theorem dX0_read_107 : decode cX0_read 107 = .ok (.invokevirtual 59, 3) := zy_b33xu_7.2.2.1
theorem dX0_read_110 : decode cX0_read 110 = .ok (.aload_n 0, 1) := zy_b33xu_7.2.2.2.1
theorem dX0_read_111 : decode cX0_read 111 = .ok (.getfield 18, 3) := zy_b33xu_7.2.2.2.2.1
theorem dX0_read_114 : decode cX0_read 114 = .ok (.ifCond .eq 5, 3) := zy_b33xu_7.2.2.2.2.2.1
theorem dX0_read_117 : decode cX0_read 117 = .ok (.iconst (-1), 1) := zy_b33xu_7.2.2.2.2.2.2.1
theorem dX0_read_118 : decode cX0_read 118 = .ok (.ireturn, 1) := zy_b33xu_7.2.2.2.2.2.2.2
theorem zy_b33xu_8 : decode cX0_read 119 = .ok (.aload_n 0, 1) ∧ decode cX0_read 120 = .ok (.getfield 15, 3) ∧ decode cX0_read 123 = .ok (.iconst 0, 1) ∧ decode cX0_read 124 = .ok (.aload_n 0, 1) ∧ decode cX0_read 125 = .ok (.getfield 9, 3) ∧ decode cX0_read 128 = .ok (.iconst 0, 1) ∧ decode cX0_read 129 = .ok (.bipush 7, 2) ∧ decode cX0_read 131 = .ok (.invokestatic 28, 3) := by decide +kernel
theorem dX0_read_119 : decode cX0_read 119 = .ok (.aload_n 0, 1) := zy_b33xu_8.1
theorem dX0_read_120 : decode cX0_read 120 = .ok (.getfield 15, 3) := zy_b33xu_8.2.1
theorem dX0_read_123 : decode cX0_read 123 = .ok (.iconst 0, 1) := zy_b33xu_8.2.2.1
theorem dX0_read_124 : decode cX0_read 124 = .ok (.aload_n 0, 1) := zy_b33xu_8.2.2.2.1
theorem dX0_read_125 : decode cX0_read 125 = .ok (.getfield 9, 3) := zy_b33xu_8.2.2.2.2.1
theorem dX0_read_128 : decode cX0_read 128 = .ok (.iconst 0, 1) := zy_b33xu_8.2.2.2.2.2.1
theorem dX0_read_129 : decode cX0_read 129 = .ok (.bipush 7, 2) := zy_b33xu_8.2.2.2.2.2.2.1
theorem dX0_read_131 : decode cX0_read 131 = .ok (.invokestatic 28, 3) := zy_b33xu_8.2.2.2.2.2.2.2
theorem zy_b33xu_9 : decode cX0_read 134 = .ok (.aload_n 0, 1) ∧ decode cX0_read 135 = .ok (.getfield 43, 3) ∧ decode cX0_read 138 = .ok (.ireturn, 1) := by decide +kernel
theorem dX0_read_134 : decode cX0_read 134 = .ok (.aload_n 0, 1) := zy_b33xu_9.1
theorem dX0_read_135 : decode cX0_read 135 = .ok (.getfield 43, 3) := zy_b33xu_9.2.1
theorem dX0_read_138 : decode cX0_read 138 = .ok (.ireturn, 1) := zy_b33xu_9.2.2
theorem zy_b33xu_10 : decode cX7_custom 0 = .ok (.aload_n 0, 1) ∧ decode cX7_custom 1 = .ok (.getfield 37, 3) ∧ decode cX7_custom 4 = .ok (.aload_n 0, 1) ∧ decode cX7_custom 5 = .ok (.getfield 30, 3) ∧ decode cX7_custom 8 = .ok (.invokevirtual 106, 3) ∧ decode cX7_custom 11 = .ok (.istore_n 1, 1) ∧ decode cX7_custom 12 = .ok (.aload_n 0, 1) ∧ decode cX7_custom 13 = .ok (.getfield 30, 3) := by decide +kernel
theorem dX7_custom_0 : decode cX7_custom 0 = .ok (.aload_n 0, 1) := zy_b33xu_10.1
theorem dX7_custom_1 : decode cX7_custom 1 = .ok (.getfield 37, 3) := zy_b33xu_10.2.1
theorem dX7_custom_4 : decode cX7_custom 4 = .ok (.aload_n 0, 1) := zy_b33xu_10.2.2.1
theorem dX7_custom_5 : decode cX7_custom 5 = .ok (.getfield 30, 3) := zy_b33xu_10.2.2.2.1
theorem dX7_custom_8 : decode cX7_custom 8 = .ok (.invokevirtual 106, 3) := zy_b33xu_10.2.2.2.2.1
theorem dX7_custom_11 : decode cX7_custom 11 = .ok (.istore_n 1, 1) := zy_b33xu_10.2.2.2.2.2.1
theorem dX7_custom_12 : decode cX7_custom 12 = .ok (.aload_n 0, 1) := zy_b33xu_10.2.2.2.2.2.2.1
theorem dX7_custom_13 : decode cX7_custom 13 = .ok (.getfield 30, 3) := zy_b33xu_10.2.2.2.2.2.2.2
theorem zy_b33xu_11 : decode cX7_custom 16 = .ok (.iconst 0, 1) ∧ decode cX7_custom 17 = .ok (.putfield 99, 3) ∧ decode cX7_custom 20 = .ok (.iload_n 1, 1) ∧ decode cX7_custom 21 = .ok (.ireturn, 1) := by decide +kernel
theorem dX7_custom_16 : decode cX7_custom 16 = .ok (.iconst 0, 1) := zy_b33xu_11.1
theorem dX7_custom_17 : decode cX7_custom 17 = .ok (.putfield 99, 3) := zy_b33xu_11.2.1
theorem dX7_custom_20 : decode cX7_custom 20 = .ok (.iload_n 1, 1) := zy_b33xu_11.2.2.1
theorem dX7_custom_21 : decode cX7_custom 21 = .ok (.ireturn, 1) := zy_b33xu_11.2.2.2
