theorem tw_309 : Cond.fieldLink RX8 20 "HandsReturnedModel" "isTold" "[Z" ∈ zz_all := zz_m3 175 rfl rfl
theorem tw_310 : Cond.code yX8_next cX8_next 6 none ∈ zz_all := zz_m4 118 rfl rfl
theorem tw_311 : Cond.methodLink RX8 205 yX8_next ∈ zz_all := zz_m4 115 rfl rfl
theorem tw_312 : Cond.instanceMethod yX8_next ∈ zz_all := zz_m4 117 rfl rfl
theorem tw_313 : Cond.selects RX8 yX8_next yX8_next ∈ zz_all := zz_ms 39 rfl rfl
theorem tw_314 : Cond.code yX8_lowest cX8_lowest 1 (some .int) ∈ zz_all := zz_m4 150 rfl rfl
theorem tw_315 : Cond.methodLink RX8 208 yX8_lowest ∈ zz_all := zz_m4 148 rfl rfl
theorem tw_316 : Cond.static yX8_lowest ∈ zz_all := zz_m4 149 rfl rfl
theorem tw_317 : Cond.code yX8_highest cX8_highest 1 (some .int) ∈ zz_all := zz_m4 153 rfl rfl
theorem tw_318 : Cond.methodLink RX8 212 yX8_highest ∈ zz_all := zz_m4 151 rfl rfl
theorem tw_319 : Cond.static yX8_highest ∈ zz_all := zz_m4 152 rfl rfl
theorem tw_320 : Cond.fieldLink RX8 24 "HandsReturnedModel" "newCustom" "[I" ∈ zz_all := zz_m3 176 rfl rfl
theorem tw_321 : Cond.code yX8_fails cX8_fails 2 none ∈ zz_all := zz_m4 147 rfl rfl
theorem tw_322 : Cond.methodLink RX8 202 yX8_fails ∈ zz_all := zz_m4 144 rfl rfl
theorem tw_323 : Cond.instanceMethod yX8_fails ∈ zz_all := zz_m4 146 rfl rfl
theorem tw_324 : Cond.selects RX8 yX8_fails yX8_fails ∈ zz_all := zz_ms 41 rfl rfl
theorem tw_325 : Cond.code yX8_clause cX8_clause 3 none ∈ zz_all := zz_m4 143 rfl rfl
theorem tw_326 : Cond.methodLink RX8 215 yX8_clause ∈ zz_all := zz_m4 140 rfl rfl
theorem tw_327 : Cond.instanceMethod yX8_clause ∈ zz_all := zz_m4 142 rfl rfl
theorem tw_328 : Cond.selects RX8 yX8_clause yX8_clause ∈ zz_all := zz_ms 40 rfl rfl
theorem zy_b30mk_0 : decode cX8_clause 0 = .ok (.aload_n 0, 1) ∧ decode cX8_clause 1 = .ok (.getfield 176, 3) ∧ decode cX8_clause 4 = .ok (.iconst 1, 1) ∧ decode cX8_clause 5 = .ok (.if_icmp .eq 9, 3) ∧ decode cX8_clause 8 = .ok (.aload_n 0, 1) ∧ decode cX8_clause 9 = .ok (.iconst 1, 1) ∧ decode cX8_clause 10 = .ok (.invokevirtual 202, 3) ∧ decode cX8_clause 13 = .ok (.return_, 1) := by decide +kernel
theorem dX8_clause_0 : decode cX8_clause 0 = .ok (.aload_n 0, 1) := zy_b30mk_0.1
theorem dX8_clause_1 : decode cX8_clause 1 = .ok (.getfield 176, 3) := zy_b30mk_0.2.1
theorem dX8_clause_4 : decode cX8_clause 4 = .ok (.iconst 1, 1) := zy_b30mk_0.2.2.1
theorem dX8_clause_5 : decode cX8_clause 5 = .ok (.if_icmp .eq 9, 3) := zy_b30mk_0.2.2.2.1
theorem dX8_clause_8 : decode cX8_clause 8 = .ok (.aload_n 0, 1) := zy_b30mk_0.2.2.2.2.1
theorem dX8_clause_9 : decode cX8_clause 9 = .ok (.iconst 1, 1) := zy_b30mk_0.2.2.2.2.2.1
theorem dX8_clause_10 : decode cX8_clause 10 = .ok (.invokevirtual 202, 3) := zy_b30mk_0.2.2.2.2.2.2.1
theorem dX8_clause_13 : decode cX8_clause 13 = .ok (.return_, 1) := zy_b30mk_0.2.2.2.2.2.2.2
theorem zy_b30mk_1 : decode cX8_clause 14 = .ok (.aload_n 0, 1) ∧ decode cX8_clause 15 = .ok (.getfield 188, 3) ∧ decode cX8_clause 18 = .ok (.istore_n 2, 1) ∧ decode cX8_clause 19 = .ok (.aload_n 0, 1) ∧ decode cX8_clause 20 = .ok (.getfield 20, 3) ∧ decode cX8_clause 23 = .ok (.iload_n 2, 1) ∧ decode cX8_clause 24 = .ok (.baload, 1) ∧ decode cX8_clause 25 = .ok (.ifCond .eq 9, 3) := by decide +kernel
theorem dX8_clause_14 : decode cX8_clause 14 = .ok (.aload_n 0, 1) := zy_b30mk_1.1
theorem dX8_clause_15 : decode cX8_clause 15 = .ok (.getfield 188, 3) := zy_b30mk_1.2.1
theorem dX8_clause_18 : decode cX8_clause 18 = .ok (.istore_n 2, 1) := zy_b30mk_1.2.2.1
theorem dX8_clause_19 : decode cX8_clause 19 = .ok (.aload_n 0, 1) := zy_b30mk_1.2.2.2.1
theorem dX8_clause_20 : decode cX8_clause 20 = .ok (.getfield 20, 3) := zy_b30mk_1.2.2.2.2.1
theorem dX8_clause_23 : decode cX8_clause 23 = .ok (.iload_n 2, 1) := zy_b30mk_1.2.2.2.2.2.1
theorem dX8_clause_24 : decode cX8_clause 24 = .ok (.baload, 1) := zy_b30mk_1.2.2.2.2.2.2.1
theorem dX8_clause_25 : decode cX8_clause 25 = .ok (.ifCond .eq 9, 3) := zy_b30mk_1.2.2.2.2.2.2.2
theorem zy_b30mk_2 : decode cX8_clause 28 = .ok (.aload_n 0, 1) ∧ decode cX8_clause 29 = .ok (.iconst 2, 1) ∧ decode cX8_clause 30 = .ok (.invokevirtual 202, 3) ∧ decode cX8_clause 33 = .ok (.return_, 1) ∧ decode cX8_clause 34 = .ok (.aload_n 0, 1) ∧ decode cX8_clause 35 = .ok (.getfield 20, 3) ∧ decode cX8_clause 38 = .ok (.iload_n 2, 1) ∧ decode cX8_clause 39 = .ok (.iconst 1, 1) := by decide +kernel
theorem dX8_clause_28 : decode cX8_clause 28 = .ok (.aload_n 0, 1) := zy_b30mk_2.1
theorem dX8_clause_29 : decode cX8_clause 29 = .ok (.iconst 2, 1) := zy_b30mk_2.2.1
theorem dX8_clause_30 : decode cX8_clause 30 = .ok (.invokevirtual 202, 3) := zy_b30mk_2.2.2.1
theorem dX8_clause_33 : decode cX8_clause 33 = .ok (.return_, 1) := zy_b30mk_2.2.2.2.1
theorem dX8_clause_34 : decode cX8_clause 34 = .ok (.aload_n 0, 1) := zy_b30mk_2.2.2.2.2.1
theorem dX8_clause_35 : decode cX8_clause 35 = .ok (.getfield 20, 3) := zy_b30mk_2.2.2.2.2.2.1
theorem dX8_clause_38 : decode cX8_clause 38 = .ok (.iload_n 2, 1) := zy_b30mk_2.2.2.2.2.2.2.1
theorem dX8_clause_39 : decode cX8_clause 39 = .ok (.iconst 1, 1) := zy_b30mk_2.2.2.2.2.2.2.2
theorem zy_b30mk_3 : decode cX8_clause 40 = .ok (.bastore, 1) ∧ decode cX8_clause 41 = .ok (.aload_n 0, 1) ∧ decode cX8_clause 42 = .ok (.iload_n 1, 1) ∧ decode cX8_clause 43 = .ok (.invokevirtual 205, 3) ∧ decode cX8_clause 46 = .ok (.aload_n 0, 1) ∧ decode cX8_clause 47 = .ok (.getfield 176, 3) ∧ decode cX8_clause 50 = .ok (.iconst 2, 1) ∧ decode cX8_clause 51 = .ok (.if_icmp .eq 11, 3) := by decide +kernel
theorem dX8_clause_40 : decode cX8_clause 40 = .ok (.bastore, 1) := zy_b30mk_3.1
theorem dX8_clause_41 : decode cX8_clause 41 = .ok (.aload_n 0, 1) := zy_b30mk_3.2.1
theorem dX8_clause_42 : decode cX8_clause 42 = .ok (.iload_n 1, 1) := zy_b30mk_3.2.2.1
theorem dX8_clause_43 : decode cX8_clause 43 = .ok (.invokevirtual 205, 3) := zy_b30mk_3.2.2.2.1
theorem dX8_clause_46 : decode cX8_clause 46 = .ok (.aload_n 0, 1) := zy_b30mk_3.2.2.2.2.1
theorem dX8_clause_47 : decode cX8_clause 47 = .ok (.getfield 176, 3) := zy_b30mk_3.2.2.2.2.2.1
theorem dX8_clause_50 : decode cX8_clause 50 = .ok (.iconst 2, 1) := zy_b30mk_3.2.2.2.2.2.2.1
theorem dX8_clause_51 : decode cX8_clause 51 = .ok (.if_icmp .eq 11, 3) := zy_b30mk_3.2.2.2.2.2.2.2
theorem zy_b30mk_4 : decode cX8_clause 54 = .ok (.aload_n 0, 1) ∧ decode cX8_clause 55 = .ok (.iconst 1, 1) ∧ decode cX8_clause 56 = .ok (.invokevirtual 202, 3) ∧ decode cX8_clause 59 = .ok (.goto 29, 3) ∧ decode cX8_clause 62 = .ok (.aload_n 0, 1) ∧ decode cX8_clause 63 = .ok (.getfield 188, 3) ∧ decode cX8_clause 66 = .ok (.i2l, 1) ∧ decode cX8_clause 67 = .ok (.iload_n 2, 1) := by decide +kernel
theorem dX8_clause_54 : decode cX8_clause 54 = .ok (.aload_n 0, 1) := zy_b30mk_4.1
theorem dX8_clause_55 : decode cX8_clause 55 = .ok (.iconst 1, 1) := zy_b30mk_4.2.1
theorem dX8_clause_56 : decode cX8_clause 56 = .ok (.invokevirtual 202, 3) := zy_b30mk_4.2.2.1
theorem dX8_clause_59 : decode cX8_clause 59 = .ok (.goto 29, 3) := zy_b30mk_4.2.2.2.1
theorem dX8_clause_62 : decode cX8_clause 62 = .ok (.aload_n 0, 1) := zy_b30mk_4.2.2.2.2.1
theorem dX8_clause_63 : decode cX8_clause 63 = .ok (.getfield 188, 3) := zy_b30mk_4.2.2.2.2.2.1
theorem dX8_clause_66 : decode cX8_clause 66 = .ok (.i2l, 1) := zy_b30mk_4.2.2.2.2.2.2.1
theorem dX8_clause_67 : decode cX8_clause 67 = .ok (.iload_n 2, 1) := zy_b30mk_4.2.2.2.2.2.2.2
theorem zy_b30mk_5 : decode cX8_clause 68 = .ok (.invokestatic 208, 3) ∧ decode cX8_clause 71 = .ok (.i2l, 1) ∧ decode cX8_clause 72 = .ok (.iload_n 2, 1) ∧ decode cX8_clause 73 = .ok (.invokestatic 212, 3) ∧ decode cX8_clause 76 = .ok (.i2l, 1) ∧ decode cX8_clause 77 = .ok (.invokestatic 118, 3) ∧ decode cX8_clause 80 = .ok (.ifCond .ne 8, 3) ∧ decode cX8_clause 83 = .ok (.aload_n 0, 1) := by decide +kernel
theorem dX8_clause_68 : decode cX8_clause 68 = .ok (.invokestatic 208, 3) := zy_b30mk_5.1
theorem dX8_clause_71 : decode cX8_clause 71 = .ok (.i2l, 1) := zy_b30mk_5.2.1
theorem dX8_clause_72 : decode cX8_clause 72 = .ok (.iload_n 2, 1) := zy_b30mk_5.2.2.1
theorem dX8_clause_73 : decode cX8_clause 73 = .ok (.invokestatic 212, 3) := zy_b30mk_5.2.2.2.1
theorem dX8_clause_76 : decode cX8_clause 76 = .ok (.i2l, 1) := zy_b30mk_5.2.2.2.2.1
theorem dX8_clause_77 : decode cX8_clause 77 = .ok (.invokestatic 118, 3) := zy_b30mk_5.2.2.2.2.2.1
theorem dX8_clause_80 : decode cX8_clause 80 = .ok (.ifCond .ne 8, 3) := zy_b30mk_5.2.2.2.2.2.2.1
theorem dX8_clause_83 : decode cX8_clause 83 = .ok (.aload_n 0, 1) := zy_b30mk_5.2.2.2.2.2.2.2
theorem zy_b30mk_6 : decode cX8_clause 84 = .ok (.iconst 3, 1) ∧ decode cX8_clause 85 = .ok (.invokevirtual 202, 3) ∧ decode cX8_clause 88 = .ok (.aload_n 0, 1) ∧ decode cX8_clause 89 = .ok (.getfield 24, 3) ∧ decode cX8_clause 92 = .ok (.iload_n 2, 1) ∧ decode cX8_clause 93 = .ok (.aload_n 0, 1) ∧ decode cX8_clause 94 = .ok (.getfield 188, 3) ∧ decode cX8_clause 97 = .ok (.iastore, 1) := by decide +kernel
theorem dX8_clause_84 : decode cX8_clause 84 = .ok (.iconst 3, 1) := zy_b30mk_6.1
theorem dX8_clause_85 : decode cX8_clause 85 = .ok (.invokevirtual 202, 3) := zy_b30mk_6.2.1
theorem dX8_clause_88 : decode cX8_clause 88 = .ok (.aload_n 0, 1) := zy_b30mk_6.2.2.1
theorem dX8_clause_89 : decode cX8_clause 89 = .ok (.getfield 24, 3) := zy_b30mk_6.2.2.2.1
theorem dX8_clause_92 : decode cX8_clause 92 = .ok (.iload_n 2, 1) := zy_b30mk_6.2.2.2.2.1
theorem dX8_clause_93 : decode cX8_clause 93 = .ok (.aload_n 0, 1) := zy_b30mk_6.2.2.2.2.2.1
theorem dX8_clause_94 : decode cX8_clause 94 = .ok (.getfield 188, 3) := zy_b30mk_6.2.2.2.2.2.2.1
theorem dX8_clause_97 : decode cX8_clause 97 = .ok (.iastore, 1) := zy_b30mk_6.2.2.2.2.2.2.2
theorem zy_b30mk_7 : decode cX8_clause 98 = .ok (.aload_n 0, 1) ∧ decode cX8_clause 99 = .ok (.getfield 196, 3) ∧ decode cX8_clause 102 = .ok (.ifCond .ne 8, 3) ∧ decode cX8_clause 105 = .ok (.aload_n 0, 1) ∧ decode cX8_clause 106 = .ok (.iload_n 1, 1) ∧ decode cX8_clause 107 = .ok (.invokevirtual 205, 3) ∧ decode cX8_clause 110 = .ok (.aload_n 0, 1) ∧ decode cX8_clause 111 = .ok (.getfield 176, 3) := by decide +kernel
theorem dX8_clause_98 : decode cX8_clause 98 = .ok (.aload_n 0, 1) := zy_b30mk_7.1
theorem dX8_clause_99 : decode cX8_clause 99 = .ok (.getfield 196, 3) := zy_b30mk_7.2.1
theorem dX8_clause_102 : decode cX8_clause 102 = .ok (.ifCond .ne 8, 3) := zy_b30mk_7.2.2.1
theorem dX8_clause_105 : decode cX8_clause 105 = .ok (.aload_n 0, 1) := zy_b30mk_7.2.2.2.1
theorem dX8_clause_106 : decode cX8_clause 106 = .ok (.iload_n 1, 1) := zy_b30mk_7.2.2.2.2.1
theorem dX8_clause_107 : decode cX8_clause 107 = .ok (.invokevirtual 205, 3) := zy_b30mk_7.2.2.2.2.2.1
theorem dX8_clause_110 : decode cX8_clause 110 = .ok (.aload_n 0, 1) := zy_b30mk_7.2.2.2.2.2.2.1
theorem dX8_clause_111 : decode cX8_clause 111 = .ok (.getfield 176, 3) := zy_b30mk_7.2.2.2.2.2.2.2
theorem zy_b30mk_8 : decode cX8_clause 114 = .ok (.iconst 3, 1) ∧ decode cX8_clause 115 = .ok (.if_icmp .eq 11, 3) ∧ decode cX8_clause 118 = .ok (.aload_n 0, 1) ∧ decode cX8_clause 119 = .ok (.iconst 1, 1) ∧ decode cX8_clause 120 = .ok (.invokevirtual 202, 3) ∧ decode cX8_clause 123 = .ok (.goto 15, 3) ∧ decode cX8_clause 126 = .ok (.aload_n 0, 1) ∧ decode cX8_clause 127 = .ok (.getfield 196, 3) := by decide +kernel
theorem dX8_clause_114 : decode cX8_clause 114 = .ok (.iconst 3, 1) := zy_b30mk_8.1
theorem dX8_clause_115 : decode cX8_clause 115 = .ok (.if_icmp .eq 11, 3) := zy_b30mk_8.2.1
theorem dX8_clause_118 : decode cX8_clause 118 = .ok (.aload_n 0, 1) := zy_b30mk_8.2.2.1
theorem dX8_clause_119 : decode cX8_clause 119 = .ok (.iconst 1, 1) := zy_b30mk_8.2.2.2.1
theorem dX8_clause_120 : decode cX8_clause 120 = .ok (.invokevirtual 202, 3) := zy_b30mk_8.2.2.2.2.1
theorem dX8_clause_123 : decode cX8_clause 123 = .ok (.goto 15, 3) := zy_b30mk_8.2.2.2.2.2.1
theorem dX8_clause_126 : decode cX8_clause 126 = .ok (.aload_n 0, 1) := zy_b30mk_8.2.2.2.2.2.2.1
theorem dX8_clause_127 : decode cX8_clause 127 = .ok (.getfield 196, 3) := zy_b30mk_8.2.2.2.2.2.2.2
theorem zy_b30mk_9 : decode cX8_clause 130 = .ok (.ifCond .ne 8, 3) ∧ decode cX8_clause 133 = .ok (.aload_n 0, 1) ∧ decode cX8_clause 134 = .ok (.iload_n 1, 1) ∧ decode cX8_clause 135 = .ok (.invokevirtual 205, 3) ∧ decode cX8_clause 138 = .ok (.return_, 1) := by decide +kernel
theorem dX8_clause_130 : decode cX8_clause 130 = .ok (.ifCond .ne 8, 3) := zy_b30mk_9.1
theorem dX8_clause_133 : decode cX8_clause 133 = .ok (.aload_n 0, 1) := zy_b30mk_9.2.1
theorem dX8_clause_134 : decode cX8_clause 134 = .ok (.iload_n 1, 1) := zy_b30mk_9.2.2.1
theorem dX8_clause_135 : decode cX8_clause 135 = .ok (.invokevirtual 205, 3) := zy_b30mk_9.2.2.2.1
theorem dX8_clause_138 : decode cX8_clause 138 = .ok (.return_, 1) := zy_b30mk_9.2.2.2.2
theorem zy_b30mk_10 : decode cX8_custom 0 = .ok (.aload_n 0, 1) ∧ decode cX8_custom 1 = .ok (.getfield 141, 3) ∧ decode cX8_custom 4 = .ok (.istore_n 1, 1) ∧ decode cX8_custom 5 = .ok (.aload_n 0, 1) ∧ decode cX8_custom 6 = .ok (.iconst 0, 1) ∧ decode cX8_custom 7 = .ok (.putfield 141, 3) ∧ decode cX8_custom 10 = .ok (.aload_n 0, 1) ∧ decode cX8_custom 11 = .ok (.iconst 0, 1) := by decide +kernel
theorem dX8_custom_0 : decode cX8_custom 0 = .ok (.aload_n 0, 1) := zy_b30mk_10.1
theorem dX8_custom_1 : decode cX8_custom 1 = .ok (.getfield 141, 3) := zy_b30mk_10.2.1
theorem dX8_custom_4 : decode cX8_custom 4 = .ok (.istore_n 1, 1) := zy_b30mk_10.2.2.1
theorem dX8_custom_5 : decode cX8_custom 5 = .ok (.aload_n 0, 1) := zy_b30mk_10.2.2.2.1
theorem dX8_custom_6 : decode cX8_custom 6 = .ok (.iconst 0, 1) := zy_b30mk_10.2.2.2.2.1
theorem dX8_custom_7 : decode cX8_custom 7 = .ok (.putfield 141, 3) := zy_b30mk_10.2.2.2.2.2.1
theorem dX8_custom_10 : decode cX8_custom 10 = .ok (.aload_n 0, 1) := zy_b30mk_10.2.2.2.2.2.2.1
theorem dX8_custom_11 : decode cX8_custom 11 = .ok (.iconst 0, 1) := zy_b30mk_10.2.2.2.2.2.2.2
theorem zy_b30mk_11 : decode cX8_custom 12 = .ok (.putfield 170, 3) ∧ decode cX8_custom 15 = .ok (.aload_n 0, 1) ∧ decode cX8_custom 16 = .ok (.iconst 0, 1) ∧ decode cX8_custom 17 = .ok (.putfield 196, 3) ∧ decode cX8_custom 20 = .ok (.aload_n 0, 1) ∧ decode cX8_custom 21 = .ok (.iconst (-1), 1) ∧ decode cX8_custom 22 = .ok (.putfield 199, 3) ∧ decode cX8_custom 25 = .ok (.iconst 0, 1) := by decide +kernel
theorem dX8_custom_12 : decode cX8_custom 12 = .ok (.putfield 170, 3) := zy_b30mk_11.1
theorem dX8_custom_15 : decode cX8_custom 15 = .ok (.aload_n 0, 1) := zy_b30mk_11.2.1
theorem dX8_custom_16 : decode cX8_custom 16 = .ok (.iconst 0, 1) := zy_b30mk_11.2.2.1
theorem dX8_custom_17 : decode cX8_custom 17 = .ok (.putfield 196, 3) := zy_b30mk_11.2.2.2.1
theorem dX8_custom_20 : decode cX8_custom 20 = .ok (.aload_n 0, 1) := zy_b30mk_11.2.2.2.2.1
theorem dX8_custom_21 : decode cX8_custom 21 = .ok (.iconst (-1), 1) := zy_b30mk_11.2.2.2.2.2.1
theorem dX8_custom_22 : decode cX8_custom 22 = .ok (.putfield 199, 3) := zy_b30mk_11.2.2.2.2.2.2.1
theorem dX8_custom_25 : decode cX8_custom 25 = .ok (.iconst 0, 1) := zy_b30mk_11.2.2.2.2.2.2.2
theorem zy_b30mk_12 : decode cX8_custom 26 = .ok (.istore_n 2, 1) ∧ decode cX8_custom 27 = .ok (.iconst 0, 1) ∧ decode cX8_custom 28 = .ok (.istore_n 3, 1) ∧ decode cX8_custom 29 = .ok (.iload_n 3, 1) ∧ decode cX8_custom 30 = .ok (.bipush 7, 2) ∧ decode cX8_custom 32 = .ok (.if_icmp .ge 43, 3) ∧ decode cX8_custom 35 = .ok (.aload_n 0, 1) ∧ decode cX8_custom 36 = .ok (.getfield 20, 3) := by decide +kernel
theorem dX8_custom_26 : decode cX8_custom 26 = .ok (.istore_n 2, 1) := zy_b30mk_12.1
theorem dX8_custom_27 : decode cX8_custom 27 = .ok (.iconst 0, 1) := zy_b30mk_12.2.1
theorem dX8_custom_28 : decode cX8_custom 28 = .ok (.istore_n 3, 1) := zy_b30mk_12.2.2.1
theorem dX8_custom_29 : decode cX8_custom 29 = .ok (.iload_n 3, 1) := zy_b30mk_12.2.2.2.1
theorem dX8_custom_30 : decode cX8_custom 30 = .ok (.bipush 7, 2) := zy_b30mk_12.2.2.2.2.1
theorem dX8_custom_32 : decode cX8_custom 32 = .ok (.if_icmp .ge 43, 3) := zy_b30mk_12.2.2.2.2.2.1
theorem dX8_custom_35 : decode cX8_custom 35 = .ok (.aload_n 0, 1) := zy_b30mk_12.2.2.2.2.2.2.1
theorem dX8_custom_36 : decode cX8_custom 36 = .ok (.getfield 20, 3) := zy_b30mk_12.2.2.2.2.2.2.2
theorem zy_b30mk_13 : decode cX8_custom 39 = .ok (.iload_n 3, 1) ∧ decode cX8_custom 40 = .ok (.iconst 0, 1) ∧ decode cX8_custom 41 = .ok (.bastore, 1) ∧ decode cX8_custom 42 = .ok (.aload_n 0, 1) ∧ decode cX8_custom 43 = .ok (.getfield 24, 3) ∧ decode cX8_custom 46 = .ok (.iload_n 3, 1) ∧ decode cX8_custom 47 = .ok (.iload_n 3, 1) ∧ decode cX8_custom 48 = .ok (.iconst 3, 1) := by decide +kernel
theorem dX8_custom_39 : decode cX8_custom 39 = .ok (.iload_n 3, 1) := zy_b30mk_13.1
theorem dX8_custom_40 : decode cX8_custom 40 = .ok (.iconst 0, 1) := zy_b30mk_13.2.1
theorem dX8_custom_41 : decode cX8_custom 41 = .ok (.bastore, 1) := zy_b30mk_13.2.2.1
theorem dX8_custom_42 : decode cX8_custom 42 = .ok (.aload_n 0, 1) := zy_b30mk_13.2.2.2.1
theorem dX8_custom_43 : decode cX8_custom 43 = .ok (.getfield 24, 3) := zy_b30mk_13.2.2.2.2.1
theorem dX8_custom_46 : decode cX8_custom 46 = .ok (.iload_n 3, 1) := zy_b30mk_13.2.2.2.2.2.1
theorem dX8_custom_47 : decode cX8_custom 47 = .ok (.iload_n 3, 1) := zy_b30mk_13.2.2.2.2.2.2.1
theorem dX8_custom_48 : decode cX8_custom 48 = .ok (.iconst 3, 1) := zy_b30mk_13.2.2.2.2.2.2.2
theorem zy_b30mk_14 : decode cX8_custom 49 = .ok (.if_icmp .ge 7, 3) ∧ decode cX8_custom 52 = .ok (.iconst 1, 1) ∧ decode cX8_custom 53 = .ok (.goto 15, 3) ∧ decode cX8_custom 56 = .ok (.iload_n 3, 1) ∧ decode cX8_custom 57 = .ok (.iconst 3, 1) ∧ decode cX8_custom 58 = .ok (.if_icmp .ne 9, 3) ∧ decode cX8_custom 61 = .ok (.sipush 400, 3) ∧ decode cX8_custom 64 = .ok (.goto 4, 3) := by decide +kernel
theorem dX8_custom_49 : decode cX8_custom 49 = .ok (.if_icmp .ge 7, 3) := zy_b30mk_14.1
theorem dX8_custom_52 : decode cX8_custom 52 = .ok (.iconst 1, 1) := zy_b30mk_14.2.1
theorem dX8_custom_53 : decode cX8_custom 53 = .ok (.goto 15, 3) := zy_b30mk_14.2.2.1
theorem dX8_custom_56 : decode cX8_custom 56 = .ok (.iload_n 3, 1) := zy_b30mk_14.2.2.2.1
theorem dX8_custom_57 : decode cX8_custom 57 = .ok (.iconst 3, 1) := zy_b30mk_14.2.2.2.2.1
theorem dX8_custom_58 : decode cX8_custom 58 = .ok (.if_icmp .ne 9, 3) := zy_b30mk_14.2.2.2.2.2.1
theorem dX8_custom_61 : decode cX8_custom 61 = .ok (.sipush 400, 3) := zy_b30mk_14.2.2.2.2.2.2.1
theorem dX8_custom_64 : decode cX8_custom 64 = .ok (.goto 4, 3) := zy_b30mk_14.2.2.2.2.2.2.2
theorem zy_b30mk_15 : decode cX8_custom 67 = .ok (.iconst 0, 1) ∧ decode cX8_custom 68 = .ok (.iastore, 1) ∧ decode cX8_custom 69 = .ok (.iinc 3 1, 3) ∧ decode cX8_custom 72 = .ok (.goto (-43), 3) ∧ decode cX8_custom 75 = .ok (.aload_n 0, 1) ∧ decode cX8_custom 76 = .ok (.iload_n 1, 1) ∧ decode cX8_custom 77 = .ok (.invokevirtual 205, 3) ∧ decode cX8_custom 80 = .ok (.aload_n 0, 1) := by decide +kernel
theorem dX8_custom_67 : decode cX8_custom 67 = .ok (.iconst 0, 1) := zy_b30mk_15.1
theorem dX8_custom_68 : decode cX8_custom 68 = .ok (.iastore, 1) := zy_b30mk_15.2.1
theorem dX8_custom_69 : decode cX8_custom 69 = .ok (.iinc 3 1, 3) := zy_b30mk_15.2.2.1
theorem dX8_custom_72 : decode cX8_custom 72 = .ok (.goto (-43), 3) := zy_b30mk_15.2.2.2.1
theorem dX8_custom_75 : decode cX8_custom 75 = .ok (.aload_n 0, 1) := zy_b30mk_15.2.2.2.2.1
theorem dX8_custom_76 : decode cX8_custom 76 = .ok (.iload_n 1, 1) := zy_b30mk_15.2.2.2.2.2.1
theorem dX8_custom_77 : decode cX8_custom 77 = .ok (.invokevirtual 205, 3) := zy_b30mk_15.2.2.2.2.2.2.1
theorem dX8_custom_80 : decode cX8_custom 80 = .ok (.aload_n 0, 1) := zy_b30mk_15.2.2.2.2.2.2.2
theorem zy_b30mk_16 : decode cX8_custom 81 = .ok (.getfield 176, 3) ∧ decode cX8_custom 84 = .ok (.ifCond .eq 21, 3) ∧ decode cX8_custom 87 = .ok (.aload_n 0, 1) ∧ decode cX8_custom 88 = .ok (.getfield 196, 3) ∧ decode cX8_custom 91 = .ok (.ifCond .ne 14, 3) ∧ decode cX8_custom 94 = .ok (.aload_n 0, 1) ∧ decode cX8_custom 95 = .ok (.iload_n 1, 1) ∧ decode cX8_custom 96 = .ok (.invokevirtual 215, 3) := by decide +kernel
theorem dX8_custom_81 : decode cX8_custom 81 = .ok (.getfield 176, 3) := zy_b30mk_16.1
theorem dX8_custom_84 : decode cX8_custom 84 = .ok (.ifCond .eq 21, 3) := zy_b30mk_16.2.1
theorem dX8_custom_87 : decode cX8_custom 87 = .ok (.aload_n 0, 1) := zy_b30mk_16.2.2.1
theorem dX8_custom_88 : decode cX8_custom 88 = .ok (.getfield 196, 3) := zy_b30mk_16.2.2.2.1
theorem dX8_custom_91 : decode cX8_custom 91 = .ok (.ifCond .ne 14, 3) := zy_b30mk_16.2.2.2.2.1
theorem dX8_custom_94 : decode cX8_custom 94 = .ok (.aload_n 0, 1) := zy_b30mk_16.2.2.2.2.2.1
theorem dX8_custom_95 : decode cX8_custom 95 = .ok (.iload_n 1, 1) := zy_b30mk_16.2.2.2.2.2.2.1
theorem dX8_custom_96 : decode cX8_custom 96 = .ok (.invokevirtual 215, 3) := zy_b30mk_16.2.2.2.2.2.2.2
theorem zy_b30mk_17 : decode cX8_custom 99 = .ok (.iinc 2 1, 3) ∧ decode cX8_custom 102 = .ok (.goto (-22), 3) ∧ decode cX8_custom 105 = .ok (.aload_n 0, 1) ∧ decode cX8_custom 106 = .ok (.aload_n 0, 1) ∧ decode cX8_custom 107 = .ok (.getfield 196, 3) ∧ decode cX8_custom 110 = .ok (.putfield 13, 3) ∧ decode cX8_custom 113 = .ok (.aload_n 0, 1) ∧ decode cX8_custom 114 = .ok (.aload_n 0, 1) := by decide +kernel
theorem dX8_custom_99 : decode cX8_custom 99 = .ok (.iinc 2 1, 3) := zy_b30mk_17.1
theorem dX8_custom_102 : decode cX8_custom 102 = .ok (.goto (-22), 3) := zy_b30mk_17.2.1
theorem dX8_custom_105 : decode cX8_custom 105 = .ok (.aload_n 0, 1) := zy_b30mk_17.2.2.1
theorem dX8_custom_106 : decode cX8_custom 106 = .ok (.aload_n 0, 1) := zy_b30mk_17.2.2.2.1
theorem dX8_custom_107 : decode cX8_custom 107 = .ok (.getfield 196, 3) := zy_b30mk_17.2.2.2.2.1
theorem dX8_custom_110 : decode cX8_custom 110 = .ok (.putfield 13, 3) := zy_b30mk_17.2.2.2.2.2.1
theorem dX8_custom_113 : decode cX8_custom 113 = .ok (.aload_n 0, 1) := zy_b30mk_17.2.2.2.2.2.2.1
theorem dX8_custom_114 : decode cX8_custom 114 = .ok (.aload_n 0, 1) := zy_b30mk_17.2.2.2.2.2.2.2
theorem zy_b30mk_18 : decode cX8_custom 115 = .ok (.getfield 199, 3) ∧ decode cX8_custom 118 = .ok (.putfield 17, 3) ∧ decode cX8_custom 121 = .ok (.aload_n 0, 1) ∧ decode cX8_custom 122 = .ok (.getfield 196, 3) ∧ decode cX8_custom 125 = .ok (.ifCond .le 5, 3) ∧ decode cX8_custom 128 = .ok (.iconst (-1), 1) ∧ decode cX8_custom 129 = .ok (.ireturn, 1) ∧ decode cX8_custom 130 = .ok (.iconst 0, 1) := by decide +kernel
theorem dX8_custom_115 : decode cX8_custom 115 = .ok (.getfield 199, 3) := zy_b30mk_18.1
theorem dX8_custom_118 : decode cX8_custom 118 = .ok (.putfield 17, 3) := zy_b30mk_18.2.1
theorem dX8_custom_121 : decode cX8_custom 121 = .ok (.aload_n 0, 1) := zy_b30mk_18.2.2.1
theorem dX8_custom_122 : decode cX8_custom 122 = .ok (.getfield 196, 3) := zy_b30mk_18.2.2.2.1
theorem dX8_custom_125 : decode cX8_custom 125 = .ok (.ifCond .le 5, 3) := zy_b30mk_18.2.2.2.2.1
theorem dX8_custom_128 : decode cX8_custom 128 = .ok (.iconst (-1), 1) := zy_b30mk_18.2.2.2.2.2.1
theorem dX8_custom_129 : decode cX8_custom 129 = .ok (.ireturn, 1) := zy_b30mk_18.2.2.2.2.2.2.1
theorem dX8_custom_130 : decode cX8_custom 130 = .ok (.iconst 0, 1) := zy_b30mk_18.2.2.2.2.2.2.2
theorem zy_b30mk_19 : decode cX8_custom 131 = .ok (.istore_n 3, 1) ∧ decode cX8_custom 132 = .ok (.iload_n 3, 1) ∧ decode cX8_custom 133 = .ok (.bipush 7, 2) ∧ decode cX8_custom 135 = .ok (.if_icmp .ge 21, 3) ∧ decode cX8_custom 138 = .ok (.aload_n 0, 1) ∧ decode cX8_custom 139 = .ok (.getfield 28, 3) ∧ decode cX8_custom 142 = .ok (.iload_n 3, 1) ∧ decode cX8_custom 143 = .ok (.aload_n 0, 1) := by decide +kernel
theorem dX8_custom_131 : decode cX8_custom 131 = .ok (.istore_n 3, 1) := zy_b30mk_19.1
theorem dX8_custom_132 : decode cX8_custom 132 = .ok (.iload_n 3, 1) := zy_b30mk_19.2.1
theorem dX8_custom_133 : decode cX8_custom 133 = .ok (.bipush 7, 2) := zy_b30mk_19.2.2.1
theorem dX8_custom_135 : decode cX8_custom 135 = .ok (.if_icmp .ge 21, 3) := zy_b30mk_19.2.2.2.1
theorem dX8_custom_138 : decode cX8_custom 138 = .ok (.aload_n 0, 1) := zy_b30mk_19.2.2.2.2.1
theorem dX8_custom_139 : decode cX8_custom 139 = .ok (.getfield 28, 3) := zy_b30mk_19.2.2.2.2.2.1
theorem dX8_custom_142 : decode cX8_custom 142 = .ok (.iload_n 3, 1) := zy_b30mk_19.2.2.2.2.2.2.1
theorem dX8_custom_143 : decode cX8_custom 143 = .ok (.aload_n 0, 1) := zy_b30mk_19.2.2.2.2.2.2.2
theorem zy_b30mk_20 : decode cX8_custom 144 = .ok (.getfield 24, 3) ∧ decode cX8_custom 147 = .ok (.iload_n 3, 1) ∧ decode cX8_custom 148 = .ok (.iaload, 1) ∧ decode cX8_custom 149 = .ok (.iastore, 1) ∧ decode cX8_custom 150 = .ok (.iinc 3 1, 3) ∧ decode cX8_custom 153 = .ok (.goto (-21), 3) ∧ decode cX8_custom 156 = .ok (.iload_n 2, 1) ∧ decode cX8_custom 157 = .ok (.ireturn, 1) := by decide +kernel
theorem dX8_custom_144 : decode cX8_custom 144 = .ok (.getfield 24, 3) := zy_b30mk_20.1
theorem dX8_custom_147 : decode cX8_custom 147 = .ok (.iload_n 3, 1) := zy_b30mk_20.2.1
theorem dX8_custom_148 : decode cX8_custom 148 = .ok (.iaload, 1) := zy_b30mk_20.2.2.1
theorem dX8_custom_149 : decode cX8_custom 149 = .ok (.iastore, 1) := zy_b30mk_20.2.2.2.1
theorem dX8_custom_150 : decode cX8_custom 150 = .ok (.iinc 3 1, 3) := zy_b30mk_20.2.2.2.2.1
theorem dX8_custom_153 : decode cX8_custom 153 = .ok (.goto (-21), 3) := zy_b30mk_20.2.2.2.2.2.1
theorem dX8_custom_156 : decode cX8_custom 156 = .ok (.iload_n 2, 1) := zy_b30mk_20.2.2.2.2.2.2.1
theorem dX8_custom_157 : decode cX8_custom 157 = .ok (.ireturn, 1) := zy_b30mk_20.2.2.2.2.2.2.2
