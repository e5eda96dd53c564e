theorem tw_353 : Cond.code yX6_at cX6_at 2 (some .int) ∈ zz_all := zz_m2 108 rfl rfl
theorem tw_354 : Cond.instanceMethod yX6_at ∈ zz_all := zz_m2 107 rfl rfl
theorem tw_355 : Cond.selects RX6 yX6_at yX6_at ∈ zz_all := zz_ms 3 rfl rfl
theorem tw_356 : Cond.code yX0_sortOf cX0_sortOf 1 (some .int) ∈ zz_all := zz_m2 111 rfl rfl
theorem tw_357 : Cond.initialized RX0 ∈ zz_all := zz_m1 5 rfl rfl
theorem tw_358 : Cond.methodLink RX0 67 yX0_sortOf ∈ zz_all := zz_m2 109 rfl rfl
theorem tw_359 : Cond.static yX0_sortOf ∈ zz_all := zz_m2 110 rfl rfl
theorem tw_360 : Cond.methodLink RX0 123 Lib.Math.min.name ∈ zz_all := zz_m2 191 rfl rfl
theorem tw_361 : Cond.code yJ0_length_8abf5 cJ0_length_8abf5 1 (some .int) ∈ zz_all := zz_m2 139 rfl rfl
theorem tw_362 : Cond.methodLink RX0 114 yJ0_length_8abf5 ∈ zz_all := zz_m2 136 rfl rfl
theorem tw_363 : Cond.instanceMethod yJ0_length_8abf5 ∈ zz_all := zz_m2 137 rfl rfl
theorem tw_364 : Cond.selects RJ0 yJ0_length_8abf5 yJ0_length_8abf5 ∈ zz_all := zz_m2 138 rfl rfl
theorem tw_365 : Cond.code yJ0_charAt_5068e cJ0_charAt_5068e 2 (some .char) ∈ zz_all := zz_m2 149 rfl rfl
theorem tw_366 : Cond.methodLink RX0 119 yJ0_charAt_5068e ∈ zz_all := zz_m2 146 rfl rfl
theorem tw_367 : Cond.instanceMethod yJ0_charAt_5068e ∈ zz_all := zz_m2 147 rfl rfl
theorem tw_368 : Cond.selects RJ0 yJ0_charAt_5068e yJ0_charAt_5068e ∈ zz_all := zz_m2 148 rfl rfl
theorem tw_369 : Cond.code yX0_spelling cX0_spelling 1 (some (.object "java/lang/String")) ∈ zz_all := zz_m2 125 rfl rfl
theorem tw_370 : Cond.methodLink RX0 92 yX0_spelling ∈ zz_all := zz_m2 123 rfl rfl
theorem tw_371 : Cond.static yX0_spelling ∈ zz_all := zz_m2 124 rfl rfl
theorem tw_372 : Cond.code yX0_standsAt cX0_standsAt 5 (some .boolean) ∈ zz_all := zz_m2 135 rfl rfl
theorem tw_373 : Cond.methodLink RX0 96 yX0_standsAt ∈ zz_all := zz_m2 133 rfl rfl
theorem tw_374 : Cond.static yX0_standsAt ∈ zz_all := zz_m2 134 rfl rfl
theorem tw_375 : Cond.code yX0_wordAt cX0_wordAt 3 (some .int) ∈ zz_all := zz_m2 122 rfl rfl
theorem tw_376 : Cond.methodLink RX0 76 yX0_wordAt ∈ zz_all := zz_m2 120 rfl rfl
theorem tw_377 : Cond.static yX0_wordAt ∈ zz_all := zz_m2 121 rfl rfl
theorem tw_378 : Cond.fieldLink RX0 37 "HandsReturned$Custom" "word" "I" ∈ zz_all := zz_m1 133 rfl rfl
theorem tw_379 : Cond.fieldLink RX0 40 "HandsReturned$Custom" "seen" "I" ∈ zz_all := zz_m1 134 rfl rfl
theorem tw_380 : Cond.fieldLink RX0 34 "HandsReturned$Custom" "wanted" "I" ∈ zz_all := zz_m1 132 rfl rfl
theorem tw_381 : Cond.code yX0_numberAt cX0_numberAt 4 (some .int) ∈ zz_all := zz_m2 190 rfl rfl
theorem tw_382 : Cond.methodLink RX0 79 yX0_numberAt ∈ zz_all := zz_m2 188 rfl rfl
theorem tw_383 : Cond.static yX0_numberAt ∈ zz_all := zz_m2 189 rfl rfl
theorem tw_384 : Cond.fieldLink RX0 15 "HandsReturned$Custom" "draft" "[I" ∈ zz_all := zz_m1 127 rfl rfl
theorem tw_385 : Cond.code yX0_takeWord cX0_takeWord 3 (some .int) ∈ zz_all := zz_m2 119 rfl rfl
theorem tw_386 : Cond.methodLink RX0 70 yX0_takeWord ∈ zz_all := zz_m2 116 rfl rfl
theorem tw_387 : Cond.instanceMethod yX0_takeWord ∈ zz_all := zz_m2 118 rfl rfl
theorem tw_388 : Cond.selects RX0 yX0_takeWord yX0_takeWord ∈ zz_all := zz_ms 5 rfl rfl
theorem tw_389 : Cond.code yX0_takeNumber cX0_takeNumber 4 (some .int) ∈ zz_all := zz_m2 187 rfl rfl
theorem tw_390 : Cond.methodLink RX0 73 yX0_takeNumber ∈ zz_all := zz_m2 184 rfl rfl
theorem tw_391 : Cond.instanceMethod yX0_takeNumber ∈ zz_all := zz_m2 186 rfl rfl
theorem tw_392 : Cond.selects RX0 yX0_takeNumber yX0_takeNumber ∈ zz_all := zz_ms 6 rfl rfl
theorem tw_393 : Cond.fieldLink RX0 43 "HandsReturned$Custom" "clauses" "I" ∈ zz_all := zz_m1 135 rfl rfl
theorem tw_394 : Cond.fieldLink RX0 18 "HandsReturned$Custom" "flaw" "I" ∈ zz_all := zz_m1 128 rfl rfl
theorem tw_395 : Cond.fieldLink RX0 22 "HandsReturned$Custom" "place" "I" ∈ zz_all := zz_m1 130 rfl rfl
theorem zy_b32xt_0 : decode cX0_sortOf 0 = .ok (.iload_n 0, 1) ∧ decode cX0_sortOf 1 = .ok (.bipush 32, 2) ∧ decode cX0_sortOf 3 = .ok (.if_icmp .ne 5, 3) ∧ decode cX0_sortOf 6 = .ok (.iconst 0, 1) ∧ decode cX0_sortOf 7 = .ok (.ireturn, 1) ∧ decode cX0_sortOf 8 = .ok (.iload_n 0, 1) ∧ decode cX0_sortOf 9 = .ok (.bipush 97, 2) ∧ decode cX0_sortOf 11 = .ok (.if_icmp .lt 9, 3) := by decide +kernel
theorem dX0_sortOf_0 : decode cX0_sortOf 0 = .ok (.iload_n 0, 1) := zy_b32xt_0.1
theorem dX0_sortOf_1 : decode cX0_sortOf 1 = .ok (.bipush 32, 2) := zy_b32xt_0.2.1
theorem dX0_sortOf_3 : decode cX0_sortOf 3 = .ok (.if_icmp .ne 5, 3) := zy_b32xt_0.2.2.1
theorem dX0_sortOf_6 : decode cX0_sortOf 6 = .ok (.iconst 0, 1) := zy_b32xt_0.2.2.2.1
theorem dX0_sortOf_7 : decode cX0_sortOf 7 = .ok (.ireturn, 1) := zy_b32xt_0.2.2.2.2.1
theorem dX0_sortOf_8 : decode cX0_sortOf 8 = .ok (.iload_n 0, 1) := zy_b32xt_0.2.2.2.2.2.1
theorem dX0_sortOf_9 : decode cX0_sortOf 9 = .ok (.bipush 97, 2) := zy_b32xt_0.2.2.2.2.2.2.1
theorem dX0_sortOf_11 : decode cX0_sortOf 11 = .ok (.if_icmp .lt 9, 3) := zy_b32xt_0.2.2.2.2.2.2.2
theorem zy_b32xt_1 : decode cX0_sortOf 14 = .ok (.iload_n 0, 1) ∧ decode cX0_sortOf 15 = .ok (.bipush 122, 2) ∧ decode cX0_sortOf 17 = .ok (.if_icmp .le 15, 3) ∧ decode cX0_sortOf 20 = .ok (.iload_n 0, 1) ∧ decode cX0_sortOf 21 = .ok (.bipush 65, 2) ∧ decode cX0_sortOf 23 = .ok (.if_icmp .lt 11, 3) ∧ decode cX0_sortOf 26 = .ok (.iload_n 0, 1) ∧ decode cX0_sortOf 27 = .ok (.bipush 90, 2) := by decide +kernel
theorem dX0_sortOf_14 : decode cX0_sortOf 14 = .ok (.iload_n 0, 1) := zy_b32xt_1.1
theorem dX0_sortOf_15 : decode cX0_sortOf 15 = .ok (.bipush 122, 2) := zy_b32xt_1.2.1
theorem dX0_sortOf_17 : decode cX0_sortOf 17 = .ok (.if_icmp .le 15, 3) := zy_b32xt_1.2.2.1
theorem dX0_sortOf_20 : decode cX0_sortOf 20 = .ok (.iload_n 0, 1) := zy_b32xt_1.2.2.2.1
theorem dX0_sortOf_21 : decode cX0_sortOf 21 = .ok (.bipush 65, 2) := zy_b32xt_1.2.2.2.2.1
theorem dX0_sortOf_23 : decode cX0_sortOf 23 = .ok (.if_icmp .lt 11, 3) := zy_b32xt_1.2.2.2.2.2.1
theorem dX0_sortOf_26 : decode cX0_sortOf 26 = .ok (.iload_n 0, 1) := zy_b32xt_1.2.2.2.2.2.2.1
theorem dX0_sortOf_27 : decode cX0_sortOf 27 = .ok (.bipush 90, 2) := zy_b32xt_1.2.2.2.2.2.2.2
theorem zy_b32xt_2 : decode cX0_sortOf 29 = .ok (.if_icmp .gt 5, 3) ∧ decode cX0_sortOf 32 = .ok (.iconst 1, 1) ∧ decode cX0_sortOf 33 = .ok (.ireturn, 1) ∧ decode cX0_sortOf 34 = .ok (.iload_n 0, 1) ∧ decode cX0_sortOf 35 = .ok (.bipush 48, 2) ∧ decode cX0_sortOf 37 = .ok (.if_icmp .lt 11, 3) ∧ decode cX0_sortOf 40 = .ok (.iload_n 0, 1) ∧ decode cX0_sortOf 41 = .ok (.bipush 57, 2) := by decide +kernel
theorem dX0_sortOf_29 : decode cX0_sortOf 29 = .ok (.if_icmp .gt 5, 3) := zy_b32xt_2.1
theorem dX0_sortOf_32 : decode cX0_sortOf 32 = .ok (.iconst 1, 1) := zy_b32xt_2.2.1
theorem dX0_sortOf_33 : decode cX0_sortOf 33 = .ok (.ireturn, 1) := zy_b32xt_2.2.2.1
theorem dX0_sortOf_34 : decode cX0_sortOf 34 = .ok (.iload_n 0, 1) := zy_b32xt_2.2.2.2.1
theorem dX0_sortOf_35 : decode cX0_sortOf 35 = .ok (.bipush 48, 2) := zy_b32xt_2.2.2.2.2.1
theorem dX0_sortOf_37 : decode cX0_sortOf 37 = .ok (.if_icmp .lt 11, 3) := zy_b32xt_2.2.2.2.2.2.1
theorem dX0_sortOf_40 : decode cX0_sortOf 40 = .ok (.iload_n 0, 1) := zy_b32xt_2.2.2.2.2.2.2.1
theorem dX0_sortOf_41 : decode cX0_sortOf 41 = .ok (.bipush 57, 2) := zy_b32xt_2.2.2.2.2.2.2.2
theorem zy_b32xt_3 : decode cX0_sortOf 43 = .ok (.if_icmp .gt 5, 3) ∧ decode cX0_sortOf 46 = .ok (.iconst 2, 1) ∧ decode cX0_sortOf 47 = .ok (.ireturn, 1) ∧ decode cX0_sortOf 48 = .ok (.iload_n 0, 1) ∧ decode cX0_sortOf 49 = .ok (.bipush 59, 2) ∧ decode cX0_sortOf 51 = .ok (.if_icmp .ne 7, 3) ∧ decode cX0_sortOf 54 = .ok (.iconst 3, 1) ∧ decode cX0_sortOf 55 = .ok (.goto 4, 3) := by decide +kernel
theorem dX0_sortOf_43 : decode cX0_sortOf 43 = .ok (.if_icmp .gt 5, 3) := zy_b32xt_3.1
theorem dX0_sortOf_46 : decode cX0_sortOf 46 = .ok (.iconst 2, 1) := zy_b32xt_3.2.1
theorem dX0_sortOf_47 : decode cX0_sortOf 47 = .ok (.ireturn, 1) := zy_b32xt_3.2.2.1
theorem dX0_sortOf_48 : decode cX0_sortOf 48 = .ok (.iload_n 0, 1) := zy_b32xt_3.2.2.2.1
theorem dX0_sortOf_49 : decode cX0_sortOf 49 = .ok (.bipush 59, 2) := zy_b32xt_3.2.2.2.2.1
theorem dX0_sortOf_51 : decode cX0_sortOf 51 = .ok (.if_icmp .ne 7, 3) := zy_b32xt_3.2.2.2.2.2.1
theorem dX0_sortOf_54 : decode cX0_sortOf 54 = .ok (.iconst 3, 1) := zy_b32xt_3.2.2.2.2.2.2.1
theorem dX0_sortOf_55 : decode cX0_sortOf 55 = .ok (.goto 4, 3) := zy_b32xt_3.2.2.2.2.2.2.2
theorem dX0_sortOf_58 : decode cX0_sortOf 58 = .ok (.iconst 4, 1) := by decide +kernel
theorem dX0_sortOf_59 : decode cX0_sortOf 59 = .ok (.ireturn, 1) := by decide +kernel
theorem zy_b32xt_4 : decode cX0_beginsToken 0 = .ok (.aload_n 0, 1) ∧ decode cX0_beginsToken 1 = .ok (.iload_n 1, 1) ∧ decode cX0_beginsToken 2 = .ok (.invokevirtual 63, 3) ∧ decode cX0_beginsToken 5 = .ok (.invokestatic 67, 3) ∧ decode cX0_beginsToken 8 = .ok (.istore_n 2, 1) ∧ decode cX0_beginsToken 9 = .ok (.iload_n 2, 1) ∧ decode cX0_beginsToken 10 = .ok (.iconst 1, 1) ∧ decode cX0_beginsToken 11 = .ok (.if_icmp .eq 8, 3) := by decide +kernel
theorem dX0_beginsToken_0 : decode cX0_beginsToken 0 = .ok (.aload_n 0, 1) := zy_b32xt_4.1
theorem dX0_beginsToken_1 : decode cX0_beginsToken 1 = .ok (.iload_n 1, 1) := zy_b32xt_4.2.1
theorem dX0_beginsToken_2 : decode cX0_beginsToken 2 = .ok (.invokevirtual 63, 3) := zy_b32xt_4.2.2.1
theorem dX0_beginsToken_5 : decode cX0_beginsToken 5 = .ok (.invokestatic 67, 3) := zy_b32xt_4.2.2.2.1
theorem dX0_beginsToken_8 : decode cX0_beginsToken 8 = .ok (.istore_n 2, 1) := zy_b32xt_4.2.2.2.2.1
theorem dX0_beginsToken_9 : decode cX0_beginsToken 9 = .ok (.iload_n 2, 1) := zy_b32xt_4.2.2.2.2.2.1
theorem dX0_beginsToken_10 : decode cX0_beginsToken 10 = .ok (.iconst 1, 1) := zy_b32xt_4.2.2.2.2.2.2.1
theorem dX0_beginsToken_11 : decode cX0_beginsToken 11 = .ok (.if_icmp .eq 8, 3) := zy_b32xt_4.2.2.2.2.2.2.2
theorem zy_b32xt_5 : decode cX0_beginsToken 14 = .ok (.iload_n 2, 1) ∧ decode cX0_beginsToken 15 = .ok (.iconst 2, 1) ∧ decode cX0_beginsToken 16 = .ok (.if_icmp .ne 23, 3) ∧ decode cX0_beginsToken 19 = .ok (.iload_n 2, 1) ∧ decode cX0_beginsToken 20 = .ok (.aload_n 0, 1) ∧ decode cX0_beginsToken 21 = .ok (.iload_n 1, 1) ∧ decode cX0_beginsToken 22 = .ok (.iconst 1, 1) ∧ decode cX0_beginsToken 23 = .ok (.isub, 1) := by decide +kernel
theorem dX0_beginsToken_14 : decode cX0_beginsToken 14 = .ok (.iload_n 2, 1) := zy_b32xt_5.1
theorem dX0_beginsToken_15 : decode cX0_beginsToken 15 = .ok (.iconst 2, 1) := zy_b32xt_5.2.1
theorem dX0_beginsToken_16 : decode cX0_beginsToken 16 = .ok (.if_icmp .ne 23, 3) := zy_b32xt_5.2.2.1
theorem dX0_beginsToken_19 : decode cX0_beginsToken 19 = .ok (.iload_n 2, 1) := zy_b32xt_5.2.2.2.1
theorem dX0_beginsToken_20 : decode cX0_beginsToken 20 = .ok (.aload_n 0, 1) := zy_b32xt_5.2.2.2.2.1
theorem dX0_beginsToken_21 : decode cX0_beginsToken 21 = .ok (.iload_n 1, 1) := zy_b32xt_5.2.2.2.2.2.1
theorem dX0_beginsToken_22 : decode cX0_beginsToken 22 = .ok (.iconst 1, 1) := zy_b32xt_5.2.2.2.2.2.2.1
theorem dX0_beginsToken_23 : decode cX0_beginsToken 23 = .ok (.isub, 1) := zy_b32xt_5.2.2.2.2.2.2.2
theorem zy_b32xt_6 : decode cX0_beginsToken 24 = .ok (.invokevirtual 63, 3) ∧ decode cX0_beginsToken 27 = .ok (.invokestatic 67, 3) ∧ decode cX0_beginsToken 30 = .ok (.if_icmp .eq 7, 3) ∧ decode cX0_beginsToken 33 = .ok (.iconst 1, 1) ∧ decode cX0_beginsToken 34 = .ok (.goto 4, 3) ∧ decode cX0_beginsToken 37 = .ok (.iconst 0, 1) ∧ decode cX0_beginsToken 38 = .ok (.ireturn, 1) ∧ decode cX0_beginsToken 39 = .ok (.iload_n 2, 1) := by decide +kernel
theorem dX0_beginsToken_24 : decode cX0_beginsToken 24 = .ok (.invokevirtual 63, 3) := zy_b32xt_6.1
theorem dX0_beginsToken_27 : decode cX0_beginsToken 27 = .ok (.invokestatic 67, 3) := zy_b32xt_6.2.1
theorem dX0_beginsToken_30 : decode cX0_beginsToken 30 = .ok (.if_icmp .eq 7, 3) := zy_b32xt_6.2.2.1
theorem dX0_beginsToken_33 : decode cX0_beginsToken 33 = .ok (.iconst 1, 1) := zy_b32xt_6.2.2.2.1
theorem dX0_beginsToken_34 : decode cX0_beginsToken 34 = .ok (.goto 4, 3) := zy_b32xt_6.2.2.2.2.1
theorem dX0_beginsToken_37 : decode cX0_beginsToken 37 = .ok (.iconst 0, 1) := zy_b32xt_6.2.2.2.2.2.1
theorem dX0_beginsToken_38 : decode cX0_beginsToken 38 = .ok (.ireturn, 1) := zy_b32xt_6.2.2.2.2.2.2.1
theorem dX0_beginsToken_39 : decode cX0_beginsToken 39 = .ok (.iload_n 2, 1) := zy_b32xt_6.2.2.2.2.2.2.2
theorem zy_b32xt_7 : decode cX0_beginsToken 40 = .ok (.ifCond .eq 7, 3) ∧ decode cX0_beginsToken 43 = .ok (.iconst 1, 1) ∧ decode cX0_beginsToken 44 = .ok (.goto 4, 3) ∧ decode cX0_beginsToken 47 = .ok (.iconst 0, 1) ∧ decode cX0_beginsToken 48 = .ok (.ireturn, 1) := by decide +kernel
theorem dX0_beginsToken_40 : decode cX0_beginsToken 40 = .ok (.ifCond .eq 7, 3) := zy_b32xt_7.1
theorem dX0_beginsToken_43 : decode cX0_beginsToken 43 = .ok (.iconst 1, 1) := zy_b32xt_7.2.1
theorem dX0_beginsToken_44 : decode cX0_beginsToken 44 = .ok (.goto 4, 3) := zy_b32xt_7.2.2.1
theorem dX0_beginsToken_47 : decode cX0_beginsToken 47 = .ok (.iconst 0, 1) := zy_b32xt_7.2.2.2.1
theorem dX0_beginsToken_48 : decode cX0_beginsToken 48 = .ok (.ireturn, 1) := zy_b32xt_7.2.2.2.2
theorem zy_b32xt_8 : decode cX0_numberAt 0 = .ok (.iconst 0, 1) ∧ decode cX0_numberAt 1 = .ok (.istore_n 2, 1) ∧ decode cX0_numberAt 2 = .ok (.iload_n 1, 1) ∧ decode cX0_numberAt 3 = .ok (.istore_n 3, 1) ∧ decode cX0_numberAt 4 = .ok (.iload_n 3, 1) ∧ decode cX0_numberAt 5 = .ok (.aload_n 0, 1) ∧ decode cX0_numberAt 6 = .ok (.getfield 46, 3) ∧ decode cX0_numberAt 9 = .ok (.if_icmp .ge 41, 3) := by decide +kernel
theorem dX0_numberAt_0 : decode cX0_numberAt 0 = .ok (.iconst 0, 1) := zy_b32xt_8.1
theorem dX0_numberAt_1 : decode cX0_numberAt 1 = .ok (.istore_n 2, 1) := zy_b32xt_8.2.1
theorem dX0_numberAt_2 : decode cX0_numberAt 2 = .ok (.iload_n 1, 1) := zy_b32xt_8.2.2.1
theorem dX0_numberAt_3 : decode cX0_numberAt 3 = .ok (.istore_n 3, 1) := zy_b32xt_8.2.2.2.1
theorem dX0_numberAt_4 : decode cX0_numberAt 4 = .ok (.iload_n 3, 1) := zy_b32xt_8.2.2.2.2.1
theorem dX0_numberAt_5 : decode cX0_numberAt 5 = .ok (.aload_n 0, 1) := zy_b32xt_8.2.2.2.2.2.1
theorem dX0_numberAt_6 : decode cX0_numberAt 6 = .ok (.getfield 46, 3) := zy_b32xt_8.2.2.2.2.2.2.1
theorem dX0_numberAt_9 : decode cX0_numberAt 9 = .ok (.if_icmp .ge 41, 3) := zy_b32xt_8.2.2.2.2.2.2.2
theorem zy_b32xt_9 : decode cX0_numberAt 12 = .ok (.aload_n 0, 1) ∧ decode cX0_numberAt 13 = .ok (.iload_n 3, 1) ∧ decode cX0_numberAt 14 = .ok (.invokevirtual 63, 3) ∧ decode cX0_numberAt 17 = .ok (.invokestatic 67, 3) ∧ decode cX0_numberAt 20 = .ok (.iconst 2, 1) ∧ decode cX0_numberAt 21 = .ok (.if_icmp .ne 29, 3) ∧ decode cX0_numberAt 24 = .ok (.sipush 1000, 3) ∧ decode cX0_numberAt 27 = .ok (.iload_n 2, 1) := by decide +kernel
theorem dX0_numberAt_12 : decode cX0_numberAt 12 = .ok (.aload_n 0, 1) := zy_b32xt_9.1
theorem dX0_numberAt_13 : decode cX0_numberAt 13 = .ok (.iload_n 3, 1) := zy_b32xt_9.2.1
theorem dX0_numberAt_14 : decode cX0_numberAt 14 = .ok (.invokevirtual 63, 3) := zy_b32xt_9.2.2.1
theorem dX0_numberAt_17 : decode cX0_numberAt 17 = .ok (.invokestatic 67, 3) := zy_b32xt_9.2.2.2.1
theorem dX0_numberAt_20 : decode cX0_numberAt 20 = .ok (.iconst 2, 1) := zy_b32xt_9.2.2.2.2.1
theorem dX0_numberAt_21 : decode cX0_numberAt 21 = .ok (.if_icmp .ne 29, 3) := zy_b32xt_9.2.2.2.2.2.1
theorem dX0_numberAt_24 : decode cX0_numberAt 24 = .ok (.sipush 1000, 3) := zy_b32xt_9.2.2.2.2.2.2.1
theorem dX0_numberAt_27 : decode cX0_numberAt 27 = .ok (.iload_n 2, 1) := zy_b32xt_9.2.2.2.2.2.2.2
theorem zy_b32xt_10 : decode cX0_numberAt 28 = .ok (.bipush 10, 2) ∧ decode cX0_numberAt 30 = .ok (.imul, 1) ∧ decode cX0_numberAt 31 = .ok (.aload_n 0, 1) ∧ decode cX0_numberAt 32 = .ok (.iload_n 3, 1) ∧ decode cX0_numberAt 33 = .ok (.invokevirtual 63, 3) ∧ decode cX0_numberAt 36 = .ok (.iadd, 1) ∧ decode cX0_numberAt 37 = .ok (.bipush 48, 2) ∧ decode cX0_numberAt 39 = .ok (.isub, 1) := by decide +kernel
theorem dX0_numberAt_28 : decode cX0_numberAt 28 = .ok (.bipush 10, 2) := zy_b32xt_10.1
theorem dX0_numberAt_30 : decode cX0_numberAt 30 = .ok (.imul, 1) := zy_b32xt_10.2.1
theorem dX0_numberAt_31 : decode cX0_numberAt 31 = .ok (.aload_n 0, 1) := zy_b32xt_10.2.2.1
theorem dX0_numberAt_32 : decode cX0_numberAt 32 = .ok (.iload_n 3, 1) := zy_b32xt_10.2.2.2.1
theorem dX0_numberAt_33 : decode cX0_numberAt 33 = .ok (.invokevirtual 63, 3) := zy_b32xt_10.2.2.2.2.1
theorem dX0_numberAt_36 : decode cX0_numberAt 36 = .ok (.iadd, 1) := zy_b32xt_10.2.2.2.2.2.1
theorem dX0_numberAt_37 : decode cX0_numberAt 37 = .ok (.bipush 48, 2) := zy_b32xt_10.2.2.2.2.2.2.1
theorem dX0_numberAt_39 : decode cX0_numberAt 39 = .ok (.isub, 1) := zy_b32xt_10.2.2.2.2.2.2.2
theorem zy_b32xt_11 : decode cX0_numberAt 40 = .ok (.invokestatic 123, 3) ∧ decode cX0_numberAt 43 = .ok (.istore_n 2, 1) ∧ decode cX0_numberAt 44 = .ok (.iinc 3 1, 3) ∧ decode cX0_numberAt 47 = .ok (.goto (-43), 3) ∧ decode cX0_numberAt 50 = .ok (.iload_n 2, 1) ∧ decode cX0_numberAt 51 = .ok (.ireturn, 1) := by decide +kernel
theorem dX0_numberAt_40 : decode cX0_numberAt 40 = .ok (.invokestatic 123, 3) := zy_b32xt_11.1
theorem dX0_numberAt_43 : decode cX0_numberAt 43 = .ok (.istore_n 2, 1) := zy_b32xt_11.2.1
theorem dX0_numberAt_44 : decode cX0_numberAt 44 = .ok (.iinc 3 1, 3) := zy_b32xt_11.2.2.1
theorem dX0_numberAt_47 : decode cX0_numberAt 47 = .ok (.goto (-43), 3) := zy_b32xt_11.2.2.2.1
theorem dX0_numberAt_50 : decode cX0_numberAt 50 = .ok (.iload_n 2, 1) := zy_b32xt_11.2.2.2.2.1
theorem dX0_numberAt_51 : decode cX0_numberAt 51 = .ok (.ireturn, 1) := zy_b32xt_11.2.2.2.2.2
theorem zy_b32xt_12 : decode cX0_spelling 0 = .ok (.iload_n 0, 1) ∧ decode cX0_spelling 1 = .ok (.tableswitch 57 0 5 #[39, 42, 45, 48, 51, 54], 39) ∧ decode cX0_spelling 40 = .ok (.ldc 100, 2) ∧ decode cX0_spelling 42 = .ok (.areturn, 1) ∧ decode cX0_spelling 43 = .ok (.ldc 102, 2) ∧ decode cX0_spelling 45 = .ok (.areturn, 1) ∧ decode cX0_spelling 46 = .ok (.ldc 104, 2) ∧ decode cX0_spelling 48 = .ok (.areturn, 1) := by decide +kernel
theorem dX0_spelling_0 : decode cX0_spelling 0 = .ok (.iload_n 0, 1) := zy_b32xt_12.1
theorem dX0_spelling_1 : decode cX0_spelling 1 = .ok (.tableswitch 57 0 5 #[39, 42, 45, 48, 51, 54], 39) := zy_b32xt_12.2.1
theorem dX0_spelling_40 : decode cX0_spelling 40 = .ok (.ldc 100, 2) := zy_b32xt_12.2.2.1
theorem dX0_spelling_42 : decode cX0_spelling 42 = .ok (.areturn, 1) := zy_b32xt_12.2.2.2.1
theorem dX0_spelling_43 : decode cX0_spelling 43 = .ok (.ldc 102, 2) := zy_b32xt_12.2.2.2.2.1
theorem dX0_spelling_45 : decode cX0_spelling 45 = .ok (.areturn, 1) := zy_b32xt_12.2.2.2.2.2.1
theorem dX0_spelling_46 : decode cX0_spelling 46 = .ok (.ldc 104, 2) := zy_b32xt_12.2.2.2.2.2.2.1
theorem dX0_spelling_48 : decode cX0_spelling 48 = .ok (.areturn, 1) := zy_b32xt_12.2.2.2.2.2.2.2
theorem zy_b32xt_13 : decode cX0_spelling 49 = .ok (.ldc 106, 2) ∧ decode cX0_spelling 51 = .ok (.areturn, 1) ∧ decode cX0_spelling 52 = .ok (.ldc 108, 2) ∧ decode cX0_spelling 54 = .ok (.areturn, 1) ∧ decode cX0_spelling 55 = .ok (.ldc 110, 2) ∧ decode cX0_spelling 57 = .ok (.areturn, 1) ∧ decode cX0_spelling 58 = .ok (.ldc 112, 2) ∧ decode cX0_spelling 60 = .ok (.areturn, 1) := by decide +kernel
theorem dX0_spelling_49 : decode cX0_spelling 49 = .ok (.ldc 106, 2) := zy_b32xt_13.1
theorem dX0_spelling_51 : decode cX0_spelling 51 = .ok (.areturn, 1) := zy_b32xt_13.2.1
theorem dX0_spelling_52 : decode cX0_spelling 52 = .ok (.ldc 108, 2) := zy_b32xt_13.2.2.1
theorem dX0_spelling_54 : decode cX0_spelling 54 = .ok (.areturn, 1) := zy_b32xt_13.2.2.2.1
theorem dX0_spelling_55 : decode cX0_spelling 55 = .ok (.ldc 110, 2) := zy_b32xt_13.2.2.2.2.1
theorem dX0_spelling_57 : decode cX0_spelling 57 = .ok (.areturn, 1) := zy_b32xt_13.2.2.2.2.2.1
theorem dX0_spelling_58 : decode cX0_spelling 58 = .ok (.ldc 112, 2) := zy_b32xt_13.2.2.2.2.2.2.1
theorem dX0_spelling_60 : decode cX0_spelling 60 = .ok (.areturn, 1) := zy_b32xt_13.2.2.2.2.2.2.2
theorem zy_b32xt_14 : decode cX0_standsAt 0 = .ok (.aload_n 0, 1) ∧ decode cX0_standsAt 1 = .ok (.invokevirtual 114, 3) ∧ decode cX0_standsAt 4 = .ok (.istore_n 3, 1) ∧ decode cX0_standsAt 5 = .ok (.iconst 0, 1) ∧ decode cX0_standsAt 6 = .ok (.istore 4, 2) ∧ decode cX0_standsAt 8 = .ok (.iload 4, 2) ∧ decode cX0_standsAt 10 = .ok (.iload_n 3, 1) ∧ decode cX0_standsAt 11 = .ok (.if_icmp .ge 28, 3) := by decide +kernel
theorem dX0_standsAt_0 : decode cX0_standsAt 0 = .ok (.aload_n 0, 1) := zy_b32xt_14.1
theorem dX0_standsAt_1 : decode cX0_standsAt 1 = .ok (.invokevirtual 114, 3) := zy_b32xt_14.2.1
theorem dX0_standsAt_4 : decode cX0_standsAt 4 = .ok (.istore_n 3, 1) := zy_b32xt_14.2.2.1
theorem dX0_standsAt_5 : decode cX0_standsAt 5 = .ok (.iconst 0, 1) := zy_b32xt_14.2.2.2.1
theorem dX0_standsAt_6 : decode cX0_standsAt 6 = .ok (.istore 4, 2) := zy_b32xt_14.2.2.2.2.1
theorem dX0_standsAt_8 : decode cX0_standsAt 8 = .ok (.iload 4, 2) := zy_b32xt_14.2.2.2.2.2.1
theorem dX0_standsAt_10 : decode cX0_standsAt 10 = .ok (.iload_n 3, 1) := zy_b32xt_14.2.2.2.2.2.2.1
theorem dX0_standsAt_11 : decode cX0_standsAt 11 = .ok (.if_icmp .ge 28, 3) := zy_b32xt_14.2.2.2.2.2.2.2
theorem zy_b32xt_15 : decode cX0_standsAt 14 = .ok (.aload_n 1, 1) ∧ decode cX0_standsAt 15 = .ok (.iload_n 2, 1) ∧ decode cX0_standsAt 16 = .ok (.iload 4, 2) ∧ decode cX0_standsAt 18 = .ok (.iadd, 1) ∧ decode cX0_standsAt 19 = .ok (.invokevirtual 63, 3) ∧ decode cX0_standsAt 22 = .ok (.aload_n 0, 1) ∧ decode cX0_standsAt 23 = .ok (.iload 4, 2) ∧ decode cX0_standsAt 25 = .ok (.invokevirtual 119, 3) := by decide +kernel
theorem dX0_standsAt_14 : decode cX0_standsAt 14 = .ok (.aload_n 1, 1) := zy_b32xt_15.1
theorem dX0_standsAt_15 : decode cX0_standsAt 15 = .ok (.iload_n 2, 1) := zy_b32xt_15.2.1
theorem dX0_standsAt_16 : decode cX0_standsAt 16 = .ok (.iload 4, 2) := zy_b32xt_15.2.2.1
theorem dX0_standsAt_18 : decode cX0_standsAt 18 = .ok (.iadd, 1) := zy_b32xt_15.2.2.2.1
theorem dX0_standsAt_19 : decode cX0_standsAt 19 = .ok (.invokevirtual 63, 3) := zy_b32xt_15.2.2.2.2.1
theorem dX0_standsAt_22 : decode cX0_standsAt 22 = .ok (.aload_n 0, 1) := zy_b32xt_15.2.2.2.2.2.1
theorem dX0_standsAt_23 : decode cX0_standsAt 23 = .ok (.iload 4, 2) := zy_b32xt_15.2.2.2.2.2.2.1
theorem dX0_standsAt_25 : decode cX0_standsAt 25 = .ok (.invokevirtual 119, 3) := zy_b32xt_15.2.2.2.2.2.2.2
theorem zy_b32xt_16 : decode cX0_standsAt 28 = .ok (.if_icmp .eq 5, 3) ∧ decode cX0_standsAt 31 = .ok (.iconst 0, 1) ∧ decode cX0_standsAt 32 = .ok (.ireturn, 1) ∧ decode cX0_standsAt 33 = .ok (.iinc 4 1, 3) ∧ decode cX0_standsAt 36 = .ok (.goto (-28), 3) ∧ decode cX0_standsAt 39 = .ok (.aload_n 1, 1) ∧ decode cX0_standsAt 40 = .ok (.iload_n 2, 1) ∧ decode cX0_standsAt 41 = .ok (.iload_n 3, 1) := by decide +kernel
theorem dX0_standsAt_28 : decode cX0_standsAt 28 = .ok (.if_icmp .eq 5, 3) := zy_b32xt_16.1
theorem dX0_standsAt_31 : decode cX0_standsAt 31 = .ok (.iconst 0, 1) := zy_b32xt_16.2.1
theorem dX0_standsAt_32 : decode cX0_standsAt 32 = .ok (.ireturn, 1) := zy_b32xt_16.2.2.1
theorem dX0_standsAt_33 : decode cX0_standsAt 33 = .ok (.iinc 4 1, 3) := zy_b32xt_16.2.2.2.1
theorem dX0_standsAt_36 : decode cX0_standsAt 36 = .ok (.goto (-28), 3) := zy_b32xt_16.2.2.2.2.1
theorem dX0_standsAt_39 : decode cX0_standsAt 39 = .ok (.aload_n 1, 1) := zy_b32xt_16.2.2.2.2.2.1
theorem dX0_standsAt_40 : decode cX0_standsAt 40 = .ok (.iload_n 2, 1) := zy_b32xt_16.2.2.2.2.2.2.1
theorem dX0_standsAt_41 : decode cX0_standsAt 41 = .ok (.iload_n 3, 1) := zy_b32xt_16.2.2.2.2.2.2.2
theorem zy_b32xt_17 : decode cX0_standsAt 42 = .ok (.iadd, 1) ∧ decode cX0_standsAt 43 = .ok (.invokevirtual 63, 3) ∧ decode cX0_standsAt 46 = .ok (.invokestatic 67, 3) ∧ decode cX0_standsAt 49 = .ok (.iconst 1, 1) ∧ decode cX0_standsAt 50 = .ok (.if_icmp .eq 7, 3) ∧ decode cX0_standsAt 53 = .ok (.iconst 1, 1) ∧ decode cX0_standsAt 54 = .ok (.goto 4, 3) ∧ decode cX0_standsAt 57 = .ok (.iconst 0, 1) := by decide +kernel
theorem dX0_standsAt_42 : decode cX0_standsAt 42 = .ok (.iadd, 1) := zy_b32xt_17.1
theorem dX0_standsAt_43 : decode cX0_standsAt 43 = .ok (.invokevirtual 63, 3) := zy_b32xt_17.2.1
theorem dX0_standsAt_46 : decode cX0_standsAt 46 = .ok (.invokestatic 67, 3) := zy_b32xt_17.2.2.1
theorem dX0_standsAt_49 : decode cX0_standsAt 49 = .ok (.iconst 1, 1) := zy_b32xt_17.2.2.2.1
theorem dX0_standsAt_50 : decode cX0_standsAt 50 = .ok (.if_icmp .eq 7, 3) := zy_b32xt_17.2.2.2.2.1
theorem dX0_standsAt_53 : decode cX0_standsAt 53 = .ok (.iconst 1, 1) := zy_b32xt_17.2.2.2.2.2.1
theorem dX0_standsAt_54 : decode cX0_standsAt 54 = .ok (.goto 4, 3) := zy_b32xt_17.2.2.2.2.2.2.1
theorem dX0_standsAt_57 : decode cX0_standsAt 57 = .ok (.iconst 0, 1) := zy_b32xt_17.2.2.2.2.2.2.2
theorem dX0_standsAt_58 : decode cX0_standsAt 58 = .ok (.ireturn, 1) := by decide +kernel
theorem zy_b32xt_18 : decode cX0_wordAt 0 = .ok (.iconst 0, 1) ∧ decode cX0_wordAt 1 = .ok (.istore_n 2, 1) ∧ decode cX0_wordAt 2 = .ok (.iload_n 2, 1) ∧ decode cX0_wordAt 3 = .ok (.bipush 7, 2) ∧ decode cX0_wordAt 5 = .ok (.if_icmp .ge 23, 3) ∧ decode cX0_wordAt 8 = .ok (.iload_n 2, 1) ∧ decode cX0_wordAt 9 = .ok (.invokestatic 92, 3) ∧ decode cX0_wordAt 12 = .ok (.aload_n 0, 1) := by decide +kernel
theorem dX0_wordAt_0 : decode cX0_wordAt 0 = .ok (.iconst 0, 1) := zy_b32xt_18.1
theorem dX0_wordAt_1 : decode cX0_wordAt 1 = .ok (.istore_n 2, 1) := zy_b32xt_18.2.1
theorem dX0_wordAt_2 : decode cX0_wordAt 2 = .ok (.iload_n 2, 1) := zy_b32xt_18.2.2.1
theorem dX0_wordAt_3 : decode cX0_wordAt 3 = .ok (.bipush 7, 2) := zy_b32xt_18.2.2.2.1
theorem dX0_wordAt_5 : decode cX0_wordAt 5 = .ok (.if_icmp .ge 23, 3) := zy_b32xt_18.2.2.2.2.1
theorem dX0_wordAt_8 : decode cX0_wordAt 8 = .ok (.iload_n 2, 1) := zy_b32xt_18.2.2.2.2.2.1
theorem dX0_wordAt_9 : decode cX0_wordAt 9 = .ok (.invokestatic 92, 3) := zy_b32xt_18.2.2.2.2.2.2.1
theorem dX0_wordAt_12 : decode cX0_wordAt 12 = .ok (.aload_n 0, 1) := zy_b32xt_18.2.2.2.2.2.2.2
theorem zy_b32xt_19 : decode cX0_wordAt 13 = .ok (.iload_n 1, 1) ∧ decode cX0_wordAt 14 = .ok (.invokestatic 96, 3) ∧ decode cX0_wordAt 17 = .ok (.ifCond .eq 5, 3) ∧ decode cX0_wordAt 20 = .ok (.iload_n 2, 1) ∧ decode cX0_wordAt 21 = .ok (.ireturn, 1) ∧ decode cX0_wordAt 22 = .ok (.iinc 2 1, 3) ∧ decode cX0_wordAt 25 = .ok (.goto (-23), 3) ∧ decode cX0_wordAt 28 = .ok (.iconst (-1), 1) := by decide +kernel
theorem dX0_wordAt_13 : decode cX0_wordAt 13 = .ok (.iload_n 1, 1) := zy_b32xt_19.1
theorem dX0_wordAt_14 : decode cX0_wordAt 14 = .ok (.invokestatic 96, 3) := zy_b32xt_19.2.1
theorem dX0_wordAt_17 : decode cX0_wordAt 17 = .ok (.ifCond .eq 5, 3) := zy_b32xt_19.2.2.1
theorem dX0_wordAt_20 : decode cX0_wordAt 20 = .ok (.iload_n 2, 1) := zy_b32xt_19.2.2.2.1
theorem dX0_wordAt_21 : decode cX0_wordAt 21 = .ok (.ireturn, 1) := zy_b32xt_19.2.2.2.2.1
theorem dX0_wordAt_22 : decode cX0_wordAt 22 = .ok (.iinc 2 1, 3) := zy_b32xt_19.2.2.2.2.2.1
theorem dX0_wordAt_25 : decode cX0_wordAt 25 = .ok (.goto (-23), 3) := zy_b32xt_19.2.2.2.2.2.2.1
theorem dX0_wordAt_28 : decode cX0_wordAt 28 = .ok (.iconst (-1), 1) := zy_b32xt_19.2.2.2.2.2.2.2
theorem dX0_wordAt_29 : decode cX0_wordAt 29 = .ok (.ireturn, 1) := by decide +kernel
theorem zy_b32xt_20 : decode cX0_takeWord 0 = .ok (.aload_n 0, 1) ∧ decode cX0_takeWord 1 = .ok (.aload_n 1, 1) ∧ decode cX0_takeWord 2 = .ok (.iload_n 2, 1) ∧ decode cX0_takeWord 3 = .ok (.invokestatic 76, 3) ∧ decode cX0_takeWord 6 = .ok (.putfield 37, 3) ∧ decode cX0_takeWord 9 = .ok (.aload_n 0, 1) ∧ decode cX0_takeWord 10 = .ok (.getfield 37, 3) ∧ decode cX0_takeWord 13 = .ok (.iconst (-1), 1) := by decide +kernel
theorem dX0_takeWord_0 : decode cX0_takeWord 0 = .ok (.aload_n 0, 1) := zy_b32xt_20.1
theorem dX0_takeWord_1 : decode cX0_takeWord 1 = .ok (.aload_n 1, 1) := zy_b32xt_20.2.1
theorem dX0_takeWord_2 : decode cX0_takeWord 2 = .ok (.iload_n 2, 1) := zy_b32xt_20.2.2.1
theorem dX0_takeWord_3 : decode cX0_takeWord 3 = .ok (.invokestatic 76, 3) := zy_b32xt_20.2.2.2.1
theorem dX0_takeWord_6 : decode cX0_takeWord 6 = .ok (.putfield 37, 3) := zy_b32xt_20.2.2.2.2.1
theorem dX0_takeWord_9 : decode cX0_takeWord 9 = .ok (.aload_n 0, 1) := zy_b32xt_20.2.2.2.2.2.1
theorem dX0_takeWord_10 : decode cX0_takeWord 10 = .ok (.getfield 37, 3) := zy_b32xt_20.2.2.2.2.2.2.1
theorem dX0_takeWord_13 : decode cX0_takeWord 13 = .ok (.iconst (-1), 1) := zy_b32xt_20.2.2.2.2.2.2.2
theorem zy_b32xt_21 : decode cX0_takeWord 14 = .ok (.if_icmp .ne 5, 3) ∧ decode cX0_takeWord 17 = .ok (.iconst 1, 1) ∧ decode cX0_takeWord 18 = .ok (.ireturn, 1) ∧ decode cX0_takeWord 19 = .ok (.aload_n 0, 1) ∧ decode cX0_takeWord 20 = .ok (.getfield 40, 3) ∧ decode cX0_takeWord 23 = .ok (.iconst 1, 1) ∧ decode cX0_takeWord 24 = .ok (.aload_n 0, 1) ∧ decode cX0_takeWord 25 = .ok (.getfield 37, 3) := by decide +kernel
theorem dX0_takeWord_14 : decode cX0_takeWord 14 = .ok (.if_icmp .ne 5, 3) := zy_b32xt_21.1
theorem dX0_takeWord_17 : decode cX0_takeWord 17 = .ok (.iconst 1, 1) := zy_b32xt_21.2.1
theorem dX0_takeWord_18 : decode cX0_takeWord 18 = .ok (.ireturn, 1) := zy_b32xt_21.2.2.1
theorem dX0_takeWord_19 : decode cX0_takeWord 19 = .ok (.aload_n 0, 1) := zy_b32xt_21.2.2.2.1
theorem dX0_takeWord_20 : decode cX0_takeWord 20 = .ok (.getfield 40, 3) := zy_b32xt_21.2.2.2.2.1
theorem dX0_takeWord_23 : decode cX0_takeWord 23 = .ok (.iconst 1, 1) := zy_b32xt_21.2.2.2.2.2.1
theorem dX0_takeWord_24 : decode cX0_takeWord 24 = .ok (.aload_n 0, 1) := zy_b32xt_21.2.2.2.2.2.2.1
theorem dX0_takeWord_25 : decode cX0_takeWord 25 = .ok (.getfield 37, 3) := zy_b32xt_21.2.2.2.2.2.2.2
theorem zy_b32xt_22 : decode cX0_takeWord 28 = .ok (.ishl, 1) ∧ decode cX0_takeWord 29 = .ok (.iand, 1) ∧ decode cX0_takeWord 30 = .ok (.ifCond .eq 5, 3) ∧ decode cX0_takeWord 33 = .ok (.iconst 2, 1) ∧ decode cX0_takeWord 34 = .ok (.ireturn, 1) ∧ decode cX0_takeWord 35 = .ok (.aload_n 0, 1) ∧ decode cX0_takeWord 36 = .ok (.dup, 1) ∧ decode cX0_takeWord 37 = .ok (.getfield 40, 3) := by decide +kernel
theorem dX0_takeWord_28 : decode cX0_takeWord 28 = .ok (.ishl, 1) := zy_b32xt_22.1
theorem dX0_takeWord_29 : decode cX0_takeWord 29 = .ok (.iand, 1) := zy_b32xt_22.2.1
theorem dX0_takeWord_30 : decode cX0_takeWord 30 = .ok (.ifCond .eq 5, 3) := zy_b32xt_22.2.2.1
theorem dX0_takeWord_33 : decode cX0_takeWord 33 = .ok (.iconst 2, 1) := zy_b32xt_22.2.2.2.1
theorem dX0_takeWord_34 : decode cX0_takeWord 34 = .ok (.ireturn, 1) := zy_b32xt_22.2.2.2.2.1
theorem dX0_takeWord_35 : decode cX0_takeWord 35 = .ok (.aload_n 0, 1) := zy_b32xt_22.2.2.2.2.2.1
theorem dX0_takeWord_36 : decode cX0_takeWord 36 = .ok (.dup, 1) := zy_b32xt_22.2.2.2.2.2.2.1
theorem dX0_takeWord_37 : decode cX0_takeWord 37 = .ok (.getfield 40, 3) := zy_b32xt_22.2.2.2.2.2.2.2
theorem zy_b32xt_23 : decode cX0_takeWord 40 = .ok (.iconst 1, 1) ∧ decode cX0_takeWord 41 = .ok (.aload_n 0, 1) ∧ decode cX0_takeWord 42 = .ok (.getfield 37, 3) ∧ decode cX0_takeWord 45 = .ok (.ishl, 1) ∧ decode cX0_takeWord 46 = .ok (.ior, 1) ∧ decode cX0_takeWord 47 = .ok (.putfield 40, 3) ∧ decode cX0_takeWord 50 = .ok (.aload_n 0, 1) ∧ decode cX0_takeWord 51 = .ok (.iconst 2, 1) := by decide +kernel
theorem dX0_takeWord_40 : decode cX0_takeWord 40 = .ok (.iconst 1, 1) := zy_b32xt_23.1
theorem dX0_takeWord_41 : decode cX0_takeWord 41 = .ok (.aload_n 0, 1) := zy_b32xt_23.2.1
theorem dX0_takeWord_42 : decode cX0_takeWord 42 = .ok (.getfield 37, 3) := zy_b32xt_23.2.2.1
theorem dX0_takeWord_45 : decode cX0_takeWord 45 = .ok (.ishl, 1) := zy_b32xt_23.2.2.2.1
theorem dX0_takeWord_46 : decode cX0_takeWord 46 = .ok (.ior, 1) := zy_b32xt_23.2.2.2.2.1
theorem dX0_takeWord_47 : decode cX0_takeWord 47 = .ok (.putfield 40, 3) := zy_b32xt_23.2.2.2.2.2.1
theorem dX0_takeWord_50 : decode cX0_takeWord 50 = .ok (.aload_n 0, 1) := zy_b32xt_23.2.2.2.2.2.2.1
theorem dX0_takeWord_51 : decode cX0_takeWord 51 = .ok (.iconst 2, 1) := zy_b32xt_23.2.2.2.2.2.2.2
theorem zy_b32xt_24 : decode cX0_takeWord 52 = .ok (.putfield 34, 3) ∧ decode cX0_takeWord 55 = .ok (.iconst 0, 1) ∧ decode cX0_takeWord 56 = .ok (.ireturn, 1) := by decide +kernel
theorem dX0_takeWord_52 : decode cX0_takeWord 52 = .ok (.putfield 34, 3) := zy_b32xt_24.1
theorem dX0_takeWord_55 : decode cX0_takeWord 55 = .ok (.iconst 0, 1) := zy_b32xt_24.2.1
theorem dX0_takeWord_56 : decode cX0_takeWord 56 = .ok (.ireturn, 1) := zy_b32xt_24.2.2
theorem zy_b32xt_25 : decode cX0_takeNumber 0 = .ok (.aload_n 1, 1) ∧ decode cX0_takeNumber 1 = .ok (.iload_n 2, 1) ∧ decode cX0_takeNumber 2 = .ok (.invokestatic 79, 3) ∧ decode cX0_takeNumber 5 = .ok (.istore_n 3, 1) ∧ decode cX0_takeNumber 6 = .ok (.aload_n 0, 1) ∧ decode cX0_takeNumber 7 = .ok (.getfield 37, 3) ∧ decode cX0_takeNumber 10 = .ok (.iconst 0, 1) ∧ decode cX0_takeNumber 11 = .ok (.bipush 6, 2) := by decide +kernel
theorem dX0_takeNumber_0 : decode cX0_takeNumber 0 = .ok (.aload_n 1, 1) := zy_b32xt_25.1
theorem dX0_takeNumber_1 : decode cX0_takeNumber 1 = .ok (.iload_n 2, 1) := zy_b32xt_25.2.1
theorem dX0_takeNumber_2 : decode cX0_takeNumber 2 = .ok (.invokestatic 79, 3) := zy_b32xt_25.2.2.1
theorem dX0_takeNumber_5 : decode cX0_takeNumber 5 = .ok (.istore_n 3, 1) := zy_b32xt_25.2.2.2.1
theorem dX0_takeNumber_6 : decode cX0_takeNumber 6 = .ok (.aload_n 0, 1) := zy_b32xt_25.2.2.2.2.1
theorem dX0_takeNumber_7 : decode cX0_takeNumber 7 = .ok (.getfield 37, 3) := zy_b32xt_25.2.2.2.2.2.1
theorem dX0_takeNumber_10 : decode cX0_takeNumber 10 = .ok (.iconst 0, 1) := zy_b32xt_25.2.2.2.2.2.2.1
theorem dX0_takeNumber_11 : decode cX0_takeNumber 11 = .ok (.bipush 6, 2) := zy_b32xt_25.2.2.2.2.2.2.2
theorem zy_b32xt_26 : decode cX0_takeNumber 13 = .ok (.invokestatic 82, 3) ∧ decode cX0_takeNumber 16 = .ok (.ifCond .eq 26, 3) ∧ decode cX0_takeNumber 19 = .ok (.iload_n 3, 1) ∧ decode cX0_takeNumber 20 = .ok (.getstatic 86, 3) ∧ decode cX0_takeNumber 23 = .ok (.aload_n 0, 1) ∧ decode cX0_takeNumber 24 = .ok (.getfield 37, 3) ∧ decode cX0_takeNumber 27 = .ok (.iaload, 1) ∧ decode cX0_takeNumber 28 = .ok (.getstatic 89, 3) := by decide +kernel
theorem dX0_takeNumber_13 : decode cX0_takeNumber 13 = .ok (.invokestatic 82, 3) := zy_b32xt_26.1
theorem dX0_takeNumber_16 : decode cX0_takeNumber 16 = .ok (.ifCond .eq 26, 3) := zy_b32xt_26.2.1
theorem dX0_takeNumber_19 : decode cX0_takeNumber 19 = .ok (.iload_n 3, 1) := zy_b32xt_26.2.2.1
theorem dX0_takeNumber_20 : decode cX0_takeNumber 20 = .ok (.getstatic 86, 3) := zy_b32xt_26.2.2.2.1
theorem dX0_takeNumber_23 : decode cX0_takeNumber 23 = .ok (.aload_n 0, 1) := zy_b32xt_26.2.2.2.2.1
theorem dX0_takeNumber_24 : decode cX0_takeNumber 24 = .ok (.getfield 37, 3) := zy_b32xt_26.2.2.2.2.2.1
theorem dX0_takeNumber_27 : decode cX0_takeNumber 27 = .ok (.iaload, 1) := zy_b32xt_26.2.2.2.2.2.2.1
theorem dX0_takeNumber_28 : decode cX0_takeNumber 28 = .ok (.getstatic 89, 3) := zy_b32xt_26.2.2.2.2.2.2.2
theorem zy_b32xt_27 : decode cX0_takeNumber 31 = .ok (.aload_n 0, 1) ∧ decode cX0_takeNumber 32 = .ok (.getfield 37, 3) ∧ decode cX0_takeNumber 35 = .ok (.iaload, 1) ∧ decode cX0_takeNumber 36 = .ok (.invokestatic 82, 3) ∧ decode cX0_takeNumber 39 = .ok (.ifCond .ne 5, 3) ∧ decode cX0_takeNumber 42 = .ok (.iconst 3, 1) ∧ decode cX0_takeNumber 43 = .ok (.ireturn, 1) ∧ decode cX0_takeNumber 44 = .ok (.aload_n 0, 1) := by decide +kernel
theorem dX0_takeNumber_31 : decode cX0_takeNumber 31 = .ok (.aload_n 0, 1) := zy_b32xt_27.1
theorem dX0_takeNumber_32 : decode cX0_takeNumber 32 = .ok (.getfield 37, 3) := zy_b32xt_27.2.1
theorem dX0_takeNumber_35 : decode cX0_takeNumber 35 = .ok (.iaload, 1) := zy_b32xt_27.2.2.1
theorem dX0_takeNumber_36 : decode cX0_takeNumber 36 = .ok (.invokestatic 82, 3) := zy_b32xt_27.2.2.2.1
theorem dX0_takeNumber_39 : decode cX0_takeNumber 39 = .ok (.ifCond .ne 5, 3) := zy_b32xt_27.2.2.2.2.1
theorem dX0_takeNumber_42 : decode cX0_takeNumber 42 = .ok (.iconst 3, 1) := zy_b32xt_27.2.2.2.2.2.1
theorem dX0_takeNumber_43 : decode cX0_takeNumber 43 = .ok (.ireturn, 1) := zy_b32xt_27.2.2.2.2.2.2.1
theorem dX0_takeNumber_44 : decode cX0_takeNumber 44 = .ok (.aload_n 0, 1) := zy_b32xt_27.2.2.2.2.2.2.2
theorem zy_b32xt_28 : decode cX0_takeNumber 45 = .ok (.getfield 15, 3) ∧ decode cX0_takeNumber 48 = .ok (.aload_n 0, 1) ∧ decode cX0_takeNumber 49 = .ok (.getfield 37, 3) ∧ decode cX0_takeNumber 52 = .ok (.iload_n 3, 1) ∧ decode cX0_takeNumber 53 = .ok (.iastore, 1) ∧ decode cX0_takeNumber 54 = .ok (.aload_n 0, 1) ∧ decode cX0_takeNumber 55 = .ok (.iconst 3, 1) ∧ decode cX0_takeNumber 56 = .ok (.putfield 34, 3) := by decide +kernel
theorem dX0_takeNumber_45 : decode cX0_takeNumber 45 = .ok (.getfield 15, 3) := zy_b32xt_28.1
theorem dX0_takeNumber_48 : decode cX0_takeNumber 48 = .ok (.aload_n 0, 1) := zy_b32xt_28.2.1
theorem dX0_takeNumber_49 : decode cX0_takeNumber 49 = .ok (.getfield 37, 3) := zy_b32xt_28.2.2.1
theorem dX0_takeNumber_52 : decode cX0_takeNumber 52 = .ok (.iload_n 3, 1) := zy_b32xt_28.2.2.2.1
theorem dX0_takeNumber_53 : decode cX0_takeNumber 53 = .ok (.iastore, 1) := zy_b32xt_28.2.2.2.2.1
theorem dX0_takeNumber_54 : decode cX0_takeNumber 54 = .ok (.aload_n 0, 1) := zy_b32xt_28.2.2.2.2.2.1
theorem dX0_takeNumber_55 : decode cX0_takeNumber 55 = .ok (.iconst 3, 1) := zy_b32xt_28.2.2.2.2.2.2.1
theorem dX0_takeNumber_56 : decode cX0_takeNumber 56 = .ok (.putfield 34, 3) := zy_b32xt_28.2.2.2.2.2.2.2
theorem dX0_takeNumber_59 : decode cX0_takeNumber 59 = .ok (.iconst 0, 1) := by decide +kernel
theorem dX0_takeNumber_60 : decode cX0_takeNumber 60 = .ok (.ireturn, 1) := by decide +kernel
theorem zy_b32xt_29 : decode cX0_takeToken 0 = .ok (.aload_n 1, 1) ∧ decode cX0_takeToken 1 = .ok (.iload_n 2, 1) ∧ decode cX0_takeToken 2 = .ok (.invokevirtual 63, 3) ∧ decode cX0_takeToken 5 = .ok (.invokestatic 67, 3) ∧ decode cX0_takeToken 8 = .ok (.aload_n 0, 1) ∧ decode cX0_takeToken 9 = .ok (.getfield 34, 3) ∧ decode cX0_takeToken 12 = .ok (.if_icmp .eq 5, 3) ∧ decode cX0_takeToken 15 = .ok (.iconst 1, 1) := by decide +kernel
theorem dX0_takeToken_0 : decode cX0_takeToken 0 = .ok (.aload_n 1, 1) := zy_b32xt_29.1
theorem dX0_takeToken_1 : decode cX0_takeToken 1 = .ok (.iload_n 2, 1) := zy_b32xt_29.2.1
theorem dX0_takeToken_2 : decode cX0_takeToken 2 = .ok (.invokevirtual 63, 3) := zy_b32xt_29.2.2.1
theorem dX0_takeToken_5 : decode cX0_takeToken 5 = .ok (.invokestatic 67, 3) := zy_b32xt_29.2.2.2.1
theorem dX0_takeToken_8 : decode cX0_takeToken 8 = .ok (.aload_n 0, 1) := zy_b32xt_29.2.2.2.2.1
theorem dX0_takeToken_9 : decode cX0_takeToken 9 = .ok (.getfield 34, 3) := zy_b32xt_29.2.2.2.2.2.1
theorem dX0_takeToken_12 : decode cX0_takeToken 12 = .ok (.if_icmp .eq 5, 3) := zy_b32xt_29.2.2.2.2.2.2.1
theorem dX0_takeToken_15 : decode cX0_takeToken 15 = .ok (.iconst 1, 1) := zy_b32xt_29.2.2.2.2.2.2.2
theorem zy_b32xt_30 : decode cX0_takeToken 16 = .ok (.ireturn, 1) ∧ decode cX0_takeToken 17 = .ok (.aload_n 0, 1) ∧ decode cX0_takeToken 18 = .ok (.getfield 34, 3) ∧ decode cX0_takeToken 21 = .ok (.lookupswitch 41 #[(1, 27), (2, 34)], 27) ∧ decode cX0_takeToken 48 = .ok (.aload_n 0, 1) ∧ decode cX0_takeToken 49 = .ok (.aload_n 1, 1) ∧ decode cX0_takeToken 50 = .ok (.iload_n 2, 1) ∧ decode cX0_takeToken 51 = .ok (.invokevirtual 70, 3) := by decide +kernel
theorem dX0_takeToken_16 : decode cX0_takeToken 16 = .ok (.ireturn, 1) := zy_b32xt_30.1
theorem dX0_takeToken_17 : decode cX0_takeToken 17 = .ok (.aload_n 0, 1) := zy_b32xt_30.2.1
theorem dX0_takeToken_18 : decode cX0_takeToken 18 = .ok (.getfield 34, 3) := zy_b32xt_30.2.2.1
theorem dX0_takeToken_21 : decode cX0_takeToken 21 = .ok (.lookupswitch 41 #[(1, 27), (2, 34)], 27) := zy_b32xt_30.2.2.2.1
theorem dX0_takeToken_48 : decode cX0_takeToken 48 = .ok (.aload_n 0, 1) := zy_b32xt_30.2.2.2.2.1
theorem dX0_takeToken_49 : decode cX0_takeToken 49 = .ok (.aload_n 1, 1) := zy_b32xt_30.2.2.2.2.2.1
theorem dX0_takeToken_50 : decode cX0_takeToken 50 = .ok (.iload_n 2, 1) := zy_b32xt_30.2.2.2.2.2.2.1
theorem dX0_takeToken_51 : decode cX0_takeToken 51 = .ok (.invokevirtual 70, 3) := zy_b32xt_30.2.2.2.2.2.2.2
theorem zy_b32xt_31 : decode cX0_takeToken 54 = .ok (.ireturn, 1) ∧ decode cX0_takeToken 55 = .ok (.aload_n 0, 1) ∧ decode cX0_takeToken 56 = .ok (.aload_n 1, 1) ∧ decode cX0_takeToken 57 = .ok (.iload_n 2, 1) ∧ decode cX0_takeToken 58 = .ok (.invokevirtual 73, 3) ∧ decode cX0_takeToken 61 = .ok (.ireturn, 1) ∧ decode cX0_takeToken 62 = .ok (.aload_n 0, 1) ∧ decode cX0_takeToken 63 = .ok (.dup, 1) := by decide +kernel
theorem dX0_takeToken_54 : decode cX0_takeToken 54 = .ok (.ireturn, 1) := zy_b32xt_31.1
theorem dX0_takeToken_55 : decode cX0_takeToken 55 = .ok (.aload_n 0, 1) := zy_b32xt_31.2.1
theorem dX0_takeToken_56 : decode cX0_takeToken 56 = .ok (.aload_n 1, 1) := zy_b32xt_31.2.2.1
theorem dX0_takeToken_57 : decode cX0_takeToken 57 = .ok (.iload_n 2, 1) := zy_b32xt_31.2.2.2.1
theorem dX0_takeToken_58 : decode cX0_takeToken 58 = .ok (.invokevirtual 73, 3) := zy_b32xt_31.2.2.2.2.1
theorem dX0_takeToken_61 : decode cX0_takeToken 61 = .ok (.ireturn, 1) := zy_b32xt_31.2.2.2.2.2.1
theorem dX0_takeToken_62 : decode cX0_takeToken 62 = .ok (.aload_n 0, 1) := zy_b32xt_31.2.2.2.2.2.2.1
theorem dX0_takeToken_63 : decode cX0_takeToken 63 = .ok (.dup, 1) := zy_b32xt_31.2.2.2.2.2.2.2
theorem zy_b32xt_32 : decode cX0_takeToken 64 = .ok (.getfield 43, 3) ∧ decode cX0_takeToken 67 = .ok (.iconst 1, 1) ∧ decode cX0_takeToken 68 = .ok (.iadd, 1) ∧ decode cX0_takeToken 69 = .ok (.putfield 43, 3) ∧ decode cX0_takeToken 72 = .ok (.aload_n 0, 1) ∧ decode cX0_takeToken 73 = .ok (.iconst 1, 1) ∧ decode cX0_takeToken 74 = .ok (.putfield 34, 3) ∧ decode cX0_takeToken 77 = .ok (.iconst 0, 1) := by decide +kernel
theorem dX0_takeToken_64 : decode cX0_takeToken 64 = .ok (.getfield 43, 3) := zy_b32xt_32.1
theorem dX0_takeToken_67 : decode cX0_takeToken 67 = .ok (.iconst 1, 1) := zy_b32xt_32.2.1
theorem dX0_takeToken_68 : decode cX0_takeToken 68 = .ok (.iadd, 1) := zy_b32xt_32.2.2.1
theorem dX0_takeToken_69 : decode cX0_takeToken 69 = .ok (.putfield 43, 3) := zy_b32xt_32.2.2.2.1
theorem dX0_takeToken_72 : decode cX0_takeToken 72 = .ok (.aload_n 0, 1) := zy_b32xt_32.2.2.2.2.1
theorem dX0_takeToken_73 : decode cX0_takeToken 73 = .ok (.iconst 1, 1) := zy_b32xt_32.2.2.2.2.2.1
theorem dX0_takeToken_74 : decode cX0_takeToken 74 = .ok (.putfield 34, 3) := zy_b32xt_32.2.2.2.2.2.2.1
theorem dX0_takeToken_77 : decode cX0_takeToken 77 = .ok (.iconst 0, 1) := zy_b32xt_32.2.2.2.2.2.2.2
theorem dX0_takeToken_78 : decode cX0_takeToken 78 = .ok (.ireturn, 1) := by decide +kernel
theorem zy_b32xt_33 : decode cX0_note 0 = .ok (.iload_n 1, 1) ∧ decode cX0_note 1 = .ok (.ifCond .eq 13, 3) ∧ decode cX0_note 4 = .ok (.aload_n 0, 1) ∧ decode cX0_note 5 = .ok (.iload_n 1, 1) ∧ decode cX0_note 6 = .ok (.putfield 18, 3) ∧ decode cX0_note 9 = .ok (.aload_n 0, 1) ∧ decode cX0_note 10 = .ok (.iload_n 2, 1) ∧ decode cX0_note 11 = .ok (.putfield 22, 3) := by decide +kernel
theorem dX0_note_0 : decode cX0_note 0 = .ok (.iload_n 1, 1) := zy_b32xt_33.1
theorem dX0_note_1 : decode cX0_note 1 = .ok (.ifCond .eq 13, 3) := zy_b32xt_33.2.1
theorem dX0_note_4 : decode cX0_note 4 = .ok (.aload_n 0, 1) := zy_b32xt_33.2.2.1
theorem dX0_note_5 : decode cX0_note 5 = .ok (.iload_n 1, 1) := zy_b32xt_33.2.2.2.1
theorem dX0_note_6 : decode cX0_note 6 = .ok (.putfield 18, 3) := zy_b32xt_33.2.2.2.2.1
theorem dX0_note_9 : decode cX0_note 9 = .ok (.aload_n 0, 1) := zy_b32xt_33.2.2.2.2.2.1
theorem dX0_note_10 : decode cX0_note 10 = .ok (.iload_n 2, 1) := zy_b32xt_33.2.2.2.2.2.2.1
theorem dX0_note_11 : decode cX0_note 11 = .ok (.putfield 22, 3) := zy_b32xt_33.2.2.2.2.2.2.2
theorem dX0_note_14 : decode cX0_note 14 = .ok (.return_, 1) := by decide +kernel
set_option maxHeartbeats 4000000 in
set_option maxRecDepth 100000 in
theorem k_spelling (l : Launch) (dC : Nat → ClassId) (dI : Nat → Nat → Nat) (b0 : Nat) (b1 : Nat) (b2 : Nat) (adK : Nat → Nat) (adV : Nat → Nat) (wv : Nat) (sz : Nat) (hw7 : wv < 7) : Met l yX0_spelling (zz_w yX0_spelling cX0_spelling 1 (some (.object "java/lang/String"))) ({ frames := 0, cells := 0, slots := 0, locals := 0 }) (va_Pc [.int (nI wv)] (zz_BG (dC, dI) sz b0 b1 b2 adK adV [] [] [])) (va_Qq (fun (r : Option Nat) (_ : Unit) => r = some (adK wv)) (fun _ _ => True) (va_A [] sz)) 0 0 (va_A [] sz) := by
  refine Met.ofW (cc := cX0_spelling) (maxL := 1) (ret := (some (.object "java/lang/String"))) (by decide) rfl ?_
  intro p e s m args below meth c s₁ B hml hv
  obtain ⟨rfl, ⟨hsz, hP, hK, hD0, hN⟩, hU⟩ := hv
  have hx := B.exec
  have hb := B.bytes
  have hr := B.returns
  have hts := atoms_spec (ws := zz_w yX0_spelling cX0_spelling 1 (some (.object "java/lang/String"))) B.pre
  have hw : ∀ w ∈ zz_all, w.before _ s = true := fun w h => hts w (List.mem_cons_of_mem _ h)
  have hown : s.vm.findClass RX0 = some m.cls := findClass_of_methodNamed B.named
  have hlocks := B.notSynchronized
  subst hsz
  have hD := hD0
  generalize hAe : va_A [] s.heap.size = A at hU ⊢
  have hA : ∀ q : Nat, s.heap.size ≤ q → A q := fun q h => by rw [← hAe]; exact Or.inr h
  have hS : va_S A s.heap s.heap [] := va_S.rf
  have hP : va_P (dC, dI) vwCl [] s.heap := hP
  have hl := lv_entry ([.int (nI wv)]) (n := 1) (Nat.le_of_ble_eq_true rfl)
  rw [lg_entry_eq]
  generalize (lg_sl ([.int (nI wv)]) ++ List.replicate (1 - (lg_sl ([.int (nI wv)])).length) Slot.unset).toArray = ls at hl ⊢
  have hl : lv_has ls 1 [(0, .int (nI wv))] := hl
  refine lv_iload_n hx hb dX0_spelling_0 rfl (lv_at hl 0 rfl) ?_
  by_cases c_1 : (nI wv) = 0
  · have zc_1 := c_1
    rw [← Int32.toInt_inj] at zc_1
    try rw [zz_toInt wv (by omega)] at zc_1
    try rw [show (0 : Int32).toInt = 0 from by decide] at zc_1
    refine lv_tableIn (tgt := 40) hx hb dX0_spelling_1 (by rw [c_1]; decide) (by rw [c_1]; decide) (by rw [c_1]; rfl) (by decide) ?_
    refine va_ldcS hx hb hown (hU.2.2.2.2.2.2.2.2 0 (by decide)) dX0_spelling_40 ?_
    exact W.aret (v := .ref (adK 0)) hx hb hr (Or.inl ⟨_, rfl⟩) (Or.inr ⟨_, rfl⟩) (fun t ht hW => ⟨⟨(some (adK 0)), (), rfl, (by show some (adK 0) = some (adK wv); rw [show wv = 0 from by omega]), trivial⟩, hS.F ht⟩) hS.2.2 dX0_spelling_42
  by_cases c_2 : (nI wv) = 1
  · have zc_2 := c_2
    rw [← Int32.toInt_inj] at zc_2
    try rw [zz_toInt wv (by omega)] at zc_2
    try rw [show (1 : Int32).toInt = 1 from by decide] at zc_2
    refine lv_tableIn (tgt := 43) hx hb dX0_spelling_1 (by rw [c_2]; decide) (by rw [c_2]; decide) (by rw [c_2]; rfl) (by decide) ?_
    refine va_ldcS hx hb hown (hU.2.2.2.2.2.2.2.2 1 (by decide)) dX0_spelling_43 ?_
    exact W.aret (v := .ref (adK 1)) hx hb hr (Or.inl ⟨_, rfl⟩) (Or.inr ⟨_, rfl⟩) (fun t ht hW => ⟨⟨(some (adK 1)), (), rfl, (by show some (adK 1) = some (adK wv); rw [show wv = 1 from by omega]), trivial⟩, hS.F ht⟩) hS.2.2 dX0_spelling_45
  by_cases c_3 : (nI wv) = 2
  · have zc_3 := c_3
    rw [← Int32.toInt_inj] at zc_3
    try rw [zz_toInt wv (by omega)] at zc_3
    try rw [show (2 : Int32).toInt = 2 from by decide] at zc_3
    refine lv_tableIn (tgt := 46) hx hb dX0_spelling_1 (by rw [c_3]; decide) (by rw [c_3]; decide) (by rw [c_3]; rfl) (by decide) ?_
    refine va_ldcS hx hb hown (hU.2.2.2.2.2.2.2.2 2 (by decide)) dX0_spelling_46 ?_
    exact W.aret (v := .ref (adK 2)) hx hb hr (Or.inl ⟨_, rfl⟩) (Or.inr ⟨_, rfl⟩) (fun t ht hW => ⟨⟨(some (adK 2)), (), rfl, (by show some (adK 2) = some (adK wv); rw [show wv = 2 from by omega]), trivial⟩, hS.F ht⟩) hS.2.2 dX0_spelling_48
  by_cases c_4 : (nI wv) = 3
  · have zc_4 := c_4
    rw [← Int32.toInt_inj] at zc_4
    try rw [zz_toInt wv (by omega)] at zc_4
    try rw [show (3 : Int32).toInt = 3 from by decide] at zc_4
    refine lv_tableIn (tgt := 49) hx hb dX0_spelling_1 (by rw [c_4]; decide) (by rw [c_4]; decide) (by rw [c_4]; rfl) (by decide) ?_
    refine va_ldcS hx hb hown (hU.2.2.2.2.2.2.2.2 3 (by decide)) dX0_spelling_49 ?_
    exact W.aret (v := .ref (adK 3)) hx hb hr (Or.inl ⟨_, rfl⟩) (Or.inr ⟨_, rfl⟩) (fun t ht hW => ⟨⟨(some (adK 3)), (), rfl, (by show some (adK 3) = some (adK wv); rw [show wv = 3 from by omega]), trivial⟩, hS.F ht⟩) hS.2.2 dX0_spelling_51
  by_cases c_5 : (nI wv) = 4
  · have zc_5 := c_5
    rw [← Int32.toInt_inj] at zc_5
    try rw [zz_toInt wv (by omega)] at zc_5
    try rw [show (4 : Int32).toInt = 4 from by decide] at zc_5
    refine lv_tableIn (tgt := 52) hx hb dX0_spelling_1 (by rw [c_5]; decide) (by rw [c_5]; decide) (by rw [c_5]; rfl) (by decide) ?_
    refine va_ldcS hx hb hown (hU.2.2.2.2.2.2.2.2 4 (by decide)) dX0_spelling_52 ?_
    exact W.aret (v := .ref (adK 4)) hx hb hr (Or.inl ⟨_, rfl⟩) (Or.inr ⟨_, rfl⟩) (fun t ht hW => ⟨⟨(some (adK 4)), (), rfl, (by show some (adK 4) = some (adK wv); rw [show wv = 4 from by omega]), trivial⟩, hS.F ht⟩) hS.2.2 dX0_spelling_54
  by_cases c_6 : (nI wv) = 5
  · have zc_6 := c_6
    rw [← Int32.toInt_inj] at zc_6
    try rw [zz_toInt wv (by omega)] at zc_6
    try rw [show (5 : Int32).toInt = 5 from by decide] at zc_6
    refine lv_tableIn (tgt := 55) hx hb dX0_spelling_1 (by rw [c_6]; decide) (by rw [c_6]; decide) (by rw [c_6]; rfl) (by decide) ?_
    refine va_ldcS hx hb hown (hU.2.2.2.2.2.2.2.2 5 (by decide)) dX0_spelling_55 ?_
    exact W.aret (v := .ref (adK 5)) hx hb hr (Or.inl ⟨_, rfl⟩) (Or.inr ⟨_, rfl⟩) (fun t ht hW => ⟨⟨(some (adK 5)), (), rfl, (by show some (adK 5) = some (adK wv); rw [show wv = 5 from by omega]), trivial⟩, hS.F ht⟩) hS.2.2 dX0_spelling_57
  refine lv_tableOut (tgt := 58) hx hb dX0_spelling_1 (by have := zz_ne c_1; rw [show (0 : Int32).toInt = 0 from by decide] at this; have := zz_ne c_2; rw [show (1 : Int32).toInt = 1 from by decide] at this; have := zz_ne c_3; rw [show (2 : Int32).toInt = 2 from by decide] at this; have := zz_ne c_4; rw [show (3 : Int32).toInt = 3 from by decide] at this; have := zz_ne c_5; rw [show (4 : Int32).toInt = 4 from by decide] at this; have := zz_ne c_6; rw [show (5 : Int32).toInt = 5 from by decide] at this; omega) (by decide) ?_
  have zc_1 := c_1
  rw [← Int32.toInt_inj] at zc_1
  try rw [zz_toInt wv (by omega)] at zc_1
  try rw [show (0 : Int32).toInt = 0 from by decide] at zc_1
  have zc_2 := c_2
  rw [← Int32.toInt_inj] at zc_2
  try rw [zz_toInt wv (by omega)] at zc_2
  try rw [show (1 : Int32).toInt = 1 from by decide] at zc_2
  have zc_3 := c_3
  rw [← Int32.toInt_inj] at zc_3
  try rw [zz_toInt wv (by omega)] at zc_3
  try rw [show (2 : Int32).toInt = 2 from by decide] at zc_3
  have zc_4 := c_4
  rw [← Int32.toInt_inj] at zc_4
  try rw [zz_toInt wv (by omega)] at zc_4
  try rw [show (3 : Int32).toInt = 3 from by decide] at zc_4
  have zc_5 := c_5
  rw [← Int32.toInt_inj] at zc_5
  try rw [zz_toInt wv (by omega)] at zc_5
  try rw [show (4 : Int32).toInt = 4 from by decide] at zc_5
  have zc_6 := c_6
  rw [← Int32.toInt_inj] at zc_6
  try rw [zz_toInt wv (by omega)] at zc_6
  try rw [show (5 : Int32).toInt = 5 from by decide] at zc_6
  refine va_ldcS hx hb hown (hU.2.2.2.2.2.2.2.2 6 (by decide)) dX0_spelling_58 ?_
  exact W.aret (v := .ref (adK 6)) hx hb hr (Or.inl ⟨_, rfl⟩) (Or.inr ⟨_, rfl⟩) (fun t ht hW => ⟨⟨(some (adK 6)), (), rfl, (by show some (adK 6) = some (adK wv); rw [show wv = 6 from by omega]), trivial⟩, hS.F ht⟩) hS.2.2 dX0_spelling_60
