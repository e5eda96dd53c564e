theorem tw_353 : Cond.code yX6_at cX6_at 2 (some .int) ∈ zz_all := zz_m2 108 rfl rfl
theorem tw_354 : Cond.instanceMethod yX6_at ∈ zz_all := zz_m2 107 rfl rfl
theorem tw_355 : Cond.selects RX6 yX6_at yX6_at ∈ zz_all := zz_ms 3 rfl rfl
theorem tw_356 : Cond.code yX0_sortOf cX0_sortOf 1 (some .int) ∈ zz_all := zz_m2 111 rfl rfl
theorem tw_357 : Cond.initialized RX0 ∈ zz_all := zz_m1 5 rfl rfl
theorem tw_358 : Cond.methodLink RX0 67 yX0_sortOf ∈ zz_all := zz_m2 109 rfl rfl
theorem tw_359 : Cond.static yX0_sortOf ∈ zz_all := zz_m2 110 rfl rfl
theorem tw_360 : Cond.methodLink RX0 123 Lib.Math.min.name ∈ zz_all := zz_m2 191 rfl rfl
theorem tw_361 : Cond.code yJ0_length_8abf5 cJ0_length_8abf5 1 (some .int) ∈ zz_all := zz_m2 139 rfl rfl
theorem tw_362 : Cond.methodLink RX0 114 yJ0_length_8abf5 ∈ zz_all := zz_m2 136 rfl rfl
theorem tw_363 : Cond.instanceMethod yJ0_length_8abf5 ∈ zz_all := zz_m2 137 rfl rfl
theorem tw_364 : Cond.selects RJ0 yJ0_length_8abf5 yJ0_length_8abf5 ∈ zz_all := zz_m2 138 rfl rfl
theorem tw_365 : Cond.code yJ0_charAt_5068e cJ0_charAt_5068e 2 (some .char) ∈ zz_all := zz_m2 149 rfl rfl
theorem tw_366 : Cond.methodLink RX0 119 yJ0_charAt_5068e ∈ zz_all := zz_m2 146 rfl rfl
theorem tw_367 : Cond.instanceMethod yJ0_charAt_5068e ∈ zz_all := zz_m2 147 rfl rfl
theorem tw_368 : Cond.selects RJ0 yJ0_charAt_5068e yJ0_charAt_5068e ∈ zz_all := zz_m2 148 rfl rfl
theorem tw_369 : Cond.code yX0_spelling cX0_spelling 1 (some (.object "java/lang/String")) ∈ zz_all := zz_m2 125 rfl rfl
theorem tw_370 : Cond.methodLink RX0 92 yX0_spelling ∈ zz_all := zz_m2 123 rfl rfl
theorem tw_371 : Cond.static yX0_spelling ∈ zz_all := zz_m2 124 rfl rfl
theorem tw_372 : Cond.code yX0_standsAt cX0_standsAt 5 (some .boolean) ∈ zz_all := zz_m2 135 rfl rfl
theorem tw_373 : Cond.methodLink RX0 96 yX0_standsAt ∈ zz_all := zz_m2 133 rfl rfl
theorem tw_374 : Cond.static yX0_standsAt ∈ zz_all := zz_m2 134 rfl rfl
theorem tw_375 : Cond.code yX0_wordAt cX0_wordAt 3 (some .int) ∈ zz_all := zz_m2 122 rfl rfl
theorem tw_376 : Cond.methodLink RX0 76 yX0_wordAt ∈ zz_all := zz_m2 120 rfl rfl
theorem tw_377 : Cond.static yX0_wordAt ∈ zz_all := zz_m2 121 rfl rfl
theorem tw_378 : Cond.fieldLink RX0 37 "HandsReturned$Custom" "word" "I" ∈ zz_all := zz_m1 133 rfl rfl
theorem tw_379 : Cond.fieldLink RX0 40 "HandsReturned$Custom" "seen" "I" ∈ zz_all := zz_m1 134 rfl rfl
theorem tw_380 : Cond.fieldLink RX0 34 "HandsReturned$Custom" "wanted" "I" ∈ zz_all := zz_m1 132 rfl rfl
theorem tw_381 : Cond.code yX0_numberAt cX0_numberAt 4 (some .int) ∈ zz_all := zz_m2 190 rfl rfl
theorem tw_382 : Cond.methodLink RX0 79 yX0_numberAt ∈ zz_all := zz_m2 188 rfl rfl
theorem tw_383 : Cond.static yX0_numberAt ∈ zz_all := zz_m2 189 rfl rfl
theorem tw_384 : Cond.fieldLink RX0 15 "HandsReturned$Custom" "draft" "[I" ∈ zz_all := zz_m1 127 rfl rfl
theorem tw_385 : Cond.code yX0_takeWord cX0_takeWord 3 (some .int) ∈ zz_all := zz_m2 119 rfl rfl
theorem tw_386 : Cond.methodLink RX0 70 yX0_takeWord ∈ zz_all := zz_m2 116 rfl rfl
theorem tw_387 : Cond.instanceMethod yX0_takeWord ∈ zz_all := zz_m2 118 rfl rfl
theorem tw_388 : Cond.selects RX0 yX0_takeWord yX0_takeWord ∈ zz_all := zz_ms 5 rfl rfl
theorem tw_389 : Cond.code yX0_takeNumber cX0_takeNumber 4 (some .int) ∈ zz_all := zz_m2 187 rfl rfl
theorem tw_390 : Cond.methodLink RX0 73 yX0_takeNumber ∈ zz_all := zz_m2 184 rfl rfl
theorem tw_391 : Cond.instanceMethod yX0_takeNumber ∈ zz_all := zz_m2 186 rfl rfl
theorem tw_392 : Cond.selects RX0 yX0_takeNumber yX0_takeNumber ∈ zz_all := zz_ms 6 rfl rfl
theorem tw_393 : Cond.fieldLink RX0 43 "HandsReturned$Custom" "clauses" "I" ∈ zz_all := zz_m1 135 rfl rfl
theorem tw_394 : Cond.fieldLink RX0 18 "HandsReturned$Custom" "flaw" "I" ∈ zz_all := zz_m1 128 rfl rfl
theorem tw_395 : Cond.fieldLink RX0 22 "HandsReturned$Custom" "place" "I" ∈ zz_all := zz_m1 130 rfl rfl
theorem dX0_sortOf_0 : decode cX0_sortOf 0 = .ok (.iload_n 0, 1) := by decide +kernel
theorem dX0_sortOf_1 : decode cX0_sortOf 1 = .ok (.bipush 32, 2) := by decide +kernel
theorem dX0_sortOf_3 : decode cX0_sortOf 3 = .ok (.if_icmp .ne 5, 3) := by decide +kernel
theorem dX0_sortOf_6 : decode cX0_sortOf 6 = .ok (.iconst 0, 1) := by decide +kernel
theorem dX0_sortOf_7 : decode cX0_sortOf 7 = .ok (.ireturn, 1) := by decide +kernel
theorem dX0_sortOf_8 : decode cX0_sortOf 8 = .ok (.iload_n 0, 1) := by decide +kernel
theorem dX0_sortOf_9 : decode cX0_sortOf 9 = .ok (.bipush 97, 2) := by decide +kernel
theorem dX0_sortOf_11 : decode cX0_sortOf 11 = .ok (.if_icmp .lt 9, 3) := by decide +kernel
theorem dX0_sortOf_14 : decode cX0_sortOf 14 = .ok (.iload_n 0, 1) := by decide +kernel
theorem dX0_sortOf_15 : decode cX0_sortOf 15 = .ok (.bipush 122, 2) := by decide +kernel
theorem dX0_sortOf_17 : decode cX0_sortOf 17 = .ok (.if_icmp .le 15, 3) := by decide +kernel
theorem dX0_sortOf_20 : decode cX0_sortOf 20 = .ok (.iload_n 0, 1) := by decide +kernel
theorem dX0_sortOf_21 : decode cX0_sortOf 21 = .ok (.bipush 65, 2) := by decide +kernel
theorem dX0_sortOf_23 : decode cX0_sortOf 23 = .ok (.if_icmp .lt 11, 3) := by decide +kernel
theorem dX0_sortOf_26 : decode cX0_sortOf 26 = .ok (.iload_n 0, 1) := by decide +kernel
theorem dX0_sortOf_27 : decode cX0_sortOf 27 = .ok (.bipush 90, 2) := by decide +kernel
theorem dX0_sortOf_29 : decode cX0_sortOf 29 = .ok (.if_icmp .gt 5, 3) := by decide +kernel
theorem dX0_sortOf_32 : decode cX0_sortOf 32 = .ok (.iconst 1, 1) := by decide +kernel
theorem dX0_sortOf_33 : decode cX0_sortOf 33 = .ok (.ireturn, 1) := by decide +kernel
theorem dX0_sortOf_34 : decode cX0_sortOf 34 = .ok (.iload_n 0, 1) := by decide +kernel
theorem dX0_sortOf_35 : decode cX0_sortOf 35 = .ok (.bipush 48, 2) := by decide +kernel
theorem dX0_sortOf_37 : decode cX0_sortOf 37 = .ok (.if_icmp .lt 11, 3) := by decide +kernel
theorem dX0_sortOf_40 : decode cX0_sortOf 40 = .ok (.iload_n 0, 1) := by decide +kernel
theorem dX0_sortOf_41 : decode cX0_sortOf 41 = .ok (.bipush 57, 2) := by decide +kernel
theorem dX0_sortOf_43 : decode cX0_sortOf 43 = .ok (.if_icmp .gt 5, 3) := by decide +kernel
theorem dX0_sortOf_46 : decode cX0_sortOf 46 = .ok (.iconst 2, 1) := by decide +kernel
theorem dX0_sortOf_47 : decode cX0_sortOf 47 = .ok (.ireturn, 1) := by decide +kernel
theorem dX0_sortOf_48 : decode cX0_sortOf 48 = .ok (.iload_n 0, 1) := by decide +kernel
theorem dX0_sortOf_49 : decode cX0_sortOf 49 = .ok (.bipush 59, 2) := by decide +kernel
theorem dX0_sortOf_51 : decode cX0_sortOf 51 = .ok (.if_icmp .ne 7, 3) := by decide +kernel
theorem dX0_sortOf_54 : decode cX0_sortOf 54 = .ok (.iconst 3, 1) := by decide +kernel
theorem dX0_sortOf_55 : decode cX0_sortOf 55 = .ok (.goto 4, 3) := by decide +kernel
theorem dX0_sortOf_58 : decode cX0_sortOf 58 = .ok (.iconst 4, 1) := by decide +kernel
theorem dX0_sortOf_59 : decode cX0_sortOf 59 = .ok (.ireturn, 1) := by decide +kernel
theorem dX0_beginsToken_0 : decode cX0_beginsToken 0 = .ok (.aload_n 0, 1) := by decide +kernel
theorem dX0_beginsToken_1 : decode cX0_beginsToken 1 = .ok (.iload_n 1, 1) := by decide +kernel
theorem dX0_beginsToken_2 : decode cX0_beginsToken 2 = .ok (.invokevirtual 63, 3) := by decide +kernel
theorem dX0_beginsToken_5 : decode cX0_beginsToken 5 = .ok (.invokestatic 67, 3) := by decide +kernel
theorem dX0_beginsToken_8 : decode cX0_beginsToken 8 = .ok (.istore_n 2, 1) := by decide +kernel
theorem dX0_beginsToken_9 : decode cX0_beginsToken 9 = .ok (.iload_n 2, 1) := by decide +kernel
theorem dX0_beginsToken_10 : decode cX0_beginsToken 10 = .ok (.iconst 1, 1) := by decide +kernel
theorem dX0_beginsToken_11 : decode cX0_beginsToken 11 = .ok (.if_icmp .eq 8, 3) := by decide +kernel
theorem dX0_beginsToken_14 : decode cX0_beginsToken 14 = .ok (.iload_n 2, 1) := by decide +kernel
theorem dX0_beginsToken_15 : decode cX0_beginsToken 15 = .ok (.iconst 2, 1) := by decide +kernel
theorem dX0_beginsToken_16 : decode cX0_beginsToken 16 = .ok (.if_icmp .ne 23, 3) := by decide +kernel
theorem dX0_beginsToken_19 : decode cX0_beginsToken 19 = .ok (.iload_n 2, 1) := by decide +kernel
theorem dX0_beginsToken_20 : decode cX0_beginsToken 20 = .ok (.aload_n 0, 1) := by decide +kernel
theorem dX0_beginsToken_21 : decode cX0_beginsToken 21 = .ok (.iload_n 1, 1) := by decide +kernel
theorem dX0_beginsToken_22 : decode cX0_beginsToken 22 = .ok (.iconst 1, 1) := by decide +kernel
theorem dX0_beginsToken_23 : decode cX0_beginsToken 23 = .ok (.isub, 1) := by decide +kernel
theorem dX0_beginsToken_24 : decode cX0_beginsToken 24 = .ok (.invokevirtual 63, 3) := by decide +kernel
theorem dX0_beginsToken_27 : decode cX0_beginsToken 27 = .ok (.invokestatic 67, 3) := by decide +kernel
theorem dX0_beginsToken_30 : decode cX0_beginsToken 30 = .ok (.if_icmp .eq 7, 3) := by decide +kernel
theorem dX0_beginsToken_33 : decode cX0_beginsToken 33 = .ok (.iconst 1, 1) := by decide +kernel
theorem dX0_beginsToken_34 : decode cX0_beginsToken 34 = .ok (.goto 4, 3) := by decide +kernel
theorem dX0_beginsToken_37 : decode cX0_beginsToken 37 = .ok (.iconst 0, 1) := by decide +kernel
theorem dX0_beginsToken_38 : decode cX0_beginsToken 38 = .ok (.ireturn, 1) := by decide +kernel
theorem dX0_beginsToken_39 : decode cX0_beginsToken 39 = .ok (.iload_n 2, 1) := by decide +kernel
theorem dX0_beginsToken_40 : decode cX0_beginsToken 40 = .ok (.ifCond .eq 7, 3) := by decide +kernel
theorem dX0_beginsToken_43 : decode cX0_beginsToken 43 = .ok (.iconst 1, 1) := by decide +kernel
theorem dX0_beginsToken_44 : decode cX0_beginsToken 44 = .ok (.goto 4, 3) := by decide +kernel
theorem dX0_beginsToken_47 : decode cX0_beginsToken 47 = .ok (.iconst 0, 1) := by decide +kernel
theorem dX0_beginsToken_48 : decode cX0_beginsToken 48 = .ok (.ireturn, 1) := by decide +kernel
theorem dX0_numberAt_0 : decode cX0_numberAt 0 = .ok (.iconst 0, 1) := by decide +kernel
theorem dX0_numberAt_1 : decode cX0_numberAt 1 = .ok (.istore_n 2, 1) := by decide +kernel
theorem dX0_numberAt_2 : decode cX0_numberAt 2 = .ok (.iload_n 1, 1) := by decide +kernel
theorem dX0_numberAt_3 : decode cX0_numberAt 3 = .ok (.istore_n 3, 1) := by decide +kernel
theorem dX0_numberAt_4 : decode cX0_numberAt 4 = .ok (.iload_n 3, 1) := by decide +kernel
theorem dX0_numberAt_5 : decode cX0_numberAt 5 = .ok (.aload_n 0, 1) := by decide +kernel
theorem dX0_numberAt_6 : decode cX0_numberAt 6 = .ok (.getfield 46, 3) := by decide +kernel
theorem dX0_numberAt_9 : decode cX0_numberAt 9 = .ok (.if_icmp .ge 41, 3) := by decide +kernel
theorem dX0_numberAt_12 : decode cX0_numberAt 12 = .ok (.aload_n 0, 1) := by decide +kernel
theorem dX0_numberAt_13 : decode cX0_numberAt 13 = .ok (.iload_n 3, 1) := by decide +kernel
theorem dX0_numberAt_14 : decode cX0_numberAt 14 = .ok (.invokevirtual 63, 3) := by decide +kernel
theorem dX0_numberAt_17 : decode cX0_numberAt 17 = .ok (.invokestatic 67, 3) := by decide +kernel
theorem dX0_numberAt_20 : decode cX0_numberAt 20 = .ok (.iconst 2, 1) := by decide +kernel
theorem dX0_numberAt_21 : decode cX0_numberAt 21 = .ok (.if_icmp .ne 29, 3) := by decide +kernel
theorem dX0_numberAt_24 : decode cX0_numberAt 24 = .ok (.sipush 1000, 3) := by decide +kernel
theorem dX0_numberAt_27 : decode cX0_numberAt 27 = .ok (.iload_n 2, 1) := by decide +kernel
theorem dX0_numberAt_28 : decode cX0_numberAt 28 = .ok (.bipush 10, 2) := by decide +kernel
theorem dX0_numberAt_30 : decode cX0_numberAt 30 = .ok (.imul, 1) := by decide +kernel
theorem dX0_numberAt_31 : decode cX0_numberAt 31 = .ok (.aload_n 0, 1) := by decide +kernel
theorem dX0_numberAt_32 : decode cX0_numberAt 32 = .ok (.iload_n 3, 1) := by decide +kernel
theorem dX0_numberAt_33 : decode cX0_numberAt 33 = .ok (.invokevirtual 63, 3) := by decide +kernel
theorem dX0_numberAt_36 : decode cX0_numberAt 36 = .ok (.iadd, 1) := by decide +kernel
theorem dX0_numberAt_37 : decode cX0_numberAt 37 = .ok (.bipush 48, 2) := by decide +kernel
theorem dX0_numberAt_39 : decode cX0_numberAt 39 = .ok (.isub, 1) := by decide +kernel
theorem dX0_numberAt_40 : decode cX0_numberAt 40 = .ok (.invokestatic 123, 3) := by decide +kernel
theorem dX0_numberAt_43 : decode cX0_numberAt 43 = .ok (.istore_n 2, 1) := by decide +kernel
theorem dX0_numberAt_44 : decode cX0_numberAt 44 = .ok (.iinc 3 1, 3) := by decide +kernel
theorem dX0_numberAt_47 : decode cX0_numberAt 47 = .ok (.goto (-43), 3) := by decide +kernel
theorem dX0_numberAt_50 : decode cX0_numberAt 50 = .ok (.iload_n 2, 1) := by decide +kernel
theorem dX0_numberAt_51 : decode cX0_numberAt 51 = .ok (.ireturn, 1) := by decide +kernel
theorem dX0_spelling_0 : decode cX0_spelling 0 = .ok (.iload_n 0, 1) := by decide +kernel
theorem dX0_spelling_1 : decode cX0_spelling 1 = .ok (.tableswitch 57 0 5 #[39, 42, 45, 48, 51, 54], 39) := by decide +kernel
theorem dX0_spelling_40 : decode cX0_spelling 40 = .ok (.ldc 100, 2) := by decide +kernel
theorem dX0_spelling_42 : decode cX0_spelling 42 = .ok (.areturn, 1) := by decide +kernel
theorem dX0_spelling_43 : decode cX0_spelling 43 = .ok (.ldc 102, 2) := by decide +kernel
theorem dX0_spelling_45 : decode cX0_spelling 45 = .ok (.areturn, 1) := by decide +kernel
theorem dX0_spelling_46 : decode cX0_spelling 46 = .ok (.ldc 104, 2) := by decide +kernel
theorem dX0_spelling_48 : decode cX0_spelling 48 = .ok (.areturn, 1) := by decide +kernel
theorem dX0_spelling_49 : decode cX0_spelling 49 = .ok (.ldc 106, 2) := by decide +kernel
theorem dX0_spelling_51 : decode cX0_spelling 51 = .ok (.areturn, 1) := by decide +kernel
theorem dX0_spelling_52 : decode cX0_spelling 52 = .ok (.ldc 108, 2) := by decide +kernel
theorem dX0_spelling_54 : decode cX0_spelling 54 = .ok (.areturn, 1) := by decide +kernel
theorem dX0_spelling_55 : decode cX0_spelling 55 = .ok (.ldc 110, 2) := by decide +kernel
theorem dX0_spelling_57 : decode cX0_spelling 57 = .ok (.areturn, 1) := by decide +kernel
theorem dX0_spelling_58 : decode cX0_spelling 58 = .ok (.ldc 112, 2) := by decide +kernel
theorem dX0_spelling_60 : decode cX0_spelling 60 = .ok (.areturn, 1) := by decide +kernel
theorem dX0_standsAt_0 : decode cX0_standsAt 0 = .ok (.aload_n 0, 1) := by decide +kernel
theorem dX0_standsAt_1 : decode cX0_standsAt 1 = .ok (.invokevirtual 114, 3) := by decide +kernel
theorem dX0_standsAt_4 : decode cX0_standsAt 4 = .ok (.istore_n 3, 1) := by decide +kernel
theorem dX0_standsAt_5 : decode cX0_standsAt 5 = .ok (.iconst 0, 1) := by decide +kernel
theorem dX0_standsAt_6 : decode cX0_standsAt 6 = .ok (.istore 4, 2) := by decide +kernel
theorem dX0_standsAt_8 : decode cX0_standsAt 8 = .ok (.iload 4, 2) := by decide +kernel
theorem dX0_standsAt_10 : decode cX0_standsAt 10 = .ok (.iload_n 3, 1) := by decide +kernel
theorem dX0_standsAt_11 : decode cX0_standsAt 11 = .ok (.if_icmp .ge 28, 3) := by decide +kernel
theorem dX0_standsAt_14 : decode cX0_standsAt 14 = .ok (.aload_n 1, 1) := by decide +kernel
theorem dX0_standsAt_15 : decode cX0_standsAt 15 = .ok (.iload_n 2, 1) := by decide +kernel
theorem dX0_standsAt_16 : decode cX0_standsAt 16 = .ok (.iload 4, 2) := by decide +kernel
theorem dX0_standsAt_18 : decode cX0_standsAt 18 = .ok (.iadd, 1) := by decide +kernel
theorem dX0_standsAt_19 : decode cX0_standsAt 19 = .ok (.invokevirtual 63, 3) := by decide +kernel
theorem dX0_standsAt_22 : decode cX0_standsAt 22 = .ok (.aload_n 0, 1) := by decide +kernel
theorem dX0_standsAt_23 : decode cX0_standsAt 23 = .ok (.iload 4, 2) := by decide +kernel
theorem dX0_standsAt_25 : decode cX0_standsAt 25 = .ok (.invokevirtual 119, 3) := by decide +kernel
theorem dX0_standsAt_28 : decode cX0_standsAt 28 = .ok (.if_icmp .eq 5, 3) := by decide +kernel
theorem dX0_standsAt_31 : decode cX0_standsAt 31 = .ok (.iconst 0, 1) := by decide +kernel
theorem dX0_standsAt_32 : decode cX0_standsAt 32 = .ok (.ireturn, 1) := by decide +kernel
theorem dX0_standsAt_33 : decode cX0_standsAt 33 = .ok (.iinc 4 1, 3) := by decide +kernel
theorem dX0_standsAt_36 : decode cX0_standsAt 36 = .ok (.goto (-28), 3) := by decide +kernel
theorem dX0_standsAt_39 : decode cX0_standsAt 39 = .ok (.aload_n 1, 1) := by decide +kernel
theorem dX0_standsAt_40 : decode cX0_standsAt 40 = .ok (.iload_n 2, 1) := by decide +kernel
theorem dX0_standsAt_41 : decode cX0_standsAt 41 = .ok (.iload_n 3, 1) := by decide +kernel
theorem dX0_standsAt_42 : decode cX0_standsAt 42 = .ok (.iadd, 1) := by decide +kernel
theorem dX0_standsAt_43 : decode cX0_standsAt 43 = .ok (.invokevirtual 63, 3) := by decide +kernel
theorem dX0_standsAt_46 : decode cX0_standsAt 46 = .ok (.invokestatic 67, 3) := by decide +kernel
theorem dX0_standsAt_49 : decode cX0_standsAt 49 = .ok (.iconst 1, 1) := by decide +kernel
theorem dX0_standsAt_50 : decode cX0_standsAt 50 = .ok (.if_icmp .eq 7, 3) := by decide +kernel
theorem dX0_standsAt_53 : decode cX0_standsAt 53 = .ok (.iconst 1, 1) := by decide +kernel
theorem dX0_standsAt_54 : decode cX0_standsAt 54 = .ok (.goto 4, 3) := by decide +kernel
theorem dX0_standsAt_57 : decode cX0_standsAt 57 = .ok (.iconst 0, 1) := by decide +kernel
theorem dX0_standsAt_58 : decode cX0_standsAt 58 = .ok (.ireturn, 1) := by decide +kernel
theorem dX0_wordAt_0 : decode cX0_wordAt 0 = .ok (.iconst 0, 1) := by decide +kernel
theorem dX0_wordAt_1 : decode cX0_wordAt 1 = .ok (.istore_n 2, 1) := by decide +kernel
theorem dX0_wordAt_2 : decode cX0_wordAt 2 = .ok (.iload_n 2, 1) := by decide +kernel
theorem dX0_wordAt_3 : decode cX0_wordAt 3 = .ok (.bipush 7, 2) := by decide +kernel
theorem dX0_wordAt_5 : decode cX0_wordAt 5 = .ok (.if_icmp .ge 23, 3) := by decide +kernel
theorem dX0_wordAt_8 : decode cX0_wordAt 8 = .ok (.iload_n 2, 1) := by decide +kernel
theorem dX0_wordAt_9 : decode cX0_wordAt 9 = .ok (.invokestatic 92, 3) := by decide +kernel
theorem dX0_wordAt_12 : decode cX0_wordAt 12 = .ok (.aload_n 0, 1) := by decide +kernel
theorem dX0_wordAt_13 : decode cX0_wordAt 13 = .ok (.iload_n 1, 1) := by decide +kernel
theorem dX0_wordAt_14 : decode cX0_wordAt 14 = .ok (.invokestatic 96, 3) := by decide +kernel
theorem dX0_wordAt_17 : decode cX0_wordAt 17 = .ok (.ifCond .eq 5, 3) := by decide +kernel
theorem dX0_wordAt_20 : decode cX0_wordAt 20 = .ok (.iload_n 2, 1) := by decide +kernel
theorem dX0_wordAt_21 : decode cX0_wordAt 21 = .ok (.ireturn, 1) := by decide +kernel
theorem dX0_wordAt_22 : decode cX0_wordAt 22 = .ok (.iinc 2 1, 3) := by decide +kernel
theorem dX0_wordAt_25 : decode cX0_wordAt 25 = .ok (.goto (-23), 3) := by decide +kernel
theorem dX0_wordAt_28 : decode cX0_wordAt 28 = .ok (.iconst (-1), 1) := by decide +kernel
theorem dX0_wordAt_29 : decode cX0_wordAt 29 = .ok (.ireturn, 1) := by decide +kernel
theorem dX0_takeWord_0 : decode cX0_takeWord 0 = .ok (.aload_n 0, 1) := by decide +kernel
theorem dX0_takeWord_1 : decode cX0_takeWord 1 = .ok (.aload_n 1, 1) := by decide +kernel
theorem dX0_takeWord_2 : decode cX0_takeWord 2 = .ok (.iload_n 2, 1) := by decide +kernel
theorem dX0_takeWord_3 : decode cX0_takeWord 3 = .ok (.invokestatic 76, 3) := by decide +kernel
theorem dX0_takeWord_6 : decode cX0_takeWord 6 = .ok (.putfield 37, 3) := by decide +kernel
theorem dX0_takeWord_9 : decode cX0_takeWord 9 = .ok (.aload_n 0, 1) := by decide +kernel
theorem dX0_takeWord_10 : decode cX0_takeWord 10 = .ok (.getfield 37, 3) := by decide +kernel
theorem dX0_takeWord_13 : decode cX0_takeWord 13 = .ok (.iconst (-1), 1) := by decide +kernel
theorem dX0_takeWord_14 : decode cX0_takeWord 14 = .ok (.if_icmp .ne 5, 3) := by decide +kernel
theorem dX0_takeWord_17 : decode cX0_takeWord 17 = .ok (.iconst 1, 1) := by decide +kernel
theorem dX0_takeWord_18 : decode cX0_takeWord 18 = .ok (.ireturn, 1) := by decide +kernel
theorem dX0_takeWord_19 : decode cX0_takeWord 19 = .ok (.aload_n 0, 1) := by decide +kernel
theorem dX0_takeWord_20 : decode cX0_takeWord 20 = .ok (.getfield 40, 3) := by decide +kernel
theorem dX0_takeWord_23 : decode cX0_takeWord 23 = .ok (.iconst 1, 1) := by decide +kernel
theorem dX0_takeWord_24 : decode cX0_takeWord 24 = .ok (.aload_n 0, 1) := by decide +kernel
theorem dX0_takeWord_25 : decode cX0_takeWord 25 = .ok (.getfield 37, 3) := by decide +kernel
theorem dX0_takeWord_28 : decode cX0_takeWord 28 = .ok (.ishl, 1) := by decide +kernel
theorem dX0_takeWord_29 : decode cX0_takeWord 29 = .ok (.iand, 1) := by decide +kernel
theorem dX0_takeWord_30 : decode cX0_takeWord 30 = .ok (.ifCond .eq 5, 3) := by decide +kernel
theorem dX0_takeWord_33 : decode cX0_takeWord 33 = .ok (.iconst 2, 1) := by decide +kernel
theorem dX0_takeWord_34 : decode cX0_takeWord 34 = .ok (.ireturn, 1) := by decide +kernel
theorem dX0_takeWord_35 : decode cX0_takeWord 35 = .ok (.aload_n 0, 1) := by decide +kernel
theorem dX0_takeWord_36 : decode cX0_takeWord 36 = .ok (.dup, 1) := by decide +kernel
theorem dX0_takeWord_37 : decode cX0_takeWord 37 = .ok (.getfield 40, 3) := by decide +kernel
theorem dX0_takeWord_40 : decode cX0_takeWord 40 = .ok (.iconst 1, 1) := by decide +kernel
theorem dX0_takeWord_41 : decode cX0_takeWord 41 = .ok (.aload_n 0, 1) := by decide +kernel
theorem dX0_takeWord_42 : decode cX0_takeWord 42 = .ok (.getfield 37, 3) := by decide +kernel
theorem dX0_takeWord_45 : decode cX0_takeWord 45 = .ok (.ishl, 1) := by decide +kernel
theorem dX0_takeWord_46 : decode cX0_takeWord 46 = .ok (.ior, 1) := by decide +kernel
theorem dX0_takeWord_47 : decode cX0_takeWord 47 = .ok (.putfield 40, 3) := by decide +kernel
theorem dX0_takeWord_50 : decode cX0_takeWord 50 = .ok (.aload_n 0, 1) := by decide +kernel
theorem dX0_takeWord_51 : decode cX0_takeWord 51 = .ok (.iconst 2, 1) := by decide +kernel
theorem dX0_takeWord_52 : decode cX0_takeWord 52 = .ok (.putfield 34, 3) := by decide +kernel
theorem dX0_takeWord_55 : decode cX0_takeWord 55 = .ok (.iconst 0, 1) := by decide +kernel
theorem dX0_takeWord_56 : decode cX0_takeWord 56 = .ok (.ireturn, 1) := by decide +kernel
theorem dX0_takeNumber_0 : decode cX0_takeNumber 0 = .ok (.aload_n 1, 1) := by decide +kernel
theorem dX0_takeNumber_1 : decode cX0_takeNumber 1 = .ok (.iload_n 2, 1) := by decide +kernel
theorem dX0_takeNumber_2 : decode cX0_takeNumber 2 = .ok (.invokestatic 79, 3) := by decide +kernel
theorem dX0_takeNumber_5 : decode cX0_takeNumber 5 = .ok (.istore_n 3, 1) := by decide +kernel
theorem dX0_takeNumber_6 : decode cX0_takeNumber 6 = .ok (.aload_n 0, 1) := by decide +kernel
theorem dX0_takeNumber_7 : decode cX0_takeNumber 7 = .ok (.getfield 37, 3) := by decide +kernel
theorem dX0_takeNumber_10 : decode cX0_takeNumber 10 = .ok (.iconst 0, 1) := by decide +kernel
theorem dX0_takeNumber_11 : decode cX0_takeNumber 11 = .ok (.bipush 6, 2) := by decide +kernel
theorem dX0_takeNumber_13 : decode cX0_takeNumber 13 = .ok (.invokestatic 82, 3) := by decide +kernel
theorem dX0_takeNumber_16 : decode cX0_takeNumber 16 = .ok (.ifCond .eq 26, 3) := by decide +kernel
theorem dX0_takeNumber_19 : decode cX0_takeNumber 19 = .ok (.iload_n 3, 1) := by decide +kernel
theorem dX0_takeNumber_20 : decode cX0_takeNumber 20 = .ok (.getstatic 86, 3) := by decide +kernel
theorem dX0_takeNumber_23 : decode cX0_takeNumber 23 = .ok (.aload_n 0, 1) := by decide +kernel
theorem dX0_takeNumber_24 : decode cX0_takeNumber 24 = .ok (.getfield 37, 3) := by decide +kernel
theorem dX0_takeNumber_27 : decode cX0_takeNumber 27 = .ok (.iaload, 1) := by decide +kernel
theorem dX0_takeNumber_28 : decode cX0_takeNumber 28 = .ok (.getstatic 89, 3) := by decide +kernel
theorem dX0_takeNumber_31 : decode cX0_takeNumber 31 = .ok (.aload_n 0, 1) := by decide +kernel
theorem dX0_takeNumber_32 : decode cX0_takeNumber 32 = .ok (.getfield 37, 3) := by decide +kernel
theorem dX0_takeNumber_35 : decode cX0_takeNumber 35 = .ok (.iaload, 1) := by decide +kernel
theorem dX0_takeNumber_36 : decode cX0_takeNumber 36 = .ok (.invokestatic 82, 3) := by decide +kernel
theorem dX0_takeNumber_39 : decode cX0_takeNumber 39 = .ok (.ifCond .ne 5, 3) := by decide +kernel
theorem dX0_takeNumber_42 : decode cX0_takeNumber 42 = .ok (.iconst 3, 1) := by decide +kernel
theorem dX0_takeNumber_43 : decode cX0_takeNumber 43 = .ok (.ireturn, 1) := by decide +kernel
theorem dX0_takeNumber_44 : decode cX0_takeNumber 44 = .ok (.aload_n 0, 1) := by decide +kernel
theorem dX0_takeNumber_45 : decode cX0_takeNumber 45 = .ok (.getfield 15, 3) := by decide +kernel
theorem dX0_takeNumber_48 : decode cX0_takeNumber 48 = .ok (.aload_n 0, 1) := by decide +kernel
theorem dX0_takeNumber_49 : decode cX0_takeNumber 49 = .ok (.getfield 37, 3) := by decide +kernel
theorem dX0_takeNumber_52 : decode cX0_takeNumber 52 = .ok (.iload_n 3, 1) := by decide +kernel
theorem dX0_takeNumber_53 : decode cX0_takeNumber 53 = .ok (.iastore, 1) := by decide +kernel
theorem dX0_takeNumber_54 : decode cX0_takeNumber 54 = .ok (.aload_n 0, 1) := by decide +kernel
theorem dX0_takeNumber_55 : decode cX0_takeNumber 55 = .ok (.iconst 3, 1) := by decide +kernel
theorem dX0_takeNumber_56 : decode cX0_takeNumber 56 = .ok (.putfield 34, 3) := by decide +kernel
theorem dX0_takeNumber_59 : decode cX0_takeNumber 59 = .ok (.iconst 0, 1) := by decide +kernel
theorem dX0_takeNumber_60 : decode cX0_takeNumber 60 = .ok (.ireturn, 1) := by decide +kernel
theorem dX0_takeToken_0 : decode cX0_takeToken 0 = .ok (.aload_n 1, 1) := by decide +kernel
theorem dX0_takeToken_1 : decode cX0_takeToken 1 = .ok (.iload_n 2, 1) := by decide +kernel
theorem dX0_takeToken_2 : decode cX0_takeToken 2 = .ok (.invokevirtual 63, 3) := by decide +kernel
theorem dX0_takeToken_5 : decode cX0_takeToken 5 = .ok (.invokestatic 67, 3) := by decide +kernel
theorem dX0_takeToken_8 : decode cX0_takeToken 8 = .ok (.aload_n 0, 1) := by decide +kernel
theorem dX0_takeToken_9 : decode cX0_takeToken 9 = .ok (.getfield 34, 3) := by decide +kernel
theorem dX0_takeToken_12 : decode cX0_takeToken 12 = .ok (.if_icmp .eq 5, 3) := by decide +kernel
theorem dX0_takeToken_15 : decode cX0_takeToken 15 = .ok (.iconst 1, 1) := by decide +kernel
theorem dX0_takeToken_16 : decode cX0_takeToken 16 = .ok (.ireturn, 1) := by decide +kernel
theorem dX0_takeToken_17 : decode cX0_takeToken 17 = .ok (.aload_n 0, 1) := by decide +kernel
theorem dX0_takeToken_18 : decode cX0_takeToken 18 = .ok (.getfield 34, 3) := by decide +kernel
theorem dX0_takeToken_21 : decode cX0_takeToken 21 = .ok (.lookupswitch 41 #[(1, 27), (2, 34)], 27) := by decide +kernel
theorem dX0_takeToken_48 : decode cX0_takeToken 48 = .ok (.aload_n 0, 1) := by decide +kernel
theorem dX0_takeToken_49 : decode cX0_takeToken 49 = .ok (.aload_n 1, 1) := by decide +kernel
theorem dX0_takeToken_50 : decode cX0_takeToken 50 = .ok (.iload_n 2, 1) := by decide +kernel
theorem dX0_takeToken_51 : decode cX0_takeToken 51 = .ok (.invokevirtual 70, 3) := by decide +kernel
theorem dX0_takeToken_54 : decode cX0_takeToken 54 = .ok (.ireturn, 1) := by decide +kernel
theorem dX0_takeToken_55 : decode cX0_takeToken 55 = .ok (.aload_n 0, 1) := by decide +kernel
theorem dX0_takeToken_56 : decode cX0_takeToken 56 = .ok (.aload_n 1, 1) := by decide +kernel
theorem dX0_takeToken_57 : decode cX0_takeToken 57 = .ok (.iload_n 2, 1) := by decide +kernel
theorem dX0_takeToken_58 : decode cX0_takeToken 58 = .ok (.invokevirtual 73, 3) := by decide +kernel
theorem dX0_takeToken_61 : decode cX0_takeToken 61 = .ok (.ireturn, 1) := by decide +kernel
theorem dX0_takeToken_62 : decode cX0_takeToken 62 = .ok (.aload_n 0, 1) := by decide +kernel
theorem dX0_takeToken_63 : decode cX0_takeToken 63 = .ok (.dup, 1) := by decide +kernel
theorem dX0_takeToken_64 : decode cX0_takeToken 64 = .ok (.getfield 43, 3) := by decide +kernel
theorem dX0_takeToken_67 : decode cX0_takeToken 67 = .ok (.iconst 1, 1) := by decide +kernel
theorem dX0_takeToken_68 : decode cX0_takeToken 68 = .ok (.iadd, 1) := by decide +kernel
theorem dX0_takeToken_69 : decode cX0_takeToken 69 = .ok (.putfield 43, 3) := by decide +kernel
theorem dX0_takeToken_72 : decode cX0_takeToken 72 = .ok (.aload_n 0, 1) := by decide +kernel
theorem dX0_takeToken_73 : decode cX0_takeToken 73 = .ok (.iconst 1, 1) := by decide +kernel
theorem dX0_takeToken_74 : decode cX0_takeToken 74 = .ok (.putfield 34, 3) := by decide +kernel
theorem dX0_takeToken_77 : decode cX0_takeToken 77 = .ok (.iconst 0, 1) := by decide +kernel
theorem dX0_takeToken_78 : decode cX0_takeToken 78 = .ok (.ireturn, 1) := by decide +kernel
theorem dX0_note_0 : decode cX0_note 0 = .ok (.iload_n 1, 1) := by decide +kernel
theorem dX0_note_1 : decode cX0_note 1 = .ok (.ifCond .eq 13, 3) := by decide +kernel
theorem dX0_note_4 : decode cX0_note 4 = .ok (.aload_n 0, 1) := by decide +kernel
theorem dX0_note_5 : decode cX0_note 5 = .ok (.iload_n 1, 1) := by decide +kernel
theorem dX0_note_6 : decode cX0_note 6 = .ok (.putfield 18, 3) := by decide +kernel
theorem dX0_note_9 : decode cX0_note 9 = .ok (.aload_n 0, 1) := by decide +kernel
theorem dX0_note_10 : decode cX0_note 10 = .ok (.iload_n 2, 1) := by decide +kernel
theorem dX0_note_11 : decode cX0_note 11 = .ok (.putfield 22, 3) := by decide +kernel
theorem dX0_note_14 : decode cX0_note 14 = .ok (.return_, 1) := by decide +kernel
set_option maxHeartbeats 4000000 in
set_option maxRecDepth 100000 in
theorem k_sortOf (l : Launch) (dC : Nat → ClassId) (dI : Nat → Nat → Nat) (p0 : Int32) (sz : Nat) : Met l yX0_sortOf (zz_w yX0_sortOf cX0_sortOf 1 (some .int)) ({ frames := 0, cells := 0, slots := 0, locals := 0 }) (va_Pc [.int p0] (zz_B (dC, dI) sz [] [])) (va_Qi (fun (_ : Int32) (_ : Unit) => True) (fun _ _ => True) (va_A [] sz)) 0 0 (va_A [] sz) := by
  refine Met.ofW (cc := cX0_sortOf) (maxL := 1) (ret := (some .int)) (by decide) rfl ?_
  intro p e s m args below meth c s₁ B hml hv
  obtain ⟨rfl, hsz, hP, hK, hD0, hN⟩ := hv
  have hx := B.exec
  have hb := B.bytes
  have hr := B.returns
  have hts := atoms_spec (ws := zz_w yX0_sortOf cX0_sortOf 1 (some .int)) B.pre
  have hw : ∀ w ∈ zz_all, w.before _ s = true := fun w h => hts w (List.mem_cons_of_mem _ h)
  have hown : s.vm.findClass RX0 = some m.cls := findClass_of_methodNamed B.named
  have hlocks := B.notSynchronized
  subst hsz
  have hD := hD0
  generalize hAe : va_A [] s.heap.size = A
  have hA : ∀ q : Nat, s.heap.size ≤ q → A q := fun q h => by rw [← hAe]; exact Or.inr h
  have hS : va_S A s.heap s.heap [] := va_S.rf
  have hP : va_P (dC, dI) vwCl [] s.heap := hP
  have hl := lv_entry ([.int p0]) (n := 1) (Nat.le_of_ble_eq_true rfl)
  rw [lg_entry_eq]
  generalize (lg_sl ([.int p0]) ++ List.replicate (1 - (lg_sl ([.int p0])).length) Slot.unset).toArray = ls at hl ⊢
  have hl : lv_has ls 1 [(0, .int p0)] := hl
  refine lv_iload_n hx hb dX0_sortOf_0 rfl (lv_at hl 0 rfl) ?_
  refine lv_bipush (v := 32) hx hb dX0_sortOf_1 (by decide) ?_
  refine lv_icmp_ne (tgt := 8) hx hb dX0_sortOf_3 (by decide) (fun c_1 => ?_) (fun c_1 => ?_)
  · have zc_1 := c_1
    rw [← Int32.toInt_inj] at zc_1
    try rw [show (32 : Int32).toInt = 32 from by decide] at zc_1
    refine lv_iload_n hx hb dX0_sortOf_8 rfl (lv_at hl 0 rfl) ?_
    refine lv_bipush (v := 97) hx hb dX0_sortOf_9 (by decide) ?_
    refine lv_icmp_lt (tgt := 20) hx hb dX0_sortOf_11 (by decide) (fun c_2 => ?_) (fun c_2 => ?_)
    · have zc_2 := c_2
      rw [Int32.lt_iff_toInt_lt] at zc_2
      try rw [show (97 : Int32).toInt = 97 from by decide] at zc_2
      refine lv_iload_n hx hb dX0_sortOf_20 rfl (lv_at hl 0 rfl) ?_
      refine lv_bipush (v := 65) hx hb dX0_sortOf_21 (by decide) ?_
      refine lv_icmp_lt (tgt := 34) hx hb dX0_sortOf_23 (by decide) (fun c_3 => ?_) (fun c_3 => ?_)
      · have zc_3 := c_3
        rw [Int32.lt_iff_toInt_lt] at zc_3
        try rw [show (65 : Int32).toInt = 65 from by decide] at zc_3
        refine lv_iload_n hx hb dX0_sortOf_34 rfl (lv_at hl 0 rfl) ?_
        refine lv_bipush (v := 48) hx hb dX0_sortOf_35 (by decide) ?_
        refine lv_icmp_lt (tgt := 48) hx hb dX0_sortOf_37 (by decide) (fun c_4 => ?_) (fun c_4 => ?_)
        · have zc_4 := c_4
          rw [Int32.lt_iff_toInt_lt] at zc_4
          try rw [show (48 : Int32).toInt = 48 from by decide] at zc_4
          refine lv_iload_n hx hb dX0_sortOf_48 rfl (lv_at hl 0 rfl) ?_
          refine lv_bipush (v := 59) hx hb dX0_sortOf_49 (by decide) ?_
          refine lv_icmp_ne (tgt := 58) hx hb dX0_sortOf_51 (by decide) (fun c_5 => ?_) (fun c_5 => ?_)
          · have zc_5 := c_5
            rw [← Int32.toInt_inj] at zc_5
            try rw [show (59 : Int32).toInt = 59 from by decide] at zc_5
            refine lv_iconst (v := 4) hx hb dX0_sortOf_58 (by decide) ?_
            exact W.iret (v := 4) hx hb hr (fun t ht hW => ⟨⟨4, (), rfl, trivial, trivial⟩, hS.F ht⟩) hS.2.2 dX0_sortOf_59
          · have zc_5 := c_5
            rw [← Int32.toInt_inj] at zc_5
            try rw [show (59 : Int32).toInt = 59 from by decide] at zc_5
            refine lv_iconst (v := 3) hx hb dX0_sortOf_54 (by decide) ?_
            refine lv_goto (tgt := 59) hx hb dX0_sortOf_55 (by decide) ?_
            exact W.iret (v := 3) hx hb hr (fun t ht hW => ⟨⟨3, (), rfl, trivial, trivial⟩, hS.F ht⟩) hS.2.2 dX0_sortOf_59
        · have zc_4 := c_4
          rw [Int32.lt_iff_toInt_lt] at zc_4
          try rw [show (48 : Int32).toInt = 48 from by decide] at zc_4
          refine lv_iload_n hx hb dX0_sortOf_40 rfl (lv_at hl 0 rfl) ?_
          refine lv_bipush (v := 57) hx hb dX0_sortOf_41 (by decide) ?_
          refine lv_icmp_gt (tgt := 48) hx hb dX0_sortOf_43 (by decide) (fun c_6 => ?_) (fun c_6 => ?_)
          · have zc_6 := c_6
            rw [Int32.lt_iff_toInt_lt] at zc_6
            try rw [show (57 : Int32).toInt = 57 from by decide] at zc_6
            refine lv_iload_n hx hb dX0_sortOf_48 rfl (lv_at hl 0 rfl) ?_
            refine lv_bipush (v := 59) hx hb dX0_sortOf_49 (by decide) ?_
            refine lv_icmp_ne (tgt := 58) hx hb dX0_sortOf_51 (by decide) (fun c_7 => ?_) (fun c_7 => ?_)
            · have zc_7 := c_7
              rw [← Int32.toInt_inj] at zc_7
              try rw [show (59 : Int32).toInt = 59 from by decide] at zc_7
              refine lv_iconst (v := 4) hx hb dX0_sortOf_58 (by decide) ?_
              exact W.iret (v := 4) hx hb hr (fun t ht hW => ⟨⟨4, (), rfl, trivial, trivial⟩, hS.F ht⟩) hS.2.2 dX0_sortOf_59
            · have zc_7 := c_7
              rw [← Int32.toInt_inj] at zc_7
              try rw [show (59 : Int32).toInt = 59 from by decide] at zc_7
              refine lv_iconst (v := 3) hx hb dX0_sortOf_54 (by decide) ?_
              refine lv_goto (tgt := 59) hx hb dX0_sortOf_55 (by decide) ?_
              exact W.iret (v := 3) hx hb hr (fun t ht hW => ⟨⟨3, (), rfl, trivial, trivial⟩, hS.F ht⟩) hS.2.2 dX0_sortOf_59
          · have zc_6 := c_6
            rw [Int32.lt_iff_toInt_lt] at zc_6
            try rw [show (57 : Int32).toInt = 57 from by decide] at zc_6
            refine lv_iconst (v := 2) hx hb dX0_sortOf_46 (by decide) ?_
            exact W.iret (v := 2) hx hb hr (fun t ht hW => ⟨⟨2, (), rfl, trivial, trivial⟩, hS.F ht⟩) hS.2.2 dX0_sortOf_47
      · have zc_3 := c_3
        rw [Int32.lt_iff_toInt_lt] at zc_3
        try rw [show (65 : Int32).toInt = 65 from by decide] at zc_3
        refine lv_iload_n hx hb dX0_sortOf_26 rfl (lv_at hl 0 rfl) ?_
        refine lv_bipush (v := 90) hx hb dX0_sortOf_27 (by decide) ?_
        refine lv_icmp_gt (tgt := 34) hx hb dX0_sortOf_29 (by decide) (fun c_8 => ?_) (fun c_8 => ?_)
        · have zc_8 := c_8
          rw [Int32.lt_iff_toInt_lt] at zc_8
          try rw [show (90 : Int32).toInt = 90 from by decide] at zc_8
          refine lv_iload_n hx hb dX0_sortOf_34 rfl (lv_at hl 0 rfl) ?_
          refine lv_bipush (v := 48) hx hb dX0_sortOf_35 (by decide) ?_
          refine lv_icmp_lt (tgt := 48) hx hb dX0_sortOf_37 (by decide) (fun c_9 => ?_) (fun c_9 => ?_)
          · have zc_9 := c_9
            rw [Int32.lt_iff_toInt_lt] at zc_9
            try rw [show (48 : Int32).toInt = 48 from by decide] at zc_9
            refine lv_iload_n hx hb dX0_sortOf_48 rfl (lv_at hl 0 rfl) ?_
            refine lv_bipush (v := 59) hx hb dX0_sortOf_49 (by decide) ?_
            refine lv_icmp_ne (tgt := 58) hx hb dX0_sortOf_51 (by decide) (fun c_10 => ?_) (fun c_10 => ?_)
            · have zc_10 := c_10
              rw [← Int32.toInt_inj] at zc_10
              try rw [show (59 : Int32).toInt = 59 from by decide] at zc_10
              refine lv_iconst (v := 4) hx hb dX0_sortOf_58 (by decide) ?_
              exact W.iret (v := 4) hx hb hr (fun t ht hW => ⟨⟨4, (), rfl, trivial, trivial⟩, hS.F ht⟩) hS.2.2 dX0_sortOf_59
            · have zc_10 := c_10
              rw [← Int32.toInt_inj] at zc_10
              try rw [show (59 : Int32).toInt = 59 from by decide] at zc_10
              refine lv_iconst (v := 3) hx hb dX0_sortOf_54 (by decide) ?_
              refine lv_goto (tgt := 59) hx hb dX0_sortOf_55 (by decide) ?_
              exact W.iret (v := 3) hx hb hr (fun t ht hW => ⟨⟨3, (), rfl, trivial, trivial⟩, hS.F ht⟩) hS.2.2 dX0_sortOf_59
          · have zc_9 := c_9
            rw [Int32.lt_iff_toInt_lt] at zc_9
            try rw [show (48 : Int32).toInt = 48 from by decide] at zc_9
            refine lv_iload_n hx hb dX0_sortOf_40 rfl (lv_at hl 0 rfl) ?_
            refine lv_bipush (v := 57) hx hb dX0_sortOf_41 (by decide) ?_
            refine lv_icmp_gt (tgt := 48) hx hb dX0_sortOf_43 (by decide) (fun c_11 => ?_) (fun c_11 => ?_)
            · have zc_11 := c_11
              rw [Int32.lt_iff_toInt_lt] at zc_11
              try rw [show (57 : Int32).toInt = 57 from by decide] at zc_11
              refine lv_iload_n hx hb dX0_sortOf_48 rfl (lv_at hl 0 rfl) ?_
              refine lv_bipush (v := 59) hx hb dX0_sortOf_49 (by decide) ?_
              refine lv_icmp_ne (tgt := 58) hx hb dX0_sortOf_51 (by decide) (fun c_12 => ?_) (fun c_12 => ?_)
              · have zc_12 := c_12
                rw [← Int32.toInt_inj] at zc_12
                try rw [show (59 : Int32).toInt = 59 from by decide] at zc_12
                refine lv_iconst (v := 4) hx hb dX0_sortOf_58 (by decide) ?_
                exact W.iret (v := 4) hx hb hr (fun t ht hW => ⟨⟨4, (), rfl, trivial, trivial⟩, hS.F ht⟩) hS.2.2 dX0_sortOf_59
              · have zc_12 := c_12
                rw [← Int32.toInt_inj] at zc_12
                try rw [show (59 : Int32).toInt = 59 from by decide] at zc_12
                refine lv_iconst (v := 3) hx hb dX0_sortOf_54 (by decide) ?_
                refine lv_goto (tgt := 59) hx hb dX0_sortOf_55 (by decide) ?_
                exact W.iret (v := 3) hx hb hr (fun t ht hW => ⟨⟨3, (), rfl, trivial, trivial⟩, hS.F ht⟩) hS.2.2 dX0_sortOf_59
            · have zc_11 := c_11
              rw [Int32.lt_iff_toInt_lt] at zc_11
              try rw [show (57 : Int32).toInt = 57 from by decide] at zc_11
              refine lv_iconst (v := 2) hx hb dX0_sortOf_46 (by decide) ?_
              exact W.iret (v := 2) hx hb hr (fun t ht hW => ⟨⟨2, (), rfl, trivial, trivial⟩, hS.F ht⟩) hS.2.2 dX0_sortOf_47
        · have zc_8 := c_8
          rw [Int32.lt_iff_toInt_lt] at zc_8
          try rw [show (90 : Int32).toInt = 90 from by decide] at zc_8
          refine lv_iconst (v := 1) hx hb dX0_sortOf_32 (by decide) ?_
          exact W.iret (v := 1) hx hb hr (fun t ht hW => ⟨⟨1, (), rfl, trivial, trivial⟩, hS.F ht⟩) hS.2.2 dX0_sortOf_33
    · have zc_2 := c_2
      rw [Int32.lt_iff_toInt_lt] at zc_2
      try rw [show (97 : Int32).toInt = 97 from by decide] at zc_2
      refine lv_iload_n hx hb dX0_sortOf_14 rfl (lv_at hl 0 rfl) ?_
      refine lv_bipush (v := 122) hx hb dX0_sortOf_15 (by decide) ?_
      refine lv_icmp_le (tgt := 32) hx hb dX0_sortOf_17 (by decide) (fun c_13 => ?_) (fun c_13 => ?_)
      · have zc_13 := c_13
        rw [Int32.le_iff_toInt_le] at zc_13
        try rw [show (122 : Int32).toInt = 122 from by decide] at zc_13
        refine lv_iconst (v := 1) hx hb dX0_sortOf_32 (by decide) ?_
        exact W.iret (v := 1) hx hb hr (fun t ht hW => ⟨⟨1, (), rfl, trivial, trivial⟩, hS.F ht⟩) hS.2.2 dX0_sortOf_33
      · have zc_13 := c_13
        rw [Int32.le_iff_toInt_le] at zc_13
        try rw [show (122 : Int32).toInt = 122 from by decide] at zc_13
        refine lv_iload_n hx hb dX0_sortOf_20 rfl (lv_at hl 0 rfl) ?_
        refine lv_bipush (v := 65) hx hb dX0_sortOf_21 (by decide) ?_
        refine lv_icmp_lt (tgt := 34) hx hb dX0_sortOf_23 (by decide) (fun c_14 => ?_) (fun c_14 => ?_)
        · have zc_14 := c_14
          rw [Int32.lt_iff_toInt_lt] at zc_14
          try rw [show (65 : Int32).toInt = 65 from by decide] at zc_14
          refine lv_iload_n hx hb dX0_sortOf_34 rfl (lv_at hl 0 rfl) ?_
          refine lv_bipush (v := 48) hx hb dX0_sortOf_35 (by decide) ?_
          refine lv_icmp_lt (tgt := 48) hx hb dX0_sortOf_37 (by decide) (fun c_15 => ?_) (fun c_15 => ?_)
          · have zc_15 := c_15
            rw [Int32.lt_iff_toInt_lt] at zc_15
            try rw [show (48 : Int32).toInt = 48 from by decide] at zc_15
            refine lv_iload_n hx hb dX0_sortOf_48 rfl (lv_at hl 0 rfl) ?_
            refine lv_bipush (v := 59) hx hb dX0_sortOf_49 (by decide) ?_
            refine lv_icmp_ne (tgt := 58) hx hb dX0_sortOf_51 (by decide) (fun c_16 => ?_) (fun c_16 => ?_)
            · have zc_16 := c_16
              rw [← Int32.toInt_inj] at zc_16
              try rw [show (59 : Int32).toInt = 59 from by decide] at zc_16
              refine lv_iconst (v := 4) hx hb dX0_sortOf_58 (by decide) ?_
              exact W.iret (v := 4) hx hb hr (fun t ht hW => ⟨⟨4, (), rfl, trivial, trivial⟩, hS.F ht⟩) hS.2.2 dX0_sortOf_59
            · have zc_16 := c_16
              rw [← Int32.toInt_inj] at zc_16
              try rw [show (59 : Int32).toInt = 59 from by decide] at zc_16
              refine lv_iconst (v := 3) hx hb dX0_sortOf_54 (by decide) ?_
              refine lv_goto (tgt := 59) hx hb dX0_sortOf_55 (by decide) ?_
              exact W.iret (v := 3) hx hb hr (fun t ht hW => ⟨⟨3, (), rfl, trivial, trivial⟩, hS.F ht⟩) hS.2.2 dX0_sortOf_59
          · have zc_15 := c_15
            rw [Int32.lt_iff_toInt_lt] at zc_15
            try rw [show (48 : Int32).toInt = 48 from by decide] at zc_15
            refine lv_iload_n hx hb dX0_sortOf_40 rfl (lv_at hl 0 rfl) ?_
            refine lv_bipush (v := 57) hx hb dX0_sortOf_41 (by decide) ?_
            refine lv_icmp_gt (tgt := 48) hx hb dX0_sortOf_43 (by decide) (fun c_17 => ?_) (fun c_17 => ?_)
            · have zc_17 := c_17
              rw [Int32.lt_iff_toInt_lt] at zc_17
              try rw [show (57 : Int32).toInt = 57 from by decide] at zc_17
              refine lv_iload_n hx hb dX0_sortOf_48 rfl (lv_at hl 0 rfl) ?_
              refine lv_bipush (v := 59) hx hb dX0_sortOf_49 (by decide) ?_
              refine lv_icmp_ne (tgt := 58) hx hb dX0_sortOf_51 (by decide) (fun c_18 => ?_) (fun c_18 => ?_)
              · have zc_18 := c_18
                rw [← Int32.toInt_inj] at zc_18
                try rw [show (59 : Int32).toInt = 59 from by decide] at zc_18
                refine lv_iconst (v := 4) hx hb dX0_sortOf_58 (by decide) ?_
                exact W.iret (v := 4) hx hb hr (fun t ht hW => ⟨⟨4, (), rfl, trivial, trivial⟩, hS.F ht⟩) hS.2.2 dX0_sortOf_59
              · have zc_18 := c_18
                rw [← Int32.toInt_inj] at zc_18
                try rw [show (59 : Int32).toInt = 59 from by decide] at zc_18
                refine lv_iconst (v := 3) hx hb dX0_sortOf_54 (by decide) ?_
                refine lv_goto (tgt := 59) hx hb dX0_sortOf_55 (by decide) ?_
                exact W.iret (v := 3) hx hb hr (fun t ht hW => ⟨⟨3, (), rfl, trivial, trivial⟩, hS.F ht⟩) hS.2.2 dX0_sortOf_59
            · have zc_17 := c_17
              rw [Int32.lt_iff_toInt_lt] at zc_17
              try rw [show (57 : Int32).toInt = 57 from by decide] at zc_17
              refine lv_iconst (v := 2) hx hb dX0_sortOf_46 (by decide) ?_
              exact W.iret (v := 2) hx hb hr (fun t ht hW => ⟨⟨2, (), rfl, trivial, trivial⟩, hS.F ht⟩) hS.2.2 dX0_sortOf_47
        · have zc_14 := c_14
          rw [Int32.lt_iff_toInt_lt] at zc_14
          try rw [show (65 : Int32).toInt = 65 from by decide] at zc_14
          refine lv_iload_n hx hb dX0_sortOf_26 rfl (lv_at hl 0 rfl) ?_
          refine lv_bipush (v := 90) hx hb dX0_sortOf_27 (by decide) ?_
          refine lv_icmp_gt (tgt := 34) hx hb dX0_sortOf_29 (by decide) (fun c_19 => ?_) (fun c_19 => ?_)
          · have zc_19 := c_19
            rw [Int32.lt_iff_toInt_lt] at zc_19
            try rw [show (90 : Int32).toInt = 90 from by decide] at zc_19
            refine lv_iload_n hx hb dX0_sortOf_34 rfl (lv_at hl 0 rfl) ?_
            refine lv_bipush (v := 48) hx hb dX0_sortOf_35 (by decide) ?_
            refine lv_icmp_lt (tgt := 48) hx hb dX0_sortOf_37 (by decide) (fun c_20 => ?_) (fun c_20 => ?_)
            · have zc_20 := c_20
              rw [Int32.lt_iff_toInt_lt] at zc_20
              try rw [show (48 : Int32).toInt = 48 from by decide] at zc_20
              refine lv_iload_n hx hb dX0_sortOf_48 rfl (lv_at hl 0 rfl) ?_
              refine lv_bipush (v := 59) hx hb dX0_sortOf_49 (by decide) ?_
              refine lv_icmp_ne (tgt := 58) hx hb dX0_sortOf_51 (by decide) (fun c_21 => ?_) (fun c_21 => ?_)
              · have zc_21 := c_21
                rw [← Int32.toInt_inj] at zc_21
                try rw [show (59 : Int32).toInt = 59 from by decide] at zc_21
                refine lv_iconst (v := 4) hx hb dX0_sortOf_58 (by decide) ?_
                exact W.iret (v := 4) hx hb hr (fun t ht hW => ⟨⟨4, (), rfl, trivial, trivial⟩, hS.F ht⟩) hS.2.2 dX0_sortOf_59
              · have zc_21 := c_21
                rw [← Int32.toInt_inj] at zc_21
                try rw [show (59 : Int32).toInt = 59 from by decide] at zc_21
                refine lv_iconst (v := 3) hx hb dX0_sortOf_54 (by decide) ?_
                refine lv_goto (tgt := 59) hx hb dX0_sortOf_55 (by decide) ?_
                exact W.iret (v := 3) hx hb hr (fun t ht hW => ⟨⟨3, (), rfl, trivial, trivial⟩, hS.F ht⟩) hS.2.2 dX0_sortOf_59
            · have zc_20 := c_20
              rw [Int32.lt_iff_toInt_lt] at zc_20
              try rw [show (48 : Int32).toInt = 48 from by decide] at zc_20
              refine lv_iload_n hx hb dX0_sortOf_40 rfl (lv_at hl 0 rfl) ?_
              refine lv_bipush (v := 57) hx hb dX0_sortOf_41 (by decide) ?_
              refine lv_icmp_gt (tgt := 48) hx hb dX0_sortOf_43 (by decide) (fun c_22 => ?_) (fun c_22 => ?_)
              · have zc_22 := c_22
                rw [Int32.lt_iff_toInt_lt] at zc_22
                try rw [show (57 : Int32).toInt = 57 from by decide] at zc_22
                refine lv_iload_n hx hb dX0_sortOf_48 rfl (lv_at hl 0 rfl) ?_
                refine lv_bipush (v := 59) hx hb dX0_sortOf_49 (by decide) ?_
                refine lv_icmp_ne (tgt := 58) hx hb dX0_sortOf_51 (by decide) (fun c_23 => ?_) (fun c_23 => ?_)
                · have zc_23 := c_23
                  rw [← Int32.toInt_inj] at zc_23
                  try rw [show (59 : Int32).toInt = 59 from by decide] at zc_23
                  refine lv_iconst (v := 4) hx hb dX0_sortOf_58 (by decide) ?_
                  exact W.iret (v := 4) hx hb hr (fun t ht hW => ⟨⟨4, (), rfl, trivial, trivial⟩, hS.F ht⟩) hS.2.2 dX0_sortOf_59
                · have zc_23 := c_23
                  rw [← Int32.toInt_inj] at zc_23
                  try rw [show (59 : Int32).toInt = 59 from by decide] at zc_23
                  refine lv_iconst (v := 3) hx hb dX0_sortOf_54 (by decide) ?_
                  refine lv_goto (tgt := 59) hx hb dX0_sortOf_55 (by decide) ?_
                  exact W.iret (v := 3) hx hb hr (fun t ht hW => ⟨⟨3, (), rfl, trivial, trivial⟩, hS.F ht⟩) hS.2.2 dX0_sortOf_59
              · have zc_22 := c_22
                rw [Int32.lt_iff_toInt_lt] at zc_22
                try rw [show (57 : Int32).toInt = 57 from by decide] at zc_22
                refine lv_iconst (v := 2) hx hb dX0_sortOf_46 (by decide) ?_
                exact W.iret (v := 2) hx hb hr (fun t ht hW => ⟨⟨2, (), rfl, trivial, trivial⟩, hS.F ht⟩) hS.2.2 dX0_sortOf_47
          · have zc_19 := c_19
            rw [Int32.lt_iff_toInt_lt] at zc_19
            try rw [show (90 : Int32).toInt = 90 from by decide] at zc_19
            refine lv_iconst (v := 1) hx hb dX0_sortOf_32 (by decide) ?_
            exact W.iret (v := 1) hx hb hr (fun t ht hW => ⟨⟨1, (), rfl, trivial, trivial⟩, hS.F ht⟩) hS.2.2 dX0_sortOf_33
  · have zc_1 := c_1
    rw [← Int32.toInt_inj] at zc_1
    try rw [show (32 : Int32).toInt = 32 from by decide] at zc_1
    refine lv_iconst (v := 0) hx hb dX0_sortOf_6 (by decide) ?_
    exact W.iret (v := 0) hx hb hr (fun t ht hW => ⟨⟨0, (), rfl, trivial, trivial⟩, hS.F ht⟩) hS.2.2 dX0_sortOf_7

set_option maxHeartbeats 4000000 in
set_option maxRecDepth 100000 in
theorem k_beginsToken (l : Launch) (dC : Nat → ClassId) (dI : Nat → Nat → Nat) (a : Nat → Nat) (cI : ClassId) (nt : Nat) (fb : Nat → Int32) (ka : Nat) (sz : Nat) : Met l yX0_beginsToken (zz_w yX0_beginsToken cX0_beginsToken 3 (some .boolean)) ({ frames := 1, cells := 0, slots := 0, locals := 21 }) (va_Pc [.ref (a 24), .int (nI ka)] (zz_B (dC, dI) sz [(a 24, .inr (6, [.ref (a 25), .int (nI nt)])), (a 25, .inl (cI, 200, .inl fb))] [(cI, .int)])) (va_Qi (fun (r : Int32) (_ : Unit) => r = 0 ∨ r = 1) (fun _ _ => True) (va_A [] sz)) 0 0 (va_A [] sz) := by
  refine Met.ofW (cc := cX0_beginsToken) (maxL := 3) (ret := (some .boolean)) (by decide) rfl ?_
  intro p e s m args below meth c s₁ B hml hv
  obtain ⟨rfl, hsz, hP, hK, hD0, hN⟩ := hv
  have hx := B.exec
  have hb := B.bytes
  have hr := B.returns
  have hts := atoms_spec (ws := zz_w yX0_beginsToken cX0_beginsToken 3 (some .boolean)) B.pre
  have hw : ∀ w ∈ zz_all, w.before _ s = true := fun w h => hts w (List.mem_cons_of_mem _ h)
  have hown : s.vm.findClass RX0 = some m.cls := findClass_of_methodNamed B.named
  have hlocks := B.notSynchronized
  subst hsz
  have hD := hD0
  generalize hAe : va_A [] s.heap.size = A
  have hA : ∀ q : Nat, s.heap.size ≤ q → A q := fun q h => by rw [← hAe]; exact Or.inr h
  have hS : va_S A s.heap s.heap [] := va_S.rf
  have hP : va_P (dC, dI) vwCl [(a 24, .inr (6, [.ref (a 25), .int (nI nt)])), (a 25, .inl (cI, 200, .inl fb))] s.heap := hP
  have hl := lv_entry ([.ref (a 24), .int (nI ka)]) (n := 3) (Nat.le_of_ble_eq_true rfl)
  rw [lg_entry_eq]
  generalize (lg_sl ([.ref (a 24), .int (nI ka)]) ++ List.replicate (3 - (lg_sl ([.ref (a 24), .int (nI ka)])).length) Slot.unset).toArray = ls at hl ⊢
  have hl : lv_has ls 3 [(0, .ref (a 24)), (1, .int (nI ka))] := hl
  refine lv_aload_n hx hb dX0_beginsToken_0 rfl (lv_at hl 0 rfl) ?_
  refine lv_iload_n hx hb dX0_beginsToken_1 rfl (lv_at hl 1 rfl) ?_
  have hPc := hP.sub (ws' := [(a 24, .inr (6, [.ref (a 25), .int (nI nt)])), (a 25, .inl (cI, 200, .inl fb))]) [0, 1] rfl
  have hDc := hD.sub (ws' := [(a 24, .inr (6, [.ref (a 25), .int (nI nt)])), (a 25, .inl (cI, 200, .inl fb))]) [0, 1] (by decide) rfl
  have hKc := hK.sub (tys' := [(cI, .int)]) [0] rfl
  have hFc := zz_free0 hS hA
  refine va_calli (va_runVN (As := [.int (nI ka)]) (rest := []) ⟨hx, hb, hml, hown, hw⟩ (k_at l dC dI a cI nt fb (nI ka) s.heap.size) ⟨va_cnB 1 hw (zz_good tw_353) rfl rfl rfl (hN.1 _ zz_n48) (hw _ tw_99) (by decide +kernel) ⟨Nat.le_of_ble_eq_true rfl, Nat.le_of_ble_eq_true rfl⟩, (hw _ tw_354), (hw _ tw_355)⟩ ⟨zz_blind, va_recv hKc hPc (ci := 6) (q0 := 0) rfl rfl, zz_pre hPc hKc hDc hN⟩ rfl rfl hl.1 rfl (lv_room (Nat.le_of_ble_eq_true rfl)) dX0_beginsToken_2 ⟨Nat.le_of_ble_eq_true rfl, Nat.le_of_ble_eq_true rfl⟩) hS (fun q _ h => hFc q h) hFc (fun r_1 u_1 t H1 locs ht hvm e_1 hB hz1 hk1 hS => ?_)
  try dsimp only at e_1
  have hP := zz_keep hP hk1
  clear hk1 hB ht hvm
  generalize H1 = H at hP hS ⊢
  have hPc := hP.sub (ws' := []) [] rfl
  have hDc := hD.sub (ws' := []) [] (by decide) rfl
  have hKc := hK.sub (tys' := []) [] rfl
  have hFc := zz_free0 hS hA
  refine va_calli (va_runS (As := [.int r_1]) (rest := []) ⟨hx, hb, hml, hown, hw⟩ (k_sortOf l dC dI r_1 H.size) ⟨callB_of 1 hw (zz_good tw_356) rfl rfl rfl (hw _ tw_357) (hw _ tw_358) (by decide +kernel) ⟨Nat.le_of_ble_eq_true rfl, Nat.le_of_ble_eq_true rfl⟩, (hw _ tw_359)⟩ ⟨zz_blind, zz_pre hPc hKc hDc hN⟩ rfl rfl hl.1 rfl (lv_room (Nat.le_of_ble_eq_true rfl)) dX0_beginsToken_5 ⟨Nat.le_of_ble_eq_true rfl, Nat.le_of_ble_eq_true rfl⟩) hS (fun q _ h => hFc q h) hFc (fun r_2 u_2 t H1 locs ht hvm e_2 hB hz1 hk1 hS => ?_)
  try dsimp only at e_2
  have hP := zz_keep hP hk1
  clear hk1 hB ht hvm
  generalize H1 = H at hP hS ⊢
  refine lv_istore_n (lv' := [(2, .int r_2), (0, .ref (a 24)), (1, .int (nI ka))]) hx hb dX0_beginsToken_8 rfl hl (by decide) rfl (fun ls hl => ?_)
  refine lv_iload_n hx hb dX0_beginsToken_9 rfl (lv_at hl 0 rfl) ?_
  refine lv_iconst (v := 1) hx hb dX0_beginsToken_10 (by decide) ?_
  refine lv_icmp_eq (tgt := 19) hx hb dX0_beginsToken_11 (by decide) (fun c_3 => ?_) (fun c_3 => ?_)
  · have zc_3 := c_3
    rw [← Int32.toInt_inj] at zc_3
    try rw [show (1 : Int32).toInt = 1 from by decide] at zc_3
    refine lv_iload_n hx hb dX0_beginsToken_19 rfl (lv_at hl 0 rfl) ?_
    refine lv_aload_n hx hb dX0_beginsToken_20 rfl (lv_at hl 1 rfl) ?_
    refine lv_iload_n hx hb dX0_beginsToken_21 rfl (lv_at hl 2 rfl) ?_
    refine lv_iconst (v := 1) hx hb dX0_beginsToken_22 (by decide) ?_
    refine lv_isub hx hb dX0_beginsToken_23 ?_
    have hPc := hP.sub (ws' := [(a 24, .inr (6, [.ref (a 25), .int (nI nt)])), (a 25, .inl (cI, 200, .inl fb))]) [0, 1] rfl
    have hDc := hD.sub (ws' := [(a 24, .inr (6, [.ref (a 25), .int (nI nt)])), (a 25, .inl (cI, 200, .inl fb))]) [0, 1] (by decide) rfl
    have hKc := hK.sub (tys' := [(cI, .int)]) [0] rfl
    have hFc := zz_free0 hS hA
    refine va_calli (va_runVN (As := [.int ((nI ka) - 1)]) (rest := [.int r_2]) ⟨hx, hb, hml, hown, hw⟩ (k_at l dC dI a cI nt fb ((nI ka) - 1) H.size) ⟨va_cnB 1 hw (zz_good tw_353) rfl rfl rfl (hN.1 _ zz_n48) (hw _ tw_99) (by decide +kernel) ⟨Nat.le_of_ble_eq_true rfl, Nat.le_of_ble_eq_true rfl⟩, (hw _ tw_354), (hw _ tw_355)⟩ ⟨zz_blind, va_recv hKc hPc (ci := 6) (q0 := 0) rfl rfl, zz_pre hPc hKc hDc hN⟩ rfl rfl hl.1 rfl (lv_room (Nat.le_of_ble_eq_true rfl)) dX0_beginsToken_24 ⟨Nat.le_of_ble_eq_true rfl, Nat.le_of_ble_eq_true rfl⟩) hS (fun q _ h => hFc q h) hFc (fun r_4 u_4 t H1 locs ht hvm e_4 hB hz1 hk1 hS => ?_)
    try dsimp only at e_4
    have hP := zz_keep hP hk1
    clear hk1 hB ht hvm
    generalize H1 = H at hP hS ⊢
    have hPc := hP.sub (ws' := []) [] rfl
    have hDc := hD.sub (ws' := []) [] (by decide) rfl
    have hKc := hK.sub (tys' := []) [] rfl
    have hFc := zz_free0 hS hA
    refine va_calli (va_runS (As := [.int r_4]) (rest := [.int r_2]) ⟨hx, hb, hml, hown, hw⟩ (k_sortOf l dC dI r_4 H.size) ⟨callB_of 1 hw (zz_good tw_356) rfl rfl rfl (hw _ tw_357) (hw _ tw_358) (by decide +kernel) ⟨Nat.le_of_ble_eq_true rfl, Nat.le_of_ble_eq_true rfl⟩, (hw _ tw_359)⟩ ⟨zz_blind, zz_pre hPc hKc hDc hN⟩ rfl rfl hl.1 rfl (lv_room (Nat.le_of_ble_eq_true rfl)) dX0_beginsToken_27 ⟨Nat.le_of_ble_eq_true rfl, Nat.le_of_ble_eq_true rfl⟩) hS (fun q _ h => hFc q h) hFc (fun r_5 u_5 t H1 locs ht hvm e_5 hB hz1 hk1 hS => ?_)
    try dsimp only at e_5
    have hP := zz_keep hP hk1
    clear hk1 hB ht hvm
    generalize H1 = H at hP hS ⊢
    refine lv_icmp_eq (tgt := 37) hx hb dX0_beginsToken_30 (by decide) (fun c_6 => ?_) (fun c_6 => ?_)
    · have zc_6 := c_6
      rw [← Int32.toInt_inj] at zc_6
      refine lv_iconst (v := 0) hx hb dX0_beginsToken_37 (by decide) ?_
      exact W.zret (v := 0) hx hb hr (rfl) (fun t ht hW => ⟨⟨0, (), rfl, Or.inl rfl, trivial⟩, hS.F ht⟩) hS.2.2 dX0_beginsToken_38
    · have zc_6 := c_6
      rw [← Int32.toInt_inj] at zc_6
      refine lv_iconst (v := 1) hx hb dX0_beginsToken_33 (by decide) ?_
      refine lv_goto (tgt := 38) hx hb dX0_beginsToken_34 (by decide) ?_
      exact W.zret (v := 1) hx hb hr (rfl) (fun t ht hW => ⟨⟨1, (), rfl, Or.inr rfl, trivial⟩, hS.F ht⟩) hS.2.2 dX0_beginsToken_38
  · have zc_3 := c_3
    rw [← Int32.toInt_inj] at zc_3
    try rw [show (1 : Int32).toInt = 1 from by decide] at zc_3
    refine lv_iload_n hx hb dX0_beginsToken_14 rfl (lv_at hl 0 rfl) ?_
    refine lv_iconst (v := 2) hx hb dX0_beginsToken_15 (by decide) ?_
    refine lv_icmp_ne (tgt := 39) hx hb dX0_beginsToken_16 (by decide) (fun c_7 => ?_) (fun c_7 => ?_)
    · have zc_7 := c_7
      rw [← Int32.toInt_inj] at zc_7
      try rw [show (2 : Int32).toInt = 2 from by decide] at zc_7
      refine lv_iload_n hx hb dX0_beginsToken_39 rfl (lv_at hl 0 rfl) ?_
      refine lv_if_eq (tgt := 47) hx hb dX0_beginsToken_40 (by decide) (fun c_8 => ?_) (fun c_8 => ?_)
      · have zc_8 := c_8
        rw [← Int32.toInt_inj] at zc_8
        try rw [show (0 : Int32).toInt = 0 from by decide] at zc_8
        refine lv_iconst (v := 0) hx hb dX0_beginsToken_47 (by decide) ?_
        exact W.zret (v := 0) hx hb hr (rfl) (fun t ht hW => ⟨⟨0, (), rfl, Or.inl rfl, trivial⟩, hS.F ht⟩) hS.2.2 dX0_beginsToken_48
      · have zc_8 := c_8
        rw [← Int32.toInt_inj] at zc_8
        try rw [show (0 : Int32).toInt = 0 from by decide] at zc_8
        refine lv_iconst (v := 1) hx hb dX0_beginsToken_43 (by decide) ?_
        refine lv_goto (tgt := 48) hx hb dX0_beginsToken_44 (by decide) ?_
        exact W.zret (v := 1) hx hb hr (rfl) (fun t ht hW => ⟨⟨1, (), rfl, Or.inr rfl, trivial⟩, hS.F ht⟩) hS.2.2 dX0_beginsToken_48
    · have zc_7 := c_7
      rw [← Int32.toInt_inj] at zc_7
      try rw [show (2 : Int32).toInt = 2 from by decide] at zc_7
      refine lv_iload_n hx hb dX0_beginsToken_19 rfl (lv_at hl 0 rfl) ?_
      refine lv_aload_n hx hb dX0_beginsToken_20 rfl (lv_at hl 1 rfl) ?_
      refine lv_iload_n hx hb dX0_beginsToken_21 rfl (lv_at hl 2 rfl) ?_
      refine lv_iconst (v := 1) hx hb dX0_beginsToken_22 (by decide) ?_
      refine lv_isub hx hb dX0_beginsToken_23 ?_
      have hPc := hP.sub (ws' := [(a 24, .inr (6, [.ref (a 25), .int (nI nt)])), (a 25, .inl (cI, 200, .inl fb))]) [0, 1] rfl
      have hDc := hD.sub (ws' := [(a 24, .inr (6, [.ref (a 25), .int (nI nt)])), (a 25, .inl (cI, 200, .inl fb))]) [0, 1] (by decide) rfl
      have hKc := hK.sub (tys' := [(cI, .int)]) [0] rfl
      have hFc := zz_free0 hS hA
      refine va_calli (va_runVN (As := [.int ((nI ka) - 1)]) (rest := [.int r_2]) ⟨hx, hb, hml, hown, hw⟩ (k_at l dC dI a cI nt fb ((nI ka) - 1) H.size) ⟨va_cnB 1 hw (zz_good tw_353) rfl rfl rfl (hN.1 _ zz_n48) (hw _ tw_99) (by decide +kernel) ⟨Nat.le_of_ble_eq_true rfl, Nat.le_of_ble_eq_true rfl⟩, (hw _ tw_354), (hw _ tw_355)⟩ ⟨zz_blind, va_recv hKc hPc (ci := 6) (q0 := 0) rfl rfl, zz_pre hPc hKc hDc hN⟩ rfl rfl hl.1 rfl (lv_room (Nat.le_of_ble_eq_true rfl)) dX0_beginsToken_24 ⟨Nat.le_of_ble_eq_true rfl, Nat.le_of_ble_eq_true rfl⟩) hS (fun q _ h => hFc q h) hFc (fun r_9 u_9 t H1 locs ht hvm e_9 hB hz1 hk1 hS => ?_)
      try dsimp only at e_9
      have hP := zz_keep hP hk1
      clear hk1 hB ht hvm
      generalize H1 = H at hP hS ⊢
      have hPc := hP.sub (ws' := []) [] rfl
      have hDc := hD.sub (ws' := []) [] (by decide) rfl
      have hKc := hK.sub (tys' := []) [] rfl
      have hFc := zz_free0 hS hA
      refine va_calli (va_runS (As := [.int r_9]) (rest := [.int r_2]) ⟨hx, hb, hml, hown, hw⟩ (k_sortOf l dC dI r_9 H.size) ⟨callB_of 1 hw (zz_good tw_356) rfl rfl rfl (hw _ tw_357) (hw _ tw_358) (by decide +kernel) ⟨Nat.le_of_ble_eq_true rfl, Nat.le_of_ble_eq_true rfl⟩, (hw _ tw_359)⟩ ⟨zz_blind, zz_pre hPc hKc hDc hN⟩ rfl rfl hl.1 rfl (lv_room (Nat.le_of_ble_eq_true rfl)) dX0_beginsToken_27 ⟨Nat.le_of_ble_eq_true rfl, Nat.le_of_ble_eq_true rfl⟩) hS (fun q _ h => hFc q h) hFc (fun r_10 u_10 t H1 locs ht hvm e_10 hB hz1 hk1 hS => ?_)
      try dsimp only at e_10
      have hP := zz_keep hP hk1
      clear hk1 hB ht hvm
      generalize H1 = H at hP hS ⊢
      refine lv_icmp_eq (tgt := 37) hx hb dX0_beginsToken_30 (by decide) (fun c_11 => ?_) (fun c_11 => ?_)
      · have zc_11 := c_11
        rw [← Int32.toInt_inj] at zc_11
        refine lv_iconst (v := 0) hx hb dX0_beginsToken_37 (by decide) ?_
        exact W.zret (v := 0) hx hb hr (rfl) (fun t ht hW => ⟨⟨0, (), rfl, Or.inl rfl, trivial⟩, hS.F ht⟩) hS.2.2 dX0_beginsToken_38
      · have zc_11 := c_11
        rw [← Int32.toInt_inj] at zc_11
        refine lv_iconst (v := 1) hx hb dX0_beginsToken_33 (by decide) ?_
        refine lv_goto (tgt := 38) hx hb dX0_beginsToken_34 (by decide) ?_
        exact W.zret (v := 1) hx hb hr (rfl) (fun t ht hW => ⟨⟨1, (), rfl, Or.inr rfl, trivial⟩, hS.F ht⟩) hS.2.2 dX0_beginsToken_38

set_option maxHeartbeats 4000000 in
set_option maxRecDepth 100000 in
theorem k_numberAt (l : Launch) (dC : Nat → ClassId) (dI : Nat → Nat → Nat) (a : Nat → Nat) (cI : ClassId) (nt : Nat) (fb : Nat → Int32) (ka : Nat) (sz : Nat) (hnt : nt ≤ 200) (hka : ka < 200) : Met l yX0_numberAt (zz_w yX0_numberAt cX0_numberAt 4 (some .int)) ({ frames := 1, cells := 0, slots := 0, locals := 21 }) (va_Pc [.ref (a 24), .int (nI ka)] (zz_B (dC, dI) sz [(a 24, .inr (6, [.ref (a 25), .int (nI nt)])), (a 25, .inl (cI, 200, .inl fb))] [(cI, .int)])) (va_Qi (fun (_ : Int32) (_ : Unit) => True) (fun _ _ => True) (va_A [] sz)) 0 0 (va_A [] sz) := by
  refine Met.ofW (cc := cX0_numberAt) (maxL := 4) (ret := (some .int)) (by decide) rfl ?_
  intro p e s m args below meth c s₁ B hml hv
  obtain ⟨rfl, hsz, hP, hK, hD0, hN⟩ := hv
  have hx := B.exec
  have hb := B.bytes
  have hr := B.returns
  have hts := atoms_spec (ws := zz_w yX0_numberAt cX0_numberAt 4 (some .int)) B.pre
  have hw : ∀ w ∈ zz_all, w.before _ s = true := fun w h => hts w (List.mem_cons_of_mem _ h)
  have hown : s.vm.findClass RX0 = some m.cls := findClass_of_methodNamed B.named
  have hlocks := B.notSynchronized
  subst hsz
  have hD := hD0
  generalize hAe : va_A [] s.heap.size = A
  have hA : ∀ q : Nat, s.heap.size ≤ q → A q := fun q h => by rw [← hAe]; exact Or.inr h
  have hS : va_S A s.heap s.heap [] := va_S.rf
  have hP : va_P (dC, dI) vwCl [(a 24, .inr (6, [.ref (a 25), .int (nI nt)])), (a 25, .inl (cI, 200, .inl fb))] s.heap := hP
  have hl := lv_entry ([.ref (a 24), .int (nI ka)]) (n := 4) (Nat.le_of_ble_eq_true rfl)
  rw [lg_entry_eq]
  generalize (lg_sl ([.ref (a 24), .int (nI ka)]) ++ List.replicate (4 - (lg_sl ([.ref (a 24), .int (nI ka)])).length) Slot.unset).toArray = ls at hl ⊢
  have hl : lv_has ls 4 [(0, .ref (a 24)), (1, .int (nI ka))] := hl
  refine lv_iconst (v := 0) hx hb dX0_numberAt_0 (by decide) ?_
  refine lv_istore_n (lv' := [(2, .int 0), (0, .ref (a 24)), (1, .int (nI ka))]) hx hb dX0_numberAt_1 rfl hl (by decide) rfl (fun ls hl => ?_)
  refine lv_iload_n hx hb dX0_numberAt_2 rfl (lv_at hl 2 rfl) ?_
  refine lv_istore_n (lv' := [(3, .int (nI ka)), (2, .int 0), (0, .ref (a 24)), (1, .int (nI ka))]) hx hb dX0_numberAt_3 rfl hl (by decide) rfl (fun ls hl => ?_)
  refine zz_loopS (fun (u : (Nat) × (Int32)) => match u with | (i, y) => [(a 24, .inr (6, [.ref (a 25), .int (nI nt)])), (a 25, .inl (cI, 200, .inl fb))]) (fun (u : (Nat) × (Int32)) => match u with | (i, y) => [(0, .ref (a 24)), (1, .int (nI ka)), (2, .int y), (3, .int (nI i))]) (fun (u : (Nat) × (Int32)) => match u with | (i, y) => i ≤ 200) (fun (u : (Nat) × (Int32)) => match u with | (i, y) => 200 - i) (fun u hI H locs ls hP hD hS hl ih_4 => ?_) (ka, 0) (show ka ≤ 200 from by omega) _ _ _ (hP.sub [0, 1] rfl) (hD.sub [0, 1] (by decide) rfl) hS (lv_sub hl [2, 3, 1, 0] rfl)
  obtain ⟨i, y⟩ := u
  have hP : va_P (dC, dI) vwCl [(a 24, .inr (6, [.ref (a 25), .int (nI nt)])), (a 25, .inl (cI, 200, .inl fb))] H := hP
  have hD : va_D (fun _ => True) [(a 24, .inr (6, [.ref (a 25), .int (nI nt)])), (a 25, .inl (cI, 200, .inl fb))] := hD
  have hl : lv_has ls 4 [(0, .ref (a 24)), (1, .int (nI ka)), (2, .int y), (3, .int (nI i))] := hl
  have hI : i ≤ 200 := hI
  have ii := hI
  refine lv_iload_n hx hb dX0_numberAt_4 rfl (lv_at hl 3 rfl) ?_
  refine lv_aload_n hx hb dX0_numberAt_5 rfl (lv_at hl 0 rfl) ?_
  refine va_getN (D := (dC, dI)) (ci := 6) (v := .int (nI nt)) (C := RX6) (T := TX6) (N := 2) hx hb hw zz_inX6 hown hK hP 0 rfl rfl 1 (by decide) (hN.use zz_n22) (fun _ h9 => h9) rfl dX0_numberAt_6 ?_
  refine lv_icmp_ge (tgt := 50) hx hb dX0_numberAt_9 (by decide) (fun c_1 => ?_) (fun c_1 => ?_)
  · have zc_1 := c_1
    rw [Int32.le_iff_toInt_le] at zc_1
    try rw [zz_toInt i (by omega)] at zc_1
    try rw [zz_toInt nt (by omega)] at zc_1
    refine lv_iload_n hx hb dX0_numberAt_50 rfl (lv_at hl 2 rfl) ?_
    exact W.iret (v := y) hx hb hr (fun t ht hW => ⟨⟨y, (), rfl, trivial, trivial⟩, hS.F ht⟩) hS.2.2 dX0_numberAt_51
  · have zc_1 := c_1
    rw [Int32.le_iff_toInt_le] at zc_1
    try rw [zz_toInt i (by omega)] at zc_1
    try rw [zz_toInt nt (by omega)] at zc_1
    refine lv_aload_n hx hb dX0_numberAt_12 rfl (lv_at hl 0 rfl) ?_
    refine lv_iload_n hx hb dX0_numberAt_13 rfl (lv_at hl 3 rfl) ?_
    have hPc := hP.sub (ws' := [(a 24, .inr (6, [.ref (a 25), .int (nI nt)])), (a 25, .inl (cI, 200, .inl fb))]) [0, 1] rfl
    have hDc := hD.sub (ws' := [(a 24, .inr (6, [.ref (a 25), .int (nI nt)])), (a 25, .inl (cI, 200, .inl fb))]) [0, 1] (by decide) rfl
    have hKc := hK.sub (tys' := [(cI, .int)]) [0] rfl
    have hFc := zz_free0 hS hA
    refine va_calli (va_runVN (As := [.int (nI i)]) (rest := []) ⟨hx, hb, hml, hown, hw⟩ (k_at l dC dI a cI nt fb (nI i) H.size) ⟨va_cnB 1 hw (zz_good tw_353) rfl rfl rfl (hN.1 _ zz_n48) (hw _ tw_99) (by decide +kernel) ⟨Nat.le_of_ble_eq_true rfl, Nat.le_of_ble_eq_true rfl⟩, (hw _ tw_354), (hw _ tw_355)⟩ ⟨zz_blind, va_recv hKc hPc (ci := 6) (q0 := 0) rfl rfl, zz_pre hPc hKc hDc hN⟩ rfl rfl hl.1 rfl (lv_room (Nat.le_of_ble_eq_true rfl)) dX0_numberAt_14 ⟨Nat.le_of_ble_eq_true rfl, Nat.le_of_ble_eq_true rfl⟩) hS (fun q _ h => hFc q h) hFc (fun r_2 u_2 t H1 locs ht hvm e_2 hB hz1 hk1 hS => ?_)
    try dsimp only at e_2
    have hP := zz_keep hP hk1
    clear hk1 hB ht hvm
    generalize H1 = H at hP hS ⊢
    have hPc := hP.sub (ws' := []) [] rfl
    have hDc := hD.sub (ws' := []) [] (by decide) rfl
    have hKc := hK.sub (tys' := []) [] rfl
    have hFc := zz_free0 hS hA
    refine va_calli (va_runS (As := [.int r_2]) (rest := []) ⟨hx, hb, hml, hown, hw⟩ (k_sortOf l dC dI r_2 H.size) ⟨callB_of 1 hw (zz_good tw_356) rfl rfl rfl (hw _ tw_357) (hw _ tw_358) (by decide +kernel) ⟨Nat.le_of_ble_eq_true rfl, Nat.le_of_ble_eq_true rfl⟩, (hw _ tw_359)⟩ ⟨zz_blind, zz_pre hPc hKc hDc hN⟩ rfl rfl hl.1 rfl (lv_room (Nat.le_of_ble_eq_true rfl)) dX0_numberAt_17 ⟨Nat.le_of_ble_eq_true rfl, Nat.le_of_ble_eq_true rfl⟩) hS (fun q _ h => hFc q h) hFc (fun r_3 u_3 t H1 locs ht hvm e_3 hB hz1 hk1 hS => ?_)
    try dsimp only at e_3
    have hP := zz_keep hP hk1
    clear hk1 hB ht hvm
    generalize H1 = H at hP hS ⊢
    refine lv_iconst (v := 2) hx hb dX0_numberAt_20 (by decide) ?_
    refine lv_icmp_ne (tgt := 50) hx hb dX0_numberAt_21 (by decide) (fun c_4 => ?_) (fun c_4 => ?_)
    · have zc_4 := c_4
      rw [← Int32.toInt_inj] at zc_4
      try rw [show (2 : Int32).toInt = 2 from by decide] at zc_4
      refine lv_iload_n hx hb dX0_numberAt_50 rfl (lv_at hl 2 rfl) ?_
      exact W.iret (v := y) hx hb hr (fun t ht hW => ⟨⟨y, (), rfl, trivial, trivial⟩, hS.F ht⟩) hS.2.2 dX0_numberAt_51
    · have zc_4 := c_4
      rw [← Int32.toInt_inj] at zc_4
      try rw [show (2 : Int32).toInt = 2 from by decide] at zc_4
      refine lv_sipush (v := 1000) hx hb dX0_numberAt_24 (by decide) ?_
      refine lv_iload_n hx hb dX0_numberAt_27 rfl (lv_at hl 2 rfl) ?_
      refine lv_bipush (v := 10) hx hb dX0_numberAt_28 (by decide) ?_
      refine lv_imul hx hb dX0_numberAt_30 ?_
      refine lv_aload_n hx hb dX0_numberAt_31 rfl (lv_at hl 0 rfl) ?_
      refine lv_iload_n hx hb dX0_numberAt_32 rfl (lv_at hl 3 rfl) ?_
      have hPc := hP.sub (ws' := [(a 24, .inr (6, [.ref (a 25), .int (nI nt)])), (a 25, .inl (cI, 200, .inl fb))]) [0, 1] rfl
      have hDc := hD.sub (ws' := [(a 24, .inr (6, [.ref (a 25), .int (nI nt)])), (a 25, .inl (cI, 200, .inl fb))]) [0, 1] (by decide) rfl
      have hKc := hK.sub (tys' := [(cI, .int)]) [0] rfl
      have hFc := zz_free0 hS hA
      refine va_calli (va_runVN (As := [.int (nI i)]) (rest := [.int (y * 10), .int 1000]) ⟨hx, hb, hml, hown, hw⟩ (k_at l dC dI a cI nt fb (nI i) H.size) ⟨va_cnB 1 hw (zz_good tw_353) rfl rfl rfl (hN.1 _ zz_n48) (hw _ tw_99) (by decide +kernel) ⟨Nat.le_of_ble_eq_true rfl, Nat.le_of_ble_eq_true rfl⟩, (hw _ tw_354), (hw _ tw_355)⟩ ⟨zz_blind, va_recv hKc hPc (ci := 6) (q0 := 0) rfl rfl, zz_pre hPc hKc hDc hN⟩ rfl rfl hl.1 rfl (lv_room (Nat.le_of_ble_eq_true rfl)) dX0_numberAt_33 ⟨Nat.le_of_ble_eq_true rfl, Nat.le_of_ble_eq_true rfl⟩) hS (fun q _ h => hFc q h) hFc (fun r_5 u_5 t H1 locs ht hvm e_5 hB hz1 hk1 hS => ?_)
      try dsimp only at e_5
      have hP := zz_keep hP hk1
      clear hk1 hB ht hvm
      generalize H1 = H at hP hS ⊢
      refine lv_iadd hx hb dX0_numberAt_36 ?_
      refine lv_bipush (v := 48) hx hb dX0_numberAt_37 (by decide) ?_
      refine lv_isub hx hb dX0_numberAt_39 ?_
      refine va_mmin hx hb (by rw [hml]; exact hl.1.symm) hown (hw _ tw_360) (hw _ tw_27) (hw _ tw_28) (hw _ tw_29) (Nat.le_of_ble_eq_true rfl) (Nat.le_of_ble_eq_true rfl) (Nat.le_of_ble_eq_true rfl) (Nat.le_of_ble_eq_true rfl) dX0_numberAt_40 ?_
      refine lv_istore_n (lv' := [(2, .int (if (((y * 10) + r_5) - 48) < 1000 then (((y * 10) + r_5) - 48) else 1000)), (0, .ref (a 24)), (1, .int (nI ka)), (3, .int (nI i))]) hx hb dX0_numberAt_43 rfl hl (by decide) rfl (fun ls hl => ?_)
      refine lv_iinc (v := (nI (i + 1))) (lv' := [(3, .int (nI (i + 1))), (2, .int (if (((y * 10) + r_5) - 48) < 1000 then (((y * 10) + r_5) - 48) else 1000)), (0, .ref (a 24)), (1, .int (nI ka))]) hx hb dX0_numberAt_44 hl (k := 3) rfl (nI_1 _) (by decide) rfl (fun ls hl => ?_)
      refine lv_goto (tgt := 4) hx hb dX0_numberAt_47 (by decide) ?_
      exact ih_4 ((i + 1), (if (((y * 10) + r_5) - 48) < 1000 then (((y * 10) + r_5) - 48) else 1000)) (show (i + 1) ≤ 200 from by omega) (show 200 - (i + 1) < 200 - i from by omega) _ _ _ (hP.sub [0, 1] rfl) (hD.sub [0, 1] (by decide) rfl) hS (lv_sub hl [2, 3, 1, 0] rfl)

set_option maxHeartbeats 4000000 in
set_option maxRecDepth 100000 in
theorem k_spelling (l : Launch) (dC : Nat → ClassId) (dI : Nat → Nat → Nat) (b0 : Nat) (b1 : Nat) (b2 : Nat) (adK : Nat → Nat) (adV : Nat → Nat) (wv : Nat) (sz : Nat) (hw7 : wv < 7) : Met l yX0_spelling (zz_w yX0_spelling cX0_spelling 1 (some (.object "java/lang/String"))) ({ frames := 0, cells := 0, slots := 0, locals := 0 }) (va_Pc [.int (nI wv)] (zz_BG (dC, dI) sz b0 b1 b2 adK adV [] [] [])) (va_Qq (fun (r : Option Nat) (_ : Unit) => r = some (adK wv)) (fun _ _ => True) (va_A [] sz)) 0 0 (va_A [] sz) := by
  refine Met.ofW (cc := cX0_spelling) (maxL := 1) (ret := (some (.object "java/lang/String"))) (by decide) rfl ?_
  intro p e s m args below meth c s₁ B hml hv
  obtain ⟨rfl, ⟨hsz, hP, hK, hD0, hN⟩, hU⟩ := hv
  have hx := B.exec
  have hb := B.bytes
  have hr := B.returns
  have hts := atoms_spec (ws := zz_w yX0_spelling cX0_spelling 1 (some (.object "java/lang/String"))) B.pre
  have hw : ∀ w ∈ zz_all, w.before _ s = true := fun w h => hts w (List.mem_cons_of_mem _ h)
  have hown : s.vm.findClass RX0 = some m.cls := findClass_of_methodNamed B.named
  have hlocks := B.notSynchronized
  subst hsz
  have hD := hD0
  generalize hAe : va_A [] s.heap.size = A at hU ⊢
  have hA : ∀ q : Nat, s.heap.size ≤ q → A q := fun q h => by rw [← hAe]; exact Or.inr h
  have hS : va_S A s.heap s.heap [] := va_S.rf
  have hP : va_P (dC, dI) vwCl [] s.heap := hP
  have hl := lv_entry ([.int (nI wv)]) (n := 1) (Nat.le_of_ble_eq_true rfl)
  rw [lg_entry_eq]
  generalize (lg_sl ([.int (nI wv)]) ++ List.replicate (1 - (lg_sl ([.int (nI wv)])).length) Slot.unset).toArray = ls at hl ⊢
  have hl : lv_has ls 1 [(0, .int (nI wv))] := hl
  refine lv_iload_n hx hb dX0_spelling_0 rfl (lv_at hl 0 rfl) ?_
  by_cases c_1 : (nI wv) = 0
  · have zc_1 := c_1
    rw [← Int32.toInt_inj] at zc_1
    try rw [zz_toInt wv (by omega)] at zc_1
    try rw [show (0 : Int32).toInt = 0 from by decide] at zc_1
    refine lv_tableIn (tgt := 40) hx hb dX0_spelling_1 (by rw [c_1]; decide) (by rw [c_1]; decide) (by rw [c_1]; rfl) (by decide) ?_
    refine va_ldcS hx hb hown (hU.2.2.2.2.2.2.2.2 0 (by decide)) dX0_spelling_40 ?_
    exact W.aret (v := .ref (adK 0)) hx hb hr (Or.inl ⟨_, rfl⟩) (Or.inr ⟨_, rfl⟩) (fun t ht hW => ⟨⟨(some (adK 0)), (), rfl, (by show some (adK 0) = some (adK wv); rw [show wv = 0 from by omega]), trivial⟩, hS.F ht⟩) hS.2.2 dX0_spelling_42
  by_cases c_2 : (nI wv) = 1
  · have zc_2 := c_2
    rw [← Int32.toInt_inj] at zc_2
    try rw [zz_toInt wv (by omega)] at zc_2
    try rw [show (1 : Int32).toInt = 1 from by decide] at zc_2
    refine lv_tableIn (tgt := 43) hx hb dX0_spelling_1 (by rw [c_2]; decide) (by rw [c_2]; decide) (by rw [c_2]; rfl) (by decide) ?_
    refine va_ldcS hx hb hown (hU.2.2.2.2.2.2.2.2 1 (by decide)) dX0_spelling_43 ?_
    exact W.aret (v := .ref (adK 1)) hx hb hr (Or.inl ⟨_, rfl⟩) (Or.inr ⟨_, rfl⟩) (fun t ht hW => ⟨⟨(some (adK 1)), (), rfl, (by show some (adK 1) = some (adK wv); rw [show wv = 1 from by omega]), trivial⟩, hS.F ht⟩) hS.2.2 dX0_spelling_45
  by_cases c_3 : (nI wv) = 2
  · have zc_3 := c_3
    rw [← Int32.toInt_inj] at zc_3
    try rw [zz_toInt wv (by omega)] at zc_3
    try rw [show (2 : Int32).toInt = 2 from by decide] at zc_3
    refine lv_tableIn (tgt := 46) hx hb dX0_spelling_1 (by rw [c_3]; decide) (by rw [c_3]; decide) (by rw [c_3]; rfl) (by decide) ?_
    refine va_ldcS hx hb hown (hU.2.2.2.2.2.2.2.2 2 (by decide)) dX0_spelling_46 ?_
    exact W.aret (v := .ref (adK 2)) hx hb hr (Or.inl ⟨_, rfl⟩) (Or.inr ⟨_, rfl⟩) (fun t ht hW => ⟨⟨(some (adK 2)), (), rfl, (by show some (adK 2) = some (adK wv); rw [show wv = 2 from by omega]), trivial⟩, hS.F ht⟩) hS.2.2 dX0_spelling_48
  by_cases c_4 : (nI wv) = 3
  · have zc_4 := c_4
    rw [← Int32.toInt_inj] at zc_4
    try rw [zz_toInt wv (by omega)] at zc_4
    try rw [show (3 : Int32).toInt = 3 from by decide] at zc_4
    refine lv_tableIn (tgt := 49) hx hb dX0_spelling_1 (by rw [c_4]; decide) (by rw [c_4]; decide) (by rw [c_4]; rfl) (by decide) ?_
    refine va_ldcS hx hb hown (hU.2.2.2.2.2.2.2.2 3 (by decide)) dX0_spelling_49 ?_
    exact W.aret (v := .ref (adK 3)) hx hb hr (Or.inl ⟨_, rfl⟩) (Or.inr ⟨_, rfl⟩) (fun t ht hW => ⟨⟨(some (adK 3)), (), rfl, (by show some (adK 3) = some (adK wv); rw [show wv = 3 from by omega]), trivial⟩, hS.F ht⟩) hS.2.2 dX0_spelling_51
  by_cases c_5 : (nI wv) = 4
  · have zc_5 := c_5
    rw [← Int32.toInt_inj] at zc_5
    try rw [zz_toInt wv (by omega)] at zc_5
    try rw [show (4 : Int32).toInt = 4 from by decide] at zc_5
    refine lv_tableIn (tgt := 52) hx hb dX0_spelling_1 (by rw [c_5]; decide) (by rw [c_5]; decide) (by rw [c_5]; rfl) (by decide) ?_
    refine va_ldcS hx hb hown (hU.2.2.2.2.2.2.2.2 4 (by decide)) dX0_spelling_52 ?_
    exact W.aret (v := .ref (adK 4)) hx hb hr (Or.inl ⟨_, rfl⟩) (Or.inr ⟨_, rfl⟩) (fun t ht hW => ⟨⟨(some (adK 4)), (), rfl, (by show some (adK 4) = some (adK wv); rw [show wv = 4 from by omega]), trivial⟩, hS.F ht⟩) hS.2.2 dX0_spelling_54
  by_cases c_6 : (nI wv) = 5
  · have zc_6 := c_6
    rw [← Int32.toInt_inj] at zc_6
    try rw [zz_toInt wv (by omega)] at zc_6
    try rw [show (5 : Int32).toInt = 5 from by decide] at zc_6
    refine lv_tableIn (tgt := 55) hx hb dX0_spelling_1 (by rw [c_6]; decide) (by rw [c_6]; decide) (by rw [c_6]; rfl) (by decide) ?_
    refine va_ldcS hx hb hown (hU.2.2.2.2.2.2.2.2 5 (by decide)) dX0_spelling_55 ?_
    exact W.aret (v := .ref (adK 5)) hx hb hr (Or.inl ⟨_, rfl⟩) (Or.inr ⟨_, rfl⟩) (fun t ht hW => ⟨⟨(some (adK 5)), (), rfl, (by show some (adK 5) = some (adK wv); rw [show wv = 5 from by omega]), trivial⟩, hS.F ht⟩) hS.2.2 dX0_spelling_57
  refine lv_tableOut (tgt := 58) hx hb dX0_spelling_1 (by have := zz_ne c_1; rw [show (0 : Int32).toInt = 0 from by decide] at this; have := zz_ne c_2; rw [show (1 : Int32).toInt = 1 from by decide] at this; have := zz_ne c_3; rw [show (2 : Int32).toInt = 2 from by decide] at this; have := zz_ne c_4; rw [show (3 : Int32).toInt = 3 from by decide] at this; have := zz_ne c_5; rw [show (4 : Int32).toInt = 4 from by decide] at this; have := zz_ne c_6; rw [show (5 : Int32).toInt = 5 from by decide] at this; omega) (by decide) ?_
  have zc_1 := c_1
  rw [← Int32.toInt_inj] at zc_1
  try rw [zz_toInt wv (by omega)] at zc_1
  try rw [show (0 : Int32).toInt = 0 from by decide] at zc_1
  have zc_2 := c_2
  rw [← Int32.toInt_inj] at zc_2
  try rw [zz_toInt wv (by omega)] at zc_2
  try rw [show (1 : Int32).toInt = 1 from by decide] at zc_2
  have zc_3 := c_3
  rw [← Int32.toInt_inj] at zc_3
  try rw [zz_toInt wv (by omega)] at zc_3
  try rw [show (2 : Int32).toInt = 2 from by decide] at zc_3
  have zc_4 := c_4
  rw [← Int32.toInt_inj] at zc_4
  try rw [zz_toInt wv (by omega)] at zc_4
  try rw [show (3 : Int32).toInt = 3 from by decide] at zc_4
  have zc_5 := c_5
  rw [← Int32.toInt_inj] at zc_5
  try rw [zz_toInt wv (by omega)] at zc_5
  try rw [show (4 : Int32).toInt = 4 from by decide] at zc_5
  have zc_6 := c_6
  rw [← Int32.toInt_inj] at zc_6
  try rw [zz_toInt wv (by omega)] at zc_6
  try rw [show (5 : Int32).toInt = 5 from by decide] at zc_6
  refine va_ldcS hx hb hown (hU.2.2.2.2.2.2.2.2 6 (by decide)) dX0_spelling_58 ?_
  exact W.aret (v := .ref (adK 6)) hx hb hr (Or.inl ⟨_, rfl⟩) (Or.inr ⟨_, rfl⟩) (fun t ht hW => ⟨⟨(some (adK 6)), (), rfl, (by show some (adK 6) = some (adK wv); rw [show wv = 6 from by omega]), trivial⟩, hS.F ht⟩) hS.2.2 dX0_spelling_60

set_option maxHeartbeats 4000000 in
set_option maxRecDepth 100000 in
theorem k_standsAt (l : Launch) (dC : Nat → ClassId) (dI : Nat → Nat → Nat) (b0 : Nat) (b1 : Nat) (b2 : Nat) (adK : Nat → Nat) (adV : Nat → Nat) (i7 : Nat) (a : Nat → Nat) (cI : ClassId) (nt : Nat) (fb : Nat → Int32) (ka : Nat) (sz : Nat) (h7 : i7 < 7) : Met l yX0_standsAt (zz_w yX0_standsAt cX0_standsAt 5 (some .boolean)) ({ frames := 4, cells := 0, slots := 0, locals := 85 }) (va_Pc [.ref (adK i7), .ref (a 24), .int (nI ka)] (zz_BG (dC, dI) sz b0 b1 b2 adK adV [(a 24, .inr (6, [.ref (a 25), .int (nI nt)])), (a 25, .inl (cI, 200, .inl fb))] [(cI, .int)] [])) (va_Qi (fun (r : Int32) (_ : Unit) => r = 0 ∨ r = 1) (fun _ _ => True) (va_A [] sz)) 0 0 (va_A [] sz) := by
  refine Met.ofW (cc := cX0_standsAt) (maxL := 5) (ret := (some .boolean)) (by decide) rfl ?_
  intro p e s m args below meth c s₁ B hml hv
  obtain ⟨rfl, ⟨hsz, hP, hK, hD0, hN⟩, hU⟩ := hv
  have hx := B.exec
  have hb := B.bytes
  have hr := B.returns
  have hts := atoms_spec (ws := zz_w yX0_standsAt cX0_standsAt 5 (some .boolean)) B.pre
  have hw : ∀ w ∈ zz_all, w.before _ s = true := fun w h => hts w (List.mem_cons_of_mem _ h)
  have hown : s.vm.findClass RX0 = some m.cls := findClass_of_methodNamed B.named
  have hlocks := B.notSynchronized
  subst hsz
  have hD := hD0
  generalize hAe : va_A [] s.heap.size = A at hU ⊢
  have hA : ∀ q : Nat, s.heap.size ≤ q → A q := fun q h => by rw [← hAe]; exact Or.inr h
  have hS : va_S A s.heap s.heap [] := va_S.rf
  have hP : va_P (dC, dI) vwCl [(a 24, .inr (6, [.ref (a 25), .int (nI nt)])), (a 25, .inl (cI, 200, .inl fb))] s.heap := hP
  have hl := lv_entry ([.ref (adK i7), .ref (a 24), .int (nI ka)]) (n := 5) (Nat.le_of_ble_eq_true rfl)
  rw [lg_entry_eq]
  generalize (lg_sl ([.ref (adK i7), .ref (a 24), .int (nI ka)]) ++ List.replicate (5 - (lg_sl ([.ref (adK i7), .ref (a 24), .int (nI ka)])).length) Slot.unset).toArray = ls at hl ⊢
  have hl : lv_has ls 5 [(0, .ref (adK i7)), (1, .ref (a 24)), (2, .int (nI ka))] := hl
  have h5 := zz_len5 i7 h7
  refine lv_aload_n hx hb dX0_standsAt_0 rfl (lv_at hl 0 rfl) ?_
  have hPc := hP.sub (ws' := []) [] rfl
  have hDc := hD.sub (ws' := []) [] (by decide) rfl
  have hKc := hK.sub (tys' := []) [] rfl
  have hFc := zz_free0 hS hA
  refine va_calli (va_runV (As := []) (rest := []) ⟨hx, hb, hml, hown, hw⟩ (k_length l dC dI b0 b1 b2 adK adV i7 s.heap.size h7) ⟨callB_of 0 hw (zz_good tw_361) rfl rfl rfl (hw _ tw_333) (hw _ tw_362) (by decide +kernel) ⟨Nat.le_of_ble_eq_true rfl, Nat.le_of_ble_eq_true rfl⟩, (hw _ tw_363), (hw _ tw_364)⟩ ⟨zz_blindG, vk_recv hU.2.2.2.2.2.2.2.1 h7 hS, zz_preG hPc hKc hDc hN hU hS hFc⟩ rfl rfl hl.1 rfl (lv_room (Nat.le_of_ble_eq_true rfl)) dX0_standsAt_1 ⟨Nat.le_of_ble_eq_true rfl, Nat.le_of_ble_eq_true rfl⟩) hS (fun q _ h => hFc q h) hFc (fun r_1 u_1 t H1 locs ht hvm e_1 hB hz1 hk1 hS => ?_)
  try dsimp only at e_1
  have hP := zz_keep hP hk1
  clear hk1 hB ht hvm
  generalize H1 = H at hP hS ⊢
  refine zz_seti (nI (zz_len7.getD i7 0)) e_1 ?_
  refine lv_istore_n (lv' := [(3, .int (nI (zz_len7.getD i7 0))), (0, .ref (adK i7)), (1, .ref (a 24)), (2, .int (nI ka))]) hx hb dX0_standsAt_4 rfl hl (by decide) rfl (fun ls hl => ?_)
  refine lv_iconst (v := 0) hx hb dX0_standsAt_5 (by decide) ?_
  refine lv_istore (lv' := [(4, .int 0), (3, .int (nI (zz_len7.getD i7 0))), (0, .ref (adK i7)), (1, .ref (a 24)), (2, .int (nI ka))]) hx hb dX0_standsAt_6 hl (by decide) rfl (fun ls hl => ?_)
  refine zz_loopS (fun (i : (Nat)) => [(a 24, .inr (6, [.ref (a 25), .int (nI nt)])), (a 25, .inl (cI, 200, .inl fb))]) (fun (i : (Nat)) => [(0, .ref (adK i7)), (1, .ref (a 24)), (2, .int (nI ka)), (3, .int (nI (zz_len7.getD i7 0))), (4, .int (nI i))]) (fun (i : (Nat)) => i ≤ (zz_len7.getD i7 0)) (fun (i : (Nat)) => (zz_len7.getD i7 0) - i) (fun u hI H locs ls hP hD hS hl ih_8 => ?_) 0 (show 0 ≤ (zz_len7.getD i7 0) from by omega) _ _ _ (hP.sub [0, 1] rfl) (hD.sub [0, 1] (by decide) rfl) hS (lv_sub hl [2, 3, 4, 1, 0] rfl)
  obtain ⟨i, rfl⟩ : ∃ z, z = u := ⟨_, rfl⟩
  have hP : va_P (dC, dI) vwCl [(a 24, .inr (6, [.ref (a 25), .int (nI nt)])), (a 25, .inl (cI, 200, .inl fb))] H := hP
  have hD : va_D (fun _ => True) [(a 24, .inr (6, [.ref (a 25), .int (nI nt)])), (a 25, .inl (cI, 200, .inl fb))] := hD
  have hl : lv_has ls 5 [(0, .ref (adK i7)), (1, .ref (a 24)), (2, .int (nI ka)), (3, .int (nI (zz_len7.getD i7 0))), (4, .int (nI i))] := hl
  have hI : i ≤ (zz_len7.getD i7 0) := hI
  have ii := hI
  refine lv_iload hx hb dX0_standsAt_8 (lv_at hl 4 rfl) ?_
  refine lv_iload_n hx hb dX0_standsAt_10 rfl (lv_at hl 3 rfl) ?_
  refine lv_icmp_ge (tgt := 39) hx hb dX0_standsAt_11 (by decide) (fun c_2 => ?_) (fun c_2 => ?_)
  · have zc_2 := c_2
    rw [Int32.le_iff_toInt_le] at zc_2
    try rw [zz_toInt i (by omega)] at zc_2
    try rw [zz_toInt (zz_len7.getD i7 0) (by omega)] at zc_2
    refine lv_aload_n hx hb dX0_standsAt_39 rfl (lv_at hl 1 rfl) ?_
    refine lv_iload_n hx hb dX0_standsAt_40 rfl (lv_at hl 2 rfl) ?_
    refine lv_iload_n hx hb dX0_standsAt_41 rfl (lv_at hl 3 rfl) ?_
    refine lv_iadd hx hb dX0_standsAt_42 ?_
    have hPc := hP.sub (ws' := [(a 24, .inr (6, [.ref (a 25), .int (nI nt)])), (a 25, .inl (cI, 200, .inl fb))]) [0, 1] rfl
    have hDc := hD.sub (ws' := [(a 24, .inr (6, [.ref (a 25), .int (nI nt)])), (a 25, .inl (cI, 200, .inl fb))]) [0, 1] (by decide) rfl
    have hKc := hK.sub (tys' := [(cI, .int)]) [0] rfl
    have hFc := zz_free0 hS hA
    refine va_calli (va_runVN (As := [.int ((nI ka) + (nI (zz_len7.getD i7 0)))]) (rest := []) ⟨hx, hb, hml, hown, hw⟩ (k_at l dC dI a cI nt fb ((nI ka) + (nI (zz_len7.getD i7 0))) H.size) ⟨va_cnB 1 hw (zz_good tw_353) rfl rfl rfl (hN.1 _ zz_n48) (hw _ tw_99) (by decide +kernel) ⟨Nat.le_of_ble_eq_true rfl, Nat.le_of_ble_eq_true rfl⟩, (hw _ tw_354), (hw _ tw_355)⟩ ⟨zz_blind, va_recv hKc hPc (ci := 6) (q0 := 0) rfl rfl, zz_pre hPc hKc hDc hN⟩ rfl rfl hl.1 rfl (lv_room (Nat.le_of_ble_eq_true rfl)) dX0_standsAt_43 ⟨Nat.le_of_ble_eq_true rfl, Nat.le_of_ble_eq_true rfl⟩) hS (fun q _ h => hFc q h) hFc (fun r_3 u_3 t H1 locs ht hvm e_3 hB hz1 hk1 hS => ?_)
    try dsimp only at e_3
    have hP := zz_keep hP hk1
    clear hk1 hB ht hvm
    generalize H1 = H at hP hS ⊢
    have hPc := hP.sub (ws' := []) [] rfl
    have hDc := hD.sub (ws' := []) [] (by decide) rfl
    have hKc := hK.sub (tys' := []) [] rfl
    have hFc := zz_free0 hS hA
    refine va_calli (va_runS (As := [.int r_3]) (rest := []) ⟨hx, hb, hml, hown, hw⟩ (k_sortOf l dC dI r_3 H.size) ⟨callB_of 1 hw (zz_good tw_356) rfl rfl rfl (hw _ tw_357) (hw _ tw_358) (by decide +kernel) ⟨Nat.le_of_ble_eq_true rfl, Nat.le_of_ble_eq_true rfl⟩, (hw _ tw_359)⟩ ⟨zz_blind, zz_pre hPc hKc hDc hN⟩ rfl rfl hl.1 rfl (lv_room (Nat.le_of_ble_eq_true rfl)) dX0_standsAt_46 ⟨Nat.le_of_ble_eq_true rfl, Nat.le_of_ble_eq_true rfl⟩) hS (fun q _ h => hFc q h) hFc (fun r_4 u_4 t H1 locs ht hvm e_4 hB hz1 hk1 hS => ?_)
    try dsimp only at e_4
    have hP := zz_keep hP hk1
    clear hk1 hB ht hvm
    generalize H1 = H at hP hS ⊢
    refine lv_iconst (v := 1) hx hb dX0_standsAt_49 (by decide) ?_
    refine lv_icmp_eq (tgt := 57) hx hb dX0_standsAt_50 (by decide) (fun c_5 => ?_) (fun c_5 => ?_)
    · have zc_5 := c_5
      rw [← Int32.toInt_inj] at zc_5
      try rw [show (1 : Int32).toInt = 1 from by decide] at zc_5
      refine lv_iconst (v := 0) hx hb dX0_standsAt_57 (by decide) ?_
      exact W.zret (v := 0) hx hb hr (rfl) (fun t ht hW => ⟨⟨0, (), rfl, Or.inl rfl, trivial⟩, hS.F ht⟩) hS.2.2 dX0_standsAt_58
    · have zc_5 := c_5
      rw [← Int32.toInt_inj] at zc_5
      try rw [show (1 : Int32).toInt = 1 from by decide] at zc_5
      refine lv_iconst (v := 1) hx hb dX0_standsAt_53 (by decide) ?_
      refine lv_goto (tgt := 58) hx hb dX0_standsAt_54 (by decide) ?_
      exact W.zret (v := 1) hx hb hr (rfl) (fun t ht hW => ⟨⟨1, (), rfl, Or.inr rfl, trivial⟩, hS.F ht⟩) hS.2.2 dX0_standsAt_58
  · have zc_2 := c_2
    rw [Int32.le_iff_toInt_le] at zc_2
    try rw [zz_toInt i (by omega)] at zc_2
    try rw [zz_toInt (zz_len7.getD i7 0) (by omega)] at zc_2
    refine lv_aload_n hx hb dX0_standsAt_14 rfl (lv_at hl 1 rfl) ?_
    refine lv_iload_n hx hb dX0_standsAt_15 rfl (lv_at hl 2 rfl) ?_
    refine lv_iload hx hb dX0_standsAt_16 (lv_at hl 4 rfl) ?_
    refine lv_iadd hx hb dX0_standsAt_18 ?_
    have hPc := hP.sub (ws' := [(a 24, .inr (6, [.ref (a 25), .int (nI nt)])), (a 25, .inl (cI, 200, .inl fb))]) [0, 1] rfl
    have hDc := hD.sub (ws' := [(a 24, .inr (6, [.ref (a 25), .int (nI nt)])), (a 25, .inl (cI, 200, .inl fb))]) [0, 1] (by decide) rfl
    have hKc := hK.sub (tys' := [(cI, .int)]) [0] rfl
    have hFc := zz_free0 hS hA
    refine va_calli (va_runVN (As := [.int ((nI ka) + (nI i))]) (rest := []) ⟨hx, hb, hml, hown, hw⟩ (k_at l dC dI a cI nt fb ((nI ka) + (nI i)) H.size) ⟨va_cnB 1 hw (zz_good tw_353) rfl rfl rfl (hN.1 _ zz_n48) (hw _ tw_99) (by decide +kernel) ⟨Nat.le_of_ble_eq_true rfl, Nat.le_of_ble_eq_true rfl⟩, (hw _ tw_354), (hw _ tw_355)⟩ ⟨zz_blind, va_recv hKc hPc (ci := 6) (q0 := 0) rfl rfl, zz_pre hPc hKc hDc hN⟩ rfl rfl hl.1 rfl (lv_room (Nat.le_of_ble_eq_true rfl)) dX0_standsAt_19 ⟨Nat.le_of_ble_eq_true rfl, Nat.le_of_ble_eq_true rfl⟩) hS (fun q _ h => hFc q h) hFc (fun r_6 u_6 t H1 locs ht hvm e_6 hB hz1 hk1 hS => ?_)
    try dsimp only at e_6
    have hP := zz_keep hP hk1
    clear hk1 hB ht hvm
    generalize H1 = H at hP hS ⊢
    refine lv_aload_n hx hb dX0_standsAt_22 rfl (lv_at hl 0 rfl) ?_
    refine lv_iload hx hb dX0_standsAt_23 (lv_at hl 4 rfl) ?_
    have hPc := hP.sub (ws' := []) [] rfl
    have hDc := hD.sub (ws' := []) [] (by decide) rfl
    have hKc := hK.sub (tys' := []) [] rfl
    have hFc := zz_free0 hS hA
    refine va_calli (va_runV (As := [.int (nI i)]) (rest := [.int r_6]) ⟨hx, hb, hml, hown, hw⟩ (k_charAt l dC dI b0 b1 b2 adK adV i7 i H.size h7 (by omega) (by omega)) ⟨callB_of 1 hw (zz_good tw_365) rfl rfl rfl (hw _ tw_333) (hw _ tw_366) (by decide +kernel) ⟨Nat.le_of_ble_eq_true rfl, Nat.le_of_ble_eq_true rfl⟩, (hw _ tw_367), (hw _ tw_368)⟩ ⟨zz_blindG, vk_recv hU.2.2.2.2.2.2.2.1 h7 hS, zz_preG hPc hKc hDc hN hU hS hFc⟩ rfl rfl hl.1 rfl (lv_room (Nat.le_of_ble_eq_true rfl)) dX0_standsAt_25 ⟨Nat.le_of_ble_eq_true rfl, Nat.le_of_ble_eq_true rfl⟩) hS (fun q _ h => hFc q h) hFc (fun r_7 u_7 t H1 locs ht hvm e_7 hB hz1 hk1 hS => ?_)
    try dsimp only at e_7
    have hP := zz_keep hP hk1
    clear hk1 hB ht hvm
    generalize H1 = H at hP hS ⊢
    refine lv_icmp_eq (tgt := 33) hx hb dX0_standsAt_28 (by decide) (fun c_8 => ?_) (fun c_8 => ?_)
    · have zc_8 := c_8
      rw [← Int32.toInt_inj] at zc_8
      refine lv_iinc (v := (nI (i + 1))) (lv' := [(4, .int (nI (i + 1))), (0, .ref (adK i7)), (1, .ref (a 24)), (2, .int (nI ka)), (3, .int (nI (zz_len7.getD i7 0)))]) hx hb dX0_standsAt_33 hl (k := 4) rfl (nI_1 _) (by decide) rfl (fun ls hl => ?_)
      refine lv_goto (tgt := 8) hx hb dX0_standsAt_36 (by decide) ?_
      exact ih_8 (i + 1) (show (i + 1) ≤ (zz_len7.getD i7 0) from by omega) (show (zz_len7.getD i7 0) - (i + 1) < (zz_len7.getD i7 0) - i from by omega) _ _ _ (hP.sub [0, 1] rfl) (hD.sub [0, 1] (by decide) rfl) hS (lv_sub hl [1, 2, 3, 4, 0] rfl)
    · have zc_8 := c_8
      rw [← Int32.toInt_inj] at zc_8
      refine lv_iconst (v := 0) hx hb dX0_standsAt_31 (by decide) ?_
      exact W.zret (v := 0) hx hb hr (rfl) (fun t ht hW => ⟨⟨0, (), rfl, Or.inl rfl, trivial⟩, hS.F ht⟩) hS.2.2 dX0_standsAt_32

set_option maxHeartbeats 4000000 in
set_option maxRecDepth 100000 in
theorem k_wordAt (l : Launch) (dC : Nat → ClassId) (dI : Nat → Nat → Nat) (b0 : Nat) (b1 : Nat) (b2 : Nat) (adK : Nat → Nat) (adV : Nat → Nat) (a : Nat → Nat) (cI : ClassId) (nt : Nat) (fb : Nat → Int32) (ka : Nat) (sz : Nat) : Met l yX0_wordAt (zz_w yX0_wordAt cX0_wordAt 3 (some .int)) ({ frames := 5, cells := 0, slots := 0, locals := 109 }) (va_Pc [.ref (a 24), .int (nI ka)] (zz_BG (dC, dI) sz b0 b1 b2 adK adV [(a 24, .inr (6, [.ref (a 25), .int (nI nt)])), (a 25, .inl (cI, 200, .inl fb))] [(cI, .int)] [])) (va_Qi (fun (_ : Int32) (_ : Unit) => True) (fun _ _ => True) (va_A [] sz)) 0 0 (va_A [] sz) := by
  refine Met.ofW (cc := cX0_wordAt) (maxL := 3) (ret := (some .int)) (by decide) rfl ?_
  intro p e s m args below meth c s₁ B hml hv
  obtain ⟨rfl, ⟨hsz, hP, hK, hD0, hN⟩, hU⟩ := hv
  have hx := B.exec
  have hb := B.bytes
  have hr := B.returns
  have hts := atoms_spec (ws := zz_w yX0_wordAt cX0_wordAt 3 (some .int)) B.pre
  have hw : ∀ w ∈ zz_all, w.before _ s = true := fun w h => hts w (List.mem_cons_of_mem _ h)
  have hown : s.vm.findClass RX0 = some m.cls := findClass_of_methodNamed B.named
  have hlocks := B.notSynchronized
  subst hsz
  have hD := hD0
  generalize hAe : va_A [] s.heap.size = A at hU ⊢
  have hA : ∀ q : Nat, s.heap.size ≤ q → A q := fun q h => by rw [← hAe]; exact Or.inr h
  have hS : va_S A s.heap s.heap [] := va_S.rf
  have hP : va_P (dC, dI) vwCl [(a 24, .inr (6, [.ref (a 25), .int (nI nt)])), (a 25, .inl (cI, 200, .inl fb))] s.heap := hP
  have hl := lv_entry ([.ref (a 24), .int (nI ka)]) (n := 3) (Nat.le_of_ble_eq_true rfl)
  rw [lg_entry_eq]
  generalize (lg_sl ([.ref (a 24), .int (nI ka)]) ++ List.replicate (3 - (lg_sl ([.ref (a 24), .int (nI ka)])).length) Slot.unset).toArray = ls at hl ⊢
  have hl : lv_has ls 3 [(0, .ref (a 24)), (1, .int (nI ka))] := hl
  refine lv_iconst (v := 0) hx hb dX0_wordAt_0 (by decide) ?_
  refine lv_istore_n (lv' := [(2, .int 0), (0, .ref (a 24)), (1, .int (nI ka))]) hx hb dX0_wordAt_1 rfl hl (by decide) rfl (fun ls hl => ?_)
  refine zz_loopS (fun (i : (Nat)) => [(a 24, .inr (6, [.ref (a 25), .int (nI nt)])), (a 25, .inl (cI, 200, .inl fb))]) (fun (i : (Nat)) => [(0, .ref (a 24)), (1, .int (nI ka)), (2, .int (nI i))]) (fun (i : (Nat)) => i ≤ 7) (fun (i : (Nat)) => 7 - i) (fun u hI H locs ls hP hD hS hl ih_2 => ?_) 0 (show 0 ≤ 7 from by omega) _ _ _ (hP.sub [0, 1] rfl) (hD.sub [0, 1] (by decide) rfl) hS (lv_sub hl [1, 2, 0] rfl)
  obtain ⟨i, rfl⟩ : ∃ z, z = u := ⟨_, rfl⟩
  have hP : va_P (dC, dI) vwCl [(a 24, .inr (6, [.ref (a 25), .int (nI nt)])), (a 25, .inl (cI, 200, .inl fb))] H := hP
  have hD : va_D (fun _ => True) [(a 24, .inr (6, [.ref (a 25), .int (nI nt)])), (a 25, .inl (cI, 200, .inl fb))] := hD
  have hl : lv_has ls 3 [(0, .ref (a 24)), (1, .int (nI ka)), (2, .int (nI i))] := hl
  have hI : i ≤ 7 := hI
  have ii := hI
  refine lv_iload_n hx hb dX0_wordAt_2 rfl (lv_at hl 2 rfl) ?_
  refine lv_bipush (v := 7) hx hb dX0_wordAt_3 (by decide) ?_
  refine lv_icmp_ge (tgt := 28) hx hb dX0_wordAt_5 (by decide) (fun c_1 => ?_) (fun c_1 => ?_)
  · have zc_1 := c_1
    rw [Int32.le_iff_toInt_le] at zc_1
    try rw [zz_toInt i (by omega)] at zc_1
    try rw [show (7 : Int32).toInt = 7 from by decide] at zc_1
    refine lv_iconst (v := (-1)) hx hb dX0_wordAt_28 (by decide) ?_
    exact W.iret (v := (-1)) hx hb hr (fun t ht hW => ⟨⟨(-1), (), rfl, trivial, trivial⟩, hS.F ht⟩) hS.2.2 dX0_wordAt_29
  · have zc_1 := c_1
    rw [Int32.le_iff_toInt_le] at zc_1
    try rw [zz_toInt i (by omega)] at zc_1
    try rw [show (7 : Int32).toInt = 7 from by decide] at zc_1
    refine lv_iload_n hx hb dX0_wordAt_8 rfl (lv_at hl 2 rfl) ?_
    have hPc := hP.sub (ws' := []) [] rfl
    have hDc := hD.sub (ws' := []) [] (by decide) rfl
    have hKc := hK.sub (tys' := []) [] rfl
    have hFc := zz_free0 hS hA
    refine va_callq (va_runS (As := [.int (nI i)]) (rest := []) ⟨hx, hb, hml, hown, hw⟩ (k_spelling l dC dI b0 b1 b2 adK adV i H.size (by omega)) ⟨callB_of 1 hw (zz_good tw_369) rfl rfl rfl (hw _ tw_357) (hw _ tw_370) (by decide +kernel) ⟨Nat.le_of_ble_eq_true rfl, Nat.le_of_ble_eq_true rfl⟩, (hw _ tw_371)⟩ ⟨zz_blindG, zz_preG hPc hKc hDc hN hU hS hFc⟩ rfl rfl hl.1 rfl (lv_room (Nat.le_of_ble_eq_true rfl)) dX0_wordAt_9 ⟨Nat.le_of_ble_eq_true rfl, Nat.le_of_ble_eq_true rfl⟩) hS (fun q _ h => hFc q h) hFc (fun r_2 u_2 t H1 locs ht hvm e_2 hB hz1 hk1 hS => ?_)
    try dsimp only at e_2
    have hP := zz_keep hP hk1
    clear hk1 hB ht hvm
    generalize H1 = H at hP hS ⊢
    refine zz_setv (.ref (adK i)) (congrArg va_rf e_2) ?_
    refine lv_aload_n hx hb dX0_wordAt_12 rfl (lv_at hl 0 rfl) ?_
    refine lv_iload_n hx hb dX0_wordAt_13 rfl (lv_at hl 1 rfl) ?_
    have hPc := hP.sub (ws' := [(a 24, .inr (6, [.ref (a 25), .int (nI nt)])), (a 25, .inl (cI, 200, .inl fb))]) [0, 1] rfl
    have hDc := hD.sub (ws' := [(a 24, .inr (6, [.ref (a 25), .int (nI nt)])), (a 25, .inl (cI, 200, .inl fb))]) [0, 1] (by decide) rfl
    have hKc := hK.sub (tys' := [(cI, .int)]) [0] rfl
    have hFc := zz_free0 hS hA
    refine va_calli (va_runS (As := [.ref (adK i), .ref (a 24), .int (nI ka)]) (rest := []) ⟨hx, hb, hml, hown, hw⟩ (k_standsAt l dC dI b0 b1 b2 adK adV i a cI nt fb ka H.size (by omega)) ⟨callB_of 3 hw (zz_good tw_372) rfl rfl rfl (hw _ tw_357) (hw _ tw_373) (by decide +kernel) ⟨Nat.le_of_ble_eq_true rfl, Nat.le_of_ble_eq_true rfl⟩, (hw _ tw_374)⟩ ⟨zz_blindG, zz_preG hPc hKc hDc hN hU hS hFc⟩ rfl rfl hl.1 rfl (lv_room (Nat.le_of_ble_eq_true rfl)) dX0_wordAt_14 ⟨Nat.le_of_ble_eq_true rfl, Nat.le_of_ble_eq_true rfl⟩) hS (fun q _ h => hFc q h) hFc (fun r_3 u_3 t H1 locs ht hvm e_3 hB hz1 hk1 hS => ?_)
    try dsimp only at e_3
    have hP := zz_keep hP hk1
    clear hk1 hB ht hvm
    generalize H1 = H at hP hS ⊢
    refine lv_if_eq (tgt := 22) hx hb dX0_wordAt_17 (by decide) (fun c_4 => ?_) (fun c_4 => ?_)
    · have zc_4 := c_4
      rw [← Int32.toInt_inj] at zc_4
      try rw [show (0 : Int32).toInt = 0 from by decide] at zc_4
      refine lv_iinc (v := (nI (i + 1))) (lv' := [(2, .int (nI (i + 1))), (0, .ref (a 24)), (1, .int (nI ka))]) hx hb dX0_wordAt_22 hl (k := 2) rfl (nI_1 _) (by decide) rfl (fun ls hl => ?_)
      refine lv_goto (tgt := 2) hx hb dX0_wordAt_25 (by decide) ?_
      exact ih_2 (i + 1) (show (i + 1) ≤ 7 from by omega) (show 7 - (i + 1) < 7 - i from by omega) _ _ _ (hP.sub [0, 1] rfl) (hD.sub [0, 1] (by decide) rfl) hS (lv_sub hl [1, 2, 0] rfl)
    · have zc_4 := c_4
      rw [← Int32.toInt_inj] at zc_4
      try rw [show (0 : Int32).toInt = 0 from by decide] at zc_4
      refine lv_iload_n hx hb dX0_wordAt_20 rfl (lv_at hl 2 rfl) ?_
      exact W.iret (v := (nI i)) hx hb hr (fun t ht hW => ⟨⟨(nI i), (), rfl, trivial, trivial⟩, hS.F ht⟩) hS.2.2 dX0_wordAt_21

set_option maxHeartbeats 4000000 in
set_option maxRecDepth 100000 in
theorem k_takeWord (l : Launch) (dC : Nat → ClassId) (dI : Nat → Nat → Nat) (b0 : Nat) (b1 : Nat) (b2 : Nat) (adK : Nat → Nat) (adV : Nat → Nat) (a : Nat → Nat) (cI : ClassId) (nt : Nat) (fb : Nat → Int32) (cu0 : Int32) (cu1 : Int32) (cu2 : Int32) (cu3 : Int32) (cu4 : Int32) (cu5 : Int32) (ka : Nat) (sz : Nat) : Met l yX0_takeWord (zz_w yX0_takeWord cX0_takeWord 3 (some .int)) ({ frames := 6, cells := 0, slots := 0, locals := 131 }) (va_Pc [.ref (a 26), .ref (a 24), .int (nI ka)] (zz_BG (dC, dI) sz b0 b1 b2 adK adV [(a 26, .inr (0, [.ref (a 27), .ref (a 28), .int cu0, .int cu1, .int cu2, .int cu3, .int cu4, .int cu5])), (a 24, .inr (6, [.ref (a 25), .int (nI nt)])), (a 25, .inl (cI, 200, .inl fb))] [(cI, .int)] [(a 26, .inr (0, [.ref (a 27), .ref (a 28), .int cu0, .int cu1, .int cu2, .int cu3, .int cu4, .int cu5])), (a 24, .inr (6, [.ref (a 25), .int (nI nt)])), (a 25, .inl (cI, 200, .inl fb))])) (va_Qi (fun (_ : Int32) (_ : Int32 × Int32 × Int32 × Int32 × Int32 × Int32) => True) (fun (u : Int32 × Int32 × Int32 × Int32 × Int32 × Int32) (t : State) => match u with | (u0, u1, u2, u3, u4, u5) => va_P (dC, dI) vwCl [(a 26, .inr (0, [.ref (a 27), .ref (a 28), .int u0, .int u1, .int u2, .int u3, .int u4, .int u5])), (a 24, .inr (6, [.ref (a 25), .int (nI nt)])), (a 25, .inl (cI, 200, .inl fb))] t.heap ∧ va_K (dC, dI) vwCl [(cI, .int)] t ∧ va_D (va_A [(a 26, .inr (0, [.ref (a 27), .ref (a 28), .int cu0, .int cu1, .int cu2, .int cu3, .int cu4, .int cu5])), (a 24, .inr (6, [.ref (a 25), .int (nI nt)])), (a 25, .inl (cI, 200, .inl fb))] sz) [(a 26, .inr (0, [.ref (a 27), .ref (a 28), .int u0, .int u1, .int u2, .int u3, .int u4, .int u5])), (a 24, .inr (6, [.ref (a 25), .int (nI nt)])), (a 25, .inl (cI, 200, .inl fb))]) (va_A [(a 26, .inr (0, [.ref (a 27), .ref (a 28), .int cu0, .int cu1, .int cu2, .int cu3, .int cu4, .int cu5])), (a 24, .inr (6, [.ref (a 25), .int (nI nt)])), (a 25, .inl (cI, 200, .inl fb))] sz)) 0 0 (va_A [(a 26, .inr (0, [.ref (a 27), .ref (a 28), .int cu0, .int cu1, .int cu2, .int cu3, .int cu4, .int cu5])), (a 24, .inr (6, [.ref (a 25), .int (nI nt)])), (a 25, .inl (cI, 200, .inl fb))] sz) := by
  refine Met.ofW (cc := cX0_takeWord) (maxL := 3) (ret := (some .int)) (by decide) rfl ?_
  intro p e s m args below meth c s₁ B hml hv
  obtain ⟨rfl, ⟨hsz, hP, hK, hD0, hN⟩, hU⟩ := hv
  have hx := B.exec
  have hb := B.bytes
  have hr := B.returns
  have hts := atoms_spec (ws := zz_w yX0_takeWord cX0_takeWord 3 (some .int)) B.pre
  have hw : ∀ w ∈ zz_all, w.before _ s = true := fun w h => hts w (List.mem_cons_of_mem _ h)
  have hown : s.vm.findClass RX0 = some m.cls := findClass_of_methodNamed B.named
  have hlocks := B.notSynchronized
  subst hsz
  have hD := hD0.self (sz := s.heap.size)
  generalize hAe : va_A [(a 26, .inr (0, [.ref (a 27), .ref (a 28), .int cu0, .int cu1, .int cu2, .int cu3, .int cu4, .int cu5])), (a 24, .inr (6, [.ref (a 25), .int (nI nt)])), (a 25, .inl (cI, 200, .inl fb))] s.heap.size = A at hD hU ⊢
  have hA : ∀ q : Nat, s.heap.size ≤ q → A q := fun q h => by rw [← hAe]; exact Or.inr h
  have hS : va_S A s.heap s.heap [] := va_S.rf
  have hP : va_P (dC, dI) vwCl [(a 26, .inr (0, [.ref (a 27), .ref (a 28), .int cu0, .int cu1, .int cu2, .int cu3, .int cu4, .int cu5])), (a 24, .inr (6, [.ref (a 25), .int (nI nt)])), (a 25, .inl (cI, 200, .inl fb))] s.heap := hP
  have hl := lv_entry ([.ref (a 26), .ref (a 24), .int (nI ka)]) (n := 3) (Nat.le_of_ble_eq_true rfl)
  rw [lg_entry_eq]
  generalize (lg_sl ([.ref (a 26), .ref (a 24), .int (nI ka)]) ++ List.replicate (3 - (lg_sl ([.ref (a 26), .ref (a 24), .int (nI ka)])).length) Slot.unset).toArray = ls at hl ⊢
  have hl : lv_has ls 3 [(0, .ref (a 26)), (1, .ref (a 24)), (2, .int (nI ka))] := hl
  refine lv_aload_n hx hb dX0_takeWord_0 rfl (lv_at hl 0 rfl) ?_
  refine lv_aload_n hx hb dX0_takeWord_1 rfl (lv_at hl 1 rfl) ?_
  refine lv_iload_n hx hb dX0_takeWord_2 rfl (lv_at hl 2 rfl) ?_
  have hPc := hP.sub (ws' := [(a 24, .inr (6, [.ref (a 25), .int (nI nt)])), (a 25, .inl (cI, 200, .inl fb))]) [1, 2] rfl
  have hDc := hD.sub (ws' := [(a 24, .inr (6, [.ref (a 25), .int (nI nt)])), (a 25, .inl (cI, 200, .inl fb))]) [1, 2] (by decide) rfl
  have hKc := hK.sub (tys' := [(cI, .int)]) [0] rfl
  have hFc := zz_free0 hS hA
  refine va_calli (va_runS (As := [.ref (a 24), .int (nI ka)]) (rest := [.ref (a 26)]) ⟨hx, hb, hml, hown, hw⟩ (k_wordAt l dC dI b0 b1 b2 adK adV a cI nt fb ka s.heap.size) ⟨callB_of 2 hw (zz_good tw_375) rfl rfl rfl (hw _ tw_357) (hw _ tw_376) (by decide +kernel) ⟨Nat.le_of_ble_eq_true rfl, Nat.le_of_ble_eq_true rfl⟩, (hw _ tw_377)⟩ ⟨zz_blindG, zz_preG hPc hKc hDc hN hU hS hFc⟩ rfl rfl hl.1 rfl (lv_room (Nat.le_of_ble_eq_true rfl)) dX0_takeWord_3 ⟨Nat.le_of_ble_eq_true rfl, Nat.le_of_ble_eq_true rfl⟩) hS (fun q _ h => hFc q h) hFc (fun r_1 u_1 t H1 locs ht hvm e_1 hB hz1 hk1 hS => ?_)
  try dsimp only at e_1
  have hP := zz_keep hP hk1
  clear hk1 hB ht hvm
  generalize H1 = H at hP hS ⊢
  refine va_put (D := (dC, dI)) (ci := 0) (v := .int r_1) (ty := .int) (C := RX0) (T := TX0) (N := 8) hx hb hw zz_inX0 tyX0 tyX0_ok nmX0 hown hK hP hD hS 0 rfl rfl 5 (by decide) (hw _ tw_378) (fun _ h9 => h9) rfl (by decide +kernel) rfl rfl (Nat.le_of_ble_eq_true rfl) dX0_takeWord_6 (fun H locs hP hD hS => ?_)
  have hP : va_P (dC, dI) vwCl [(a 26, .inr (0, [.ref (a 27), .ref (a 28), .int cu0, .int cu1, .int cu2, .int r_1, .int cu4, .int cu5])), (a 24, .inr (6, [.ref (a 25), .int (nI nt)])), (a 25, .inl (cI, 200, .inl fb))] H := hP
  have hD : va_D A [(a 26, .inr (0, [.ref (a 27), .ref (a 28), .int cu0, .int cu1, .int cu2, .int r_1, .int cu4, .int cu5])), (a 24, .inr (6, [.ref (a 25), .int (nI nt)])), (a 25, .inl (cI, 200, .inl fb))] := hD
  refine lv_aload_n hx hb dX0_takeWord_9 rfl (lv_at hl 0 rfl) ?_
  refine va_get (D := (dC, dI)) (ci := 0) (v := .int r_1) (C := RX0) (T := TX0) (N := 8) hx hb hw zz_inX0 hown hK hP 0 rfl rfl 5 (by decide) (hw _ tw_378) (fun _ h9 => h9) rfl dX0_takeWord_10 ?_
  refine lv_iconst (v := (-1)) hx hb dX0_takeWord_13 (by decide) ?_
  refine lv_icmp_ne (tgt := 19) hx hb dX0_takeWord_14 (by decide) (fun c_2 => ?_) (fun c_2 => ?_)
  · have zc_2 := c_2
    rw [← Int32.toInt_inj] at zc_2
    try rw [show ((-1) : Int32).toInt = (-1) from by decide] at zc_2
    refine lv_aload_n hx hb dX0_takeWord_19 rfl (lv_at hl 0 rfl) ?_
    refine va_get (D := (dC, dI)) (ci := 0) (v := .int cu4) (C := RX0) (T := TX0) (N := 8) hx hb hw zz_inX0 hown hK hP 0 rfl rfl 6 (by decide) (hw _ tw_379) (fun _ h9 => h9) rfl dX0_takeWord_20 ?_
    refine lv_iconst (v := 1) hx hb dX0_takeWord_23 (by decide) ?_
    refine lv_aload_n hx hb dX0_takeWord_24 rfl (lv_at hl 0 rfl) ?_
    refine va_get (D := (dC, dI)) (ci := 0) (v := .int r_1) (C := RX0) (T := TX0) (N := 8) hx hb hw zz_inX0 hown hK hP 0 rfl rfl 5 (by decide) (hw _ tw_378) (fun _ h9 => h9) rfl dX0_takeWord_25 ?_
    refine lv_ishl hx hb dX0_takeWord_28 ?_
    refine lv_iand hx hb dX0_takeWord_29 ?_
    refine lv_if_eq (tgt := 35) hx hb dX0_takeWord_30 (by decide) (fun c_3 => ?_) (fun c_3 => ?_)
    · have zc_3 := c_3
      rw [← Int32.toInt_inj] at zc_3
      try rw [show (0 : Int32).toInt = 0 from by decide] at zc_3
      refine lv_aload_n hx hb dX0_takeWord_35 rfl (lv_at hl 0 rfl) ?_
      refine lv_dup hx hb dX0_takeWord_36 rfl ?_
      refine va_get (D := (dC, dI)) (ci := 0) (v := .int cu4) (C := RX0) (T := TX0) (N := 8) hx hb hw zz_inX0 hown hK hP 0 rfl rfl 6 (by decide) (hw _ tw_379) (fun _ h9 => h9) rfl dX0_takeWord_37 ?_
      refine lv_iconst (v := 1) hx hb dX0_takeWord_40 (by decide) ?_
      refine lv_aload_n hx hb dX0_takeWord_41 rfl (lv_at hl 0 rfl) ?_
      refine va_get (D := (dC, dI)) (ci := 0) (v := .int r_1) (C := RX0) (T := TX0) (N := 8) hx hb hw zz_inX0 hown hK hP 0 rfl rfl 5 (by decide) (hw _ tw_378) (fun _ h9 => h9) rfl dX0_takeWord_42 ?_
      refine lv_ishl hx hb dX0_takeWord_45 ?_
      refine lv_ior hx hb dX0_takeWord_46 ?_
      refine va_put (D := (dC, dI)) (ci := 0) (v := .int (cu4 ||| (1 <<< (r_1 &&& 31)))) (ty := .int) (C := RX0) (T := TX0) (N := 8) hx hb hw zz_inX0 tyX0 tyX0_ok nmX0 hown hK hP hD hS 0 rfl rfl 6 (by decide) (hw _ tw_379) (fun _ h9 => h9) rfl (by decide +kernel) rfl rfl (Nat.le_of_ble_eq_true rfl) dX0_takeWord_47 (fun H locs hP hD hS => ?_)
      have hP : va_P (dC, dI) vwCl [(a 26, .inr (0, [.ref (a 27), .ref (a 28), .int cu0, .int cu1, .int cu2, .int r_1, .int (cu4 ||| (1 <<< (r_1 &&& 31))), .int cu5])), (a 24, .inr (6, [.ref (a 25), .int (nI nt)])), (a 25, .inl (cI, 200, .inl fb))] H := hP
      have hD : va_D A [(a 26, .inr (0, [.ref (a 27), .ref (a 28), .int cu0, .int cu1, .int cu2, .int r_1, .int (cu4 ||| (1 <<< (r_1 &&& 31))), .int cu5])), (a 24, .inr (6, [.ref (a 25), .int (nI nt)])), (a 25, .inl (cI, 200, .inl fb))] := hD
      refine lv_aload_n hx hb dX0_takeWord_50 rfl (lv_at hl 0 rfl) ?_
      refine lv_iconst (v := 2) hx hb dX0_takeWord_51 (by decide) ?_
      refine va_put (D := (dC, dI)) (ci := 0) (v := .int 2) (ty := .int) (C := RX0) (T := TX0) (N := 8) hx hb hw zz_inX0 tyX0 tyX0_ok nmX0 hown hK hP hD hS 0 rfl rfl 4 (by decide) (hw _ tw_380) (fun _ h9 => h9) rfl (by decide +kernel) rfl rfl (Nat.le_of_ble_eq_true rfl) dX0_takeWord_52 (fun H locs hP hD hS => ?_)
      have hP : va_P (dC, dI) vwCl [(a 26, .inr (0, [.ref (a 27), .ref (a 28), .int cu0, .int cu1, .int 2, .int r_1, .int (cu4 ||| (1 <<< (r_1 &&& 31))), .int cu5])), (a 24, .inr (6, [.ref (a 25), .int (nI nt)])), (a 25, .inl (cI, 200, .inl fb))] H := hP
      have hD : va_D A [(a 26, .inr (0, [.ref (a 27), .ref (a 28), .int cu0, .int cu1, .int 2, .int r_1, .int (cu4 ||| (1 <<< (r_1 &&& 31))), .int cu5])), (a 24, .inr (6, [.ref (a 25), .int (nI nt)])), (a 25, .inl (cI, 200, .inl fb))] := hD
      refine lv_iconst (v := 0) hx hb dX0_takeWord_55 (by decide) ?_
      have hP9 := hP.sub (ws' := [(a 26, .inr (0, [.ref (a 27), .ref (a 28), .int cu0, .int cu1, .int 2, .int r_1, .int (cu4 ||| (1 <<< (r_1 &&& 31))), .int cu5])), (a 24, .inr (6, [.ref (a 25), .int (nI nt)])), (a 25, .inl (cI, 200, .inl fb))]) [0, 1, 2] rfl
      have hD9 := hD.sub (ws' := [(a 26, .inr (0, [.ref (a 27), .ref (a 28), .int cu0, .int cu1, .int 2, .int r_1, .int (cu4 ||| (1 <<< (r_1 &&& 31))), .int cu5])), (a 24, .inr (6, [.ref (a 25), .int (nI nt)])), (a 25, .inl (cI, 200, .inl fb))]) [0, 1, 2] (by decide) rfl
      have hK9 := hK.sub (tys' := [(cI, .int)]) [0] rfl
      exact W.iret (v := 0) hx hb hr (fun t ht hW => ⟨⟨0, (cu0, cu1, 2, r_1, (cu4 ||| (1 <<< (r_1 &&& 31))), cu5), rfl, trivial, by rw [ht]; exact hP9, va_K.moved hW.alike hK9, hD9⟩, hS.F ht⟩) hS.2.2 dX0_takeWord_56
    · have zc_3 := c_3
      rw [← Int32.toInt_inj] at zc_3
      try rw [show (0 : Int32).toInt = 0 from by decide] at zc_3
      refine lv_iconst (v := 2) hx hb dX0_takeWord_33 (by decide) ?_
      have hP9 := hP.sub (ws' := [(a 26, .inr (0, [.ref (a 27), .ref (a 28), .int cu0, .int cu1, .int cu2, .int r_1, .int cu4, .int cu5])), (a 24, .inr (6, [.ref (a 25), .int (nI nt)])), (a 25, .inl (cI, 200, .inl fb))]) [0, 1, 2] rfl
      have hD9 := hD.sub (ws' := [(a 26, .inr (0, [.ref (a 27), .ref (a 28), .int cu0, .int cu1, .int cu2, .int r_1, .int cu4, .int cu5])), (a 24, .inr (6, [.ref (a 25), .int (nI nt)])), (a 25, .inl (cI, 200, .inl fb))]) [0, 1, 2] (by decide) rfl
      have hK9 := hK.sub (tys' := [(cI, .int)]) [0] rfl
      exact W.iret (v := 2) hx hb hr (fun t ht hW => ⟨⟨2, (cu0, cu1, cu2, r_1, cu4, cu5), rfl, trivial, by rw [ht]; exact hP9, va_K.moved hW.alike hK9, hD9⟩, hS.F ht⟩) hS.2.2 dX0_takeWord_34
  · have zc_2 := c_2
    rw [← Int32.toInt_inj] at zc_2
    try rw [show ((-1) : Int32).toInt = (-1) from by decide] at zc_2
    refine lv_iconst (v := 1) hx hb dX0_takeWord_17 (by decide) ?_
    have hP9 := hP.sub (ws' := [(a 26, .inr (0, [.ref (a 27), .ref (a 28), .int cu0, .int cu1, .int cu2, .int r_1, .int cu4, .int cu5])), (a 24, .inr (6, [.ref (a 25), .int (nI nt)])), (a 25, .inl (cI, 200, .inl fb))]) [0, 1, 2] rfl
    have hD9 := hD.sub (ws' := [(a 26, .inr (0, [.ref (a 27), .ref (a 28), .int cu0, .int cu1, .int cu2, .int r_1, .int cu4, .int cu5])), (a 24, .inr (6, [.ref (a 25), .int (nI nt)])), (a 25, .inl (cI, 200, .inl fb))]) [0, 1, 2] (by decide) rfl
    have hK9 := hK.sub (tys' := [(cI, .int)]) [0] rfl
    exact W.iret (v := 1) hx hb hr (fun t ht hW => ⟨⟨1, (cu0, cu1, cu2, r_1, cu4, cu5), rfl, trivial, by rw [ht]; exact hP9, va_K.moved hW.alike hK9, hD9⟩, hS.F ht⟩) hS.2.2 dX0_takeWord_18

set_option maxHeartbeats 4000000 in
set_option maxRecDepth 100000 in
theorem k_takeNumber (l : Launch) (dC : Nat → ClassId) (dI : Nat → Nat → Nat) (b0 : Nat) (b1 : Nat) (b2 : Nat) (adK : Nat → Nat) (adV : Nat → Nat) (a : Nat → Nat) (cI : ClassId) (nt : Nat) (fb : Nat → Int32) (cu0 : Int32) (cu1 : Int32) (cu2 : Int32) (cu3 : Int32) (cu4 : Int32) (cu5 : Int32) (fdr : Nat → Int32) (ka : Nat) (sz : Nat) (hnt : nt ≤ 200) (hka : ka < 200) : Met l yX0_takeNumber (zz_w yX0_takeNumber cX0_takeNumber 4 (some .int)) ({ frames := 2, cells := 0, slots := 0, locals := 44 }) (va_Pc [.ref (a 26), .ref (a 24), .int (nI ka)] (zz_BG (dC, dI) sz b0 b1 b2 adK adV [(a 26, .inr (0, [.ref (a 27), .ref (a 28), .int cu0, .int cu1, .int cu2, .int cu3, .int cu4, .int cu5])), (a 28, .inl (cI, 7, .inl fdr)), (a 24, .inr (6, [.ref (a 25), .int (nI nt)])), (a 25, .inl (cI, 200, .inl fb))] [(cI, .int)] [(a 26, .inr (0, [.ref (a 27), .ref (a 28), .int cu0, .int cu1, .int cu2, .int cu3, .int cu4, .int cu5])), (a 28, .inl (cI, 7, .inl fdr)), (a 24, .inr (6, [.ref (a 25), .int (nI nt)])), (a 25, .inl (cI, 200, .inl fb))])) (va_Qi (fun (_ : Int32) (_ : Int32 × Int32 × Int32 × Int32 × Int32 × Int32 × (Nat → Int32)) => True) (fun (u : Int32 × Int32 × Int32 × Int32 × Int32 × Int32 × (Nat → Int32)) (t : State) => match u with | (u0, u1, u2, u3, u4, u5, u6) => va_P (dC, dI) vwCl [(a 26, .inr (0, [.ref (a 27), .ref (a 28), .int u0, .int u1, .int u2, .int u3, .int u4, .int u5])), (a 28, .inl (cI, 7, .inl u6)), (a 24, .inr (6, [.ref (a 25), .int (nI nt)])), (a 25, .inl (cI, 200, .inl fb))] t.heap ∧ va_K (dC, dI) vwCl [(cI, .int)] t ∧ va_D (va_A [(a 26, .inr (0, [.ref (a 27), .ref (a 28), .int cu0, .int cu1, .int cu2, .int cu3, .int cu4, .int cu5])), (a 28, .inl (cI, 7, .inl fdr)), (a 24, .inr (6, [.ref (a 25), .int (nI nt)])), (a 25, .inl (cI, 200, .inl fb))] sz) [(a 26, .inr (0, [.ref (a 27), .ref (a 28), .int u0, .int u1, .int u2, .int u3, .int u4, .int u5])), (a 28, .inl (cI, 7, .inl u6)), (a 24, .inr (6, [.ref (a 25), .int (nI nt)])), (a 25, .inl (cI, 200, .inl fb))]) (va_A [(a 26, .inr (0, [.ref (a 27), .ref (a 28), .int cu0, .int cu1, .int cu2, .int cu3, .int cu4, .int cu5])), (a 28, .inl (cI, 7, .inl fdr)), (a 24, .inr (6, [.ref (a 25), .int (nI nt)])), (a 25, .inl (cI, 200, .inl fb))] sz)) 0 0 (va_A [(a 26, .inr (0, [.ref (a 27), .ref (a 28), .int cu0, .int cu1, .int cu2, .int cu3, .int cu4, .int cu5])), (a 28, .inl (cI, 7, .inl fdr)), (a 24, .inr (6, [.ref (a 25), .int (nI nt)])), (a 25, .inl (cI, 200, .inl fb))] sz) := by
  refine Met.ofW (cc := cX0_takeNumber) (maxL := 4) (ret := (some .int)) (by decide) rfl ?_
  intro p e s m args below meth c s₁ B hml hv
  obtain ⟨rfl, ⟨hsz, hP, hK, hD0, hN⟩, hU⟩ := hv
  have hx := B.exec
  have hb := B.bytes
  have hr := B.returns
  have hts := atoms_spec (ws := zz_w yX0_takeNumber cX0_takeNumber 4 (some .int)) B.pre
  have hw : ∀ w ∈ zz_all, w.before _ s = true := fun w h => hts w (List.mem_cons_of_mem _ h)
  have hown : s.vm.findClass RX0 = some m.cls := findClass_of_methodNamed B.named
  have hlocks := B.notSynchronized
  subst hsz
  have hD := hD0.self (sz := s.heap.size)
  generalize hAe : va_A [(a 26, .inr (0, [.ref (a 27), .ref (a 28), .int cu0, .int cu1, .int cu2, .int cu3, .int cu4, .int cu5])), (a 28, .inl (cI, 7, .inl fdr)), (a 24, .inr (6, [.ref (a 25), .int (nI nt)])), (a 25, .inl (cI, 200, .inl fb))] s.heap.size = A at hD hU ⊢
  have hA : ∀ q : Nat, s.heap.size ≤ q → A q := fun q h => by rw [← hAe]; exact Or.inr h
  have hS : va_S A s.heap s.heap [] := va_S.rf
  have hP : va_P (dC, dI) vwCl [(a 26, .inr (0, [.ref (a 27), .ref (a 28), .int cu0, .int cu1, .int cu2, .int cu3, .int cu4, .int cu5])), (a 28, .inl (cI, 7, .inl fdr)), (a 24, .inr (6, [.ref (a 25), .int (nI nt)])), (a 25, .inl (cI, 200, .inl fb))] s.heap := hP
  have hl := lv_entry ([.ref (a 26), .ref (a 24), .int (nI ka)]) (n := 4) (Nat.le_of_ble_eq_true rfl)
  rw [lg_entry_eq]
  generalize (lg_sl ([.ref (a 26), .ref (a 24), .int (nI ka)]) ++ List.replicate (4 - (lg_sl ([.ref (a 26), .ref (a 24), .int (nI ka)])).length) Slot.unset).toArray = ls at hl ⊢
  have hl : lv_has ls 4 [(0, .ref (a 26)), (1, .ref (a 24)), (2, .int (nI ka))] := hl
  refine lv_aload_n hx hb dX0_takeNumber_0 rfl (lv_at hl 1 rfl) ?_
  refine lv_iload_n hx hb dX0_takeNumber_1 rfl (lv_at hl 2 rfl) ?_
  have hPc := hP.sub (ws' := [(a 24, .inr (6, [.ref (a 25), .int (nI nt)])), (a 25, .inl (cI, 200, .inl fb))]) [2, 3] rfl
  have hDc := hD.sub (ws' := [(a 24, .inr (6, [.ref (a 25), .int (nI nt)])), (a 25, .inl (cI, 200, .inl fb))]) [2, 3] (by decide) rfl
  have hKc := hK.sub (tys' := [(cI, .int)]) [0] rfl
  have hFc := zz_free0 hS hA
  refine va_calli (va_runS (As := [.ref (a 24), .int (nI ka)]) (rest := []) ⟨hx, hb, hml, hown, hw⟩ (k_numberAt l dC dI a cI nt fb ka s.heap.size (by omega) (by omega)) ⟨callB_of 2 hw (zz_good tw_381) rfl rfl rfl (hw _ tw_357) (hw _ tw_382) (by decide +kernel) ⟨Nat.le_of_ble_eq_true rfl, Nat.le_of_ble_eq_true rfl⟩, (hw _ tw_383)⟩ ⟨zz_blind, zz_pre hPc hKc hDc hN⟩ rfl rfl hl.1 rfl (lv_room (Nat.le_of_ble_eq_true rfl)) dX0_takeNumber_2 ⟨Nat.le_of_ble_eq_true rfl, Nat.le_of_ble_eq_true rfl⟩) hS (fun q _ h => hFc q h) hFc (fun r_1 u_1 t H1 locs ht hvm e_1 hB hz1 hk1 hS => ?_)
  try dsimp only at e_1
  have hP := zz_keep hP hk1
  clear hk1 hB ht hvm
  generalize H1 = H at hP hS ⊢
  refine lv_istore_n (lv' := [(3, .int r_1), (0, .ref (a 26)), (1, .ref (a 24)), (2, .int (nI ka))]) hx hb dX0_takeNumber_5 rfl hl (by decide) rfl (fun ls hl => ?_)
  refine lv_aload_n hx hb dX0_takeNumber_6 rfl (lv_at hl 1 rfl) ?_
  refine va_get (D := (dC, dI)) (ci := 0) (v := .int cu3) (C := RX0) (T := TX0) (N := 8) hx hb hw zz_inX0 hown hK hP 0 rfl rfl 5 (by decide) (hw _ tw_378) (fun _ h9 => h9) rfl dX0_takeNumber_7 ?_
  refine lv_iconst (v := 0) hx hb dX0_takeNumber_10 (by decide) ?_
  refine lv_bipush (v := 6) hx hb dX0_takeNumber_11 (by decide) ?_
  have hPc := hP.sub (ws' := []) [] rfl
  have hDc := hD.sub (ws' := []) [] (by decide) rfl
  have hKc := hK.sub (tys' := []) [] rfl
  have hFc := zz_free0 hS hA
  refine va_calli (va_runSN (As := [.int cu3, .int 0, .int 6]) (rest := []) ⟨hx, hb, hml, hown, hw⟩ (k_within l dC dI cu3 0 6 H.size) ⟨va_cnB 3 hw (zz_good tw_1) rfl rfl rfl (hN.1 _ zz_n49) (hw _ tw_2) (by decide +kernel) ⟨Nat.le_of_ble_eq_true rfl, Nat.le_of_ble_eq_true rfl⟩, (hw _ tw_4), trivial⟩ ⟨zz_blind, zz_pre hPc hKc hDc hN⟩ rfl rfl hl.1 rfl (lv_room (Nat.le_of_ble_eq_true rfl)) dX0_takeNumber_13 ⟨Nat.le_of_ble_eq_true rfl, Nat.le_of_ble_eq_true rfl⟩) hS (fun q _ h => hFc q h) hFc (fun r_2 u_2 t H1 locs ht hvm e_2 hB hz1 hk1 hS => ?_)
  try dsimp only at e_2
  have hP := zz_keep hP hk1
  clear hk1 hB ht hvm
  generalize H1 = H at hP hS ⊢
  refine lv_if_eq (tgt := 42) hx hb dX0_takeNumber_16 (by decide) (fun c_3 => ?_) (fun c_3 => ?_)
  · have zc_3 := c_3
    rw [e_2, zz_in0, Int32.le_iff_toInt_le, Int32.le_iff_toInt_le] at zc_3
    try rw [show (0 : Int32).toInt = 0 from by decide] at zc_3
    try rw [show (6 : Int32).toInt = 6 from by decide] at zc_3
    refine lv_iconst (v := 3) hx hb dX0_takeNumber_42 (by decide) ?_
    have hP9 := hP.sub (ws' := [(a 26, .inr (0, [.ref (a 27), .ref (a 28), .int cu0, .int cu1, .int cu2, .int cu3, .int cu4, .int cu5])), (a 28, .inl (cI, 7, .inl fdr)), (a 24, .inr (6, [.ref (a 25), .int (nI nt)])), (a 25, .inl (cI, 200, .inl fb))]) [0, 1, 2, 3] rfl
    have hD9 := hD.sub (ws' := [(a 26, .inr (0, [.ref (a 27), .ref (a 28), .int cu0, .int cu1, .int cu2, .int cu3, .int cu4, .int cu5])), (a 28, .inl (cI, 7, .inl fdr)), (a 24, .inr (6, [.ref (a 25), .int (nI nt)])), (a 25, .inl (cI, 200, .inl fb))]) [0, 1, 2, 3] (by decide) rfl
    have hK9 := hK.sub (tys' := [(cI, .int)]) [0] rfl
    exact W.iret (v := 3) hx hb hr (fun t ht hW => ⟨⟨3, (cu0, cu1, cu2, cu3, cu4, cu5, fdr), rfl, trivial, by rw [ht]; exact hP9, va_K.moved hW.alike hK9, hD9⟩, hS.F ht⟩) hS.2.2 dX0_takeNumber_43
  · have zc_3 := c_3
    rw [e_2, zz_in0, Int32.le_iff_toInt_le, Int32.le_iff_toInt_le] at zc_3
    try rw [show (0 : Int32).toInt = 0 from by decide] at zc_3
    try rw [show (6 : Int32).toInt = 6 from by decide] at zc_3
    refine lv_iload_n hx hb dX0_takeNumber_19 rfl (lv_at hl 0 rfl) ?_
    refine va_getsN hx hb hU.2.1 hS hown (hN.use zz_n50) (fun _ h9 => h9) dX0_takeNumber_20 ?_
    refine lv_aload_n hx hb dX0_takeNumber_23 rfl (lv_at hl 1 rfl) ?_
    refine va_get (D := (dC, dI)) (ci := 0) (v := .int cu3) (C := RX0) (T := TX0) (N := 8) hx hb hw zz_inX0 hown hK hP 0 rfl rfl 5 (by decide) (hw _ tw_378) (fun _ h9 => h9) rfl dX0_takeNumber_24 ?_
    refine va_ti (v := .int (zz_lo7 (Int32.toNatClampNeg cu3))) hx hb hU.2.2.1 hS (vp_in_iff.mpr (by constructor <;> omega)) rfl dX0_takeNumber_27 ?_
    refine va_getsN hx hb hU.2.2.2.1 hS hown (hN.use zz_n51) (fun _ h9 => h9) dX0_takeNumber_28 ?_
    refine lv_aload_n hx hb dX0_takeNumber_31 rfl (lv_at hl 1 rfl) ?_
    refine va_get (D := (dC, dI)) (ci := 0) (v := .int cu3) (C := RX0) (T := TX0) (N := 8) hx hb hw zz_inX0 hown hK hP 0 rfl rfl 5 (by decide) (hw _ tw_378) (fun _ h9 => h9) rfl dX0_takeNumber_32 ?_
    refine va_ti (v := .int (zz_hi7 (Int32.toNatClampNeg cu3))) hx hb hU.2.2.2.2.1 hS (vp_in_iff.mpr (by constructor <;> omega)) rfl dX0_takeNumber_35 ?_
    have hPc := hP.sub (ws' := []) [] rfl
    have hDc := hD.sub (ws' := []) [] (by decide) rfl
    have hKc := hK.sub (tys' := []) [] rfl
    have hFc := zz_free0 hS hA
    refine va_calli (va_runSN (As := [.int r_1, .int (zz_lo7 (Int32.toNatClampNeg cu3)), .int (zz_hi7 (Int32.toNatClampNeg cu3))]) (rest := []) ⟨hx, hb, hml, hown, hw⟩ (k_within l dC dI r_1 (zz_lo7 (Int32.toNatClampNeg cu3)) (zz_hi7 (Int32.toNatClampNeg cu3)) H.size) ⟨va_cnB 3 hw (zz_good tw_1) rfl rfl rfl (hN.1 _ zz_n49) (hw _ tw_2) (by decide +kernel) ⟨Nat.le_of_ble_eq_true rfl, Nat.le_of_ble_eq_true rfl⟩, (hw _ tw_4), trivial⟩ ⟨zz_blind, zz_pre hPc hKc hDc hN⟩ rfl rfl hl.1 rfl (lv_room (Nat.le_of_ble_eq_true rfl)) dX0_takeNumber_36 ⟨Nat.le_of_ble_eq_true rfl, Nat.le_of_ble_eq_true rfl⟩) hS (fun q _ h => hFc q h) hFc (fun r_4 u_4 t H1 locs ht hvm e_4 hB hz1 hk1 hS => ?_)
    try dsimp only at e_4
    have hP := zz_keep hP hk1
    clear hk1 hB ht hvm
    generalize H1 = H at hP hS ⊢
    refine lv_if_ne (tgt := 44) hx hb dX0_takeNumber_39 (by decide) (fun c_5 => ?_) (fun c_5 => ?_)
    · have zc_5 := c_5
      rw [e_4, zz_in0, Int32.le_iff_toInt_le, Int32.le_iff_toInt_le] at zc_5
      refine lv_aload_n hx hb dX0_takeNumber_44 rfl (lv_at hl 1 rfl) ?_
      refine va_get (D := (dC, dI)) (ci := 0) (v := .ref (a 28)) (C := RX0) (T := TX0) (N := 8) hx hb hw zz_inX0 hown hK hP 0 rfl rfl 1 (by decide) (hw _ tw_384) (fun _ h9 => h9) rfl dX0_takeNumber_45 ?_
      refine lv_aload_n hx hb dX0_takeNumber_48 rfl (lv_at hl 1 rfl) ?_
      refine va_get (D := (dC, dI)) (ci := 0) (v := .int cu3) (C := RX0) (T := TX0) (N := 8) hx hb hw zz_inX0 hown hK hP 0 rfl rfl 5 (by decide) (hw _ tw_378) (fun _ h9 => h9) rfl dX0_takeNumber_49 ?_
      refine lv_iload_n hx hb dX0_takeNumber_52 rfl (lv_at hl 0 rfl) ?_
      refine va_iast hx hb hK hP hD hS 1 0 rfl rfl (vp_in_iff.mpr (by constructor <;> omega)) dX0_takeNumber_53 (fun H locs hP hD hS => ?_)
      have hP : va_P (dC, dI) vwCl [(a 26, .inr (0, [.ref (a 27), .ref (a 28), .int cu0, .int cu1, .int cu2, .int cu3, .int cu4, .int cu5])), (a 28, .inl (cI, 7, .inl (upd fdr (Int32.toNatClampNeg cu3) r_1))), (a 24, .inr (6, [.ref (a 25), .int (nI nt)])), (a 25, .inl (cI, 200, .inl fb))] H := hP
      have hD : va_D A [(a 26, .inr (0, [.ref (a 27), .ref (a 28), .int cu0, .int cu1, .int cu2, .int cu3, .int cu4, .int cu5])), (a 28, .inl (cI, 7, .inl (upd fdr (Int32.toNatClampNeg cu3) r_1))), (a 24, .inr (6, [.ref (a 25), .int (nI nt)])), (a 25, .inl (cI, 200, .inl fb))] := hD
      refine lv_aload_n hx hb dX0_takeNumber_54 rfl (lv_at hl 1 rfl) ?_
      refine lv_iconst (v := 3) hx hb dX0_takeNumber_55 (by decide) ?_
      refine va_put (D := (dC, dI)) (ci := 0) (v := .int 3) (ty := .int) (C := RX0) (T := TX0) (N := 8) hx hb hw zz_inX0 tyX0 tyX0_ok nmX0 hown hK hP hD hS 0 rfl rfl 4 (by decide) (hw _ tw_380) (fun _ h9 => h9) rfl (by decide +kernel) rfl rfl (Nat.le_of_ble_eq_true rfl) dX0_takeNumber_56 (fun H locs hP hD hS => ?_)
      have hP : va_P (dC, dI) vwCl [(a 26, .inr (0, [.ref (a 27), .ref (a 28), .int cu0, .int cu1, .int 3, .int cu3, .int cu4, .int cu5])), (a 28, .inl (cI, 7, .inl (upd fdr (Int32.toNatClampNeg cu3) r_1))), (a 24, .inr (6, [.ref (a 25), .int (nI nt)])), (a 25, .inl (cI, 200, .inl fb))] H := hP
      have hD : va_D A [(a 26, .inr (0, [.ref (a 27), .ref (a 28), .int cu0, .int cu1, .int 3, .int cu3, .int cu4, .int cu5])), (a 28, .inl (cI, 7, .inl (upd fdr (Int32.toNatClampNeg cu3) r_1))), (a 24, .inr (6, [.ref (a 25), .int (nI nt)])), (a 25, .inl (cI, 200, .inl fb))] := hD
      refine lv_iconst (v := 0) hx hb dX0_takeNumber_59 (by decide) ?_
      have hP9 := hP.sub (ws' := [(a 26, .inr (0, [.ref (a 27), .ref (a 28), .int cu0, .int cu1, .int 3, .int cu3, .int cu4, .int cu5])), (a 28, .inl (cI, 7, .inl (upd fdr (Int32.toNatClampNeg cu3) r_1))), (a 24, .inr (6, [.ref (a 25), .int (nI nt)])), (a 25, .inl (cI, 200, .inl fb))]) [0, 1, 2, 3] rfl
      have hD9 := hD.sub (ws' := [(a 26, .inr (0, [.ref (a 27), .ref (a 28), .int cu0, .int cu1, .int 3, .int cu3, .int cu4, .int cu5])), (a 28, .inl (cI, 7, .inl (upd fdr (Int32.toNatClampNeg cu3) r_1))), (a 24, .inr (6, [.ref (a 25), .int (nI nt)])), (a 25, .inl (cI, 200, .inl fb))]) [0, 1, 2, 3] (by decide) rfl
      have hK9 := hK.sub (tys' := [(cI, .int)]) [0] rfl
      exact W.iret (v := 0) hx hb hr (fun t ht hW => ⟨⟨0, (cu0, cu1, 3, cu3, cu4, cu5, (upd fdr (Int32.toNatClampNeg cu3) r_1)), rfl, trivial, by rw [ht]; exact hP9, va_K.moved hW.alike hK9, hD9⟩, hS.F ht⟩) hS.2.2 dX0_takeNumber_60
    · have zc_5 := c_5
      rw [e_4, zz_in0, Int32.le_iff_toInt_le, Int32.le_iff_toInt_le] at zc_5
      refine lv_iconst (v := 3) hx hb dX0_takeNumber_42 (by decide) ?_
      have hP9 := hP.sub (ws' := [(a 26, .inr (0, [.ref (a 27), .ref (a 28), .int cu0, .int cu1, .int cu2, .int cu3, .int cu4, .int cu5])), (a 28, .inl (cI, 7, .inl fdr)), (a 24, .inr (6, [.ref (a 25), .int (nI nt)])), (a 25, .inl (cI, 200, .inl fb))]) [0, 1, 2, 3] rfl
      have hD9 := hD.sub (ws' := [(a 26, .inr (0, [.ref (a 27), .ref (a 28), .int cu0, .int cu1, .int cu2, .int cu3, .int cu4, .int cu5])), (a 28, .inl (cI, 7, .inl fdr)), (a 24, .inr (6, [.ref (a 25), .int (nI nt)])), (a 25, .inl (cI, 200, .inl fb))]) [0, 1, 2, 3] (by decide) rfl
      have hK9 := hK.sub (tys' := [(cI, .int)]) [0] rfl
      exact W.iret (v := 3) hx hb hr (fun t ht hW => ⟨⟨3, (cu0, cu1, cu2, cu3, cu4, cu5, fdr), rfl, trivial, by rw [ht]; exact hP9, va_K.moved hW.alike hK9, hD9⟩, hS.F ht⟩) hS.2.2 dX0_takeNumber_43

set_option maxHeartbeats 4000000 in
set_option maxRecDepth 100000 in
theorem k_takeToken (l : Launch) (dC : Nat → ClassId) (dI : Nat → Nat → Nat) (b0 : Nat) (b1 : Nat) (b2 : Nat) (adK : Nat → Nat) (adV : Nat → Nat) (a : Nat → Nat) (cI : ClassId) (nt : Nat) (fb : Nat → Int32) (cu0 : Int32) (cu1 : Int32) (cu2 : Int32) (cu3 : Int32) (cu4 : Int32) (cu5 : Int32) (fdr : Nat → Int32) (ka : Nat) (sz : Nat) (hnt : nt ≤ 200) (hka : ka < 200) : Met l yX0_takeToken (zz_w yX0_takeToken cX0_takeToken 3 (some .int)) ({ frames := 7, cells := 0, slots := 0, locals := 153 }) (va_Pc [.ref (a 26), .ref (a 24), .int (nI ka)] (zz_BG (dC, dI) sz b0 b1 b2 adK adV [(a 26, .inr (0, [.ref (a 27), .ref (a 28), .int cu0, .int cu1, .int cu2, .int cu3, .int cu4, .int cu5])), (a 28, .inl (cI, 7, .inl fdr)), (a 24, .inr (6, [.ref (a 25), .int (nI nt)])), (a 25, .inl (cI, 200, .inl fb))] [(cI, .int)] [(a 26, .inr (0, [.ref (a 27), .ref (a 28), .int cu0, .int cu1, .int cu2, .int cu3, .int cu4, .int cu5])), (a 28, .inl (cI, 7, .inl fdr)), (a 24, .inr (6, [.ref (a 25), .int (nI nt)])), (a 25, .inl (cI, 200, .inl fb))])) (va_Qi (fun (_ : Int32) (_ : Int32 × Int32 × Int32 × Int32 × Int32 × Int32 × (Nat → Int32)) => True) (fun (u : Int32 × Int32 × Int32 × Int32 × Int32 × Int32 × (Nat → Int32)) (t : State) => match u with | (u0, u1, u2, u3, u4, u5, u6) => va_P (dC, dI) vwCl [(a 26, .inr (0, [.ref (a 27), .ref (a 28), .int u0, .int u1, .int u2, .int u3, .int u4, .int u5])), (a 28, .inl (cI, 7, .inl u6)), (a 24, .inr (6, [.ref (a 25), .int (nI nt)])), (a 25, .inl (cI, 200, .inl fb))] t.heap ∧ va_K (dC, dI) vwCl [(cI, .int)] t ∧ va_D (va_A [(a 26, .inr (0, [.ref (a 27), .ref (a 28), .int cu0, .int cu1, .int cu2, .int cu3, .int cu4, .int cu5])), (a 28, .inl (cI, 7, .inl fdr)), (a 24, .inr (6, [.ref (a 25), .int (nI nt)])), (a 25, .inl (cI, 200, .inl fb))] sz) [(a 26, .inr (0, [.ref (a 27), .ref (a 28), .int u0, .int u1, .int u2, .int u3, .int u4, .int u5])), (a 28, .inl (cI, 7, .inl u6)), (a 24, .inr (6, [.ref (a 25), .int (nI nt)])), (a 25, .inl (cI, 200, .inl fb))]) (va_A [(a 26, .inr (0, [.ref (a 27), .ref (a 28), .int cu0, .int cu1, .int cu2, .int cu3, .int cu4, .int cu5])), (a 28, .inl (cI, 7, .inl fdr)), (a 24, .inr (6, [.ref (a 25), .int (nI nt)])), (a 25, .inl (cI, 200, .inl fb))] sz)) 0 0 (va_A [(a 26, .inr (0, [.ref (a 27), .ref (a 28), .int cu0, .int cu1, .int cu2, .int cu3, .int cu4, .int cu5])), (a 28, .inl (cI, 7, .inl fdr)), (a 24, .inr (6, [.ref (a 25), .int (nI nt)])), (a 25, .inl (cI, 200, .inl fb))] sz) := by
  refine Met.ofW (cc := cX0_takeToken) (maxL := 3) (ret := (some .int)) (by decide) rfl ?_
  intro p e s m args below meth c s₁ B hml hv
  obtain ⟨rfl, ⟨hsz, hP, hK, hD0, hN⟩, hU⟩ := hv
  have hx := B.exec
  have hb := B.bytes
  have hr := B.returns
  have hts := atoms_spec (ws := zz_w yX0_takeToken cX0_takeToken 3 (some .int)) B.pre
  have hw : ∀ w ∈ zz_all, w.before _ s = true := fun w h => hts w (List.mem_cons_of_mem _ h)
  have hown : s.vm.findClass RX0 = some m.cls := findClass_of_methodNamed B.named
  have hlocks := B.notSynchronized
  subst hsz
  have hD := hD0.self (sz := s.heap.size)
  generalize hAe : va_A [(a 26, .inr (0, [.ref (a 27), .ref (a 28), .int cu0, .int cu1, .int cu2, .int cu3, .int cu4, .int cu5])), (a 28, .inl (cI, 7, .inl fdr)), (a 24, .inr (6, [.ref (a 25), .int (nI nt)])), (a 25, .inl (cI, 200, .inl fb))] s.heap.size = A at hD hU ⊢
  have hA : ∀ q : Nat, s.heap.size ≤ q → A q := fun q h => by rw [← hAe]; exact Or.inr h
  have hS : va_S A s.heap s.heap [] := va_S.rf
  have hP : va_P (dC, dI) vwCl [(a 26, .inr (0, [.ref (a 27), .ref (a 28), .int cu0, .int cu1, .int cu2, .int cu3, .int cu4, .int cu5])), (a 28, .inl (cI, 7, .inl fdr)), (a 24, .inr (6, [.ref (a 25), .int (nI nt)])), (a 25, .inl (cI, 200, .inl fb))] s.heap := hP
  have hl := lv_entry ([.ref (a 26), .ref (a 24), .int (nI ka)]) (n := 3) (Nat.le_of_ble_eq_true rfl)
  rw [lg_entry_eq]
  generalize (lg_sl ([.ref (a 26), .ref (a 24), .int (nI ka)]) ++ List.replicate (3 - (lg_sl ([.ref (a 26), .ref (a 24), .int (nI ka)])).length) Slot.unset).toArray = ls at hl ⊢
  have hl : lv_has ls 3 [(0, .ref (a 26)), (1, .ref (a 24)), (2, .int (nI ka))] := hl
  refine lv_aload_n hx hb dX0_takeToken_0 rfl (lv_at hl 1 rfl) ?_
  refine lv_iload_n hx hb dX0_takeToken_1 rfl (lv_at hl 2 rfl) ?_
  have hPc := hP.sub (ws' := [(a 24, .inr (6, [.ref (a 25), .int (nI nt)])), (a 25, .inl (cI, 200, .inl fb))]) [2, 3] rfl
  have hDc := hD.sub (ws' := [(a 24, .inr (6, [.ref (a 25), .int (nI nt)])), (a 25, .inl (cI, 200, .inl fb))]) [2, 3] (by decide) rfl
  have hKc := hK.sub (tys' := [(cI, .int)]) [0] rfl
  have hFc := zz_free0 hS hA
  refine va_calli (va_runVN (As := [.int (nI ka)]) (rest := []) ⟨hx, hb, hml, hown, hw⟩ (k_at l dC dI a cI nt fb (nI ka) s.heap.size) ⟨va_cnB 1 hw (zz_good tw_353) rfl rfl rfl (hN.1 _ zz_n48) (hw _ tw_99) (by decide +kernel) ⟨Nat.le_of_ble_eq_true rfl, Nat.le_of_ble_eq_true rfl⟩, (hw _ tw_354), (hw _ tw_355)⟩ ⟨zz_blind, va_recv hKc hPc (ci := 6) (q0 := 0) rfl rfl, zz_pre hPc hKc hDc hN⟩ rfl rfl hl.1 rfl (lv_room (Nat.le_of_ble_eq_true rfl)) dX0_takeToken_2 ⟨Nat.le_of_ble_eq_true rfl, Nat.le_of_ble_eq_true rfl⟩) hS (fun q _ h => hFc q h) hFc (fun r_1 u_1 t H1 locs ht hvm e_1 hB hz1 hk1 hS => ?_)
  try dsimp only at e_1
  have hP := zz_keep hP hk1
  clear hk1 hB ht hvm
  generalize H1 = H at hP hS ⊢
  have hPc := hP.sub (ws' := []) [] rfl
  have hDc := hD.sub (ws' := []) [] (by decide) rfl
  have hKc := hK.sub (tys' := []) [] rfl
  have hFc := zz_free0 hS hA
  refine va_calli (va_runS (As := [.int r_1]) (rest := []) ⟨hx, hb, hml, hown, hw⟩ (k_sortOf l dC dI r_1 H.size) ⟨callB_of 1 hw (zz_good tw_356) rfl rfl rfl (hw _ tw_357) (hw _ tw_358) (by decide +kernel) ⟨Nat.le_of_ble_eq_true rfl, Nat.le_of_ble_eq_true rfl⟩, (hw _ tw_359)⟩ ⟨zz_blind, zz_pre hPc hKc hDc hN⟩ rfl rfl hl.1 rfl (lv_room (Nat.le_of_ble_eq_true rfl)) dX0_takeToken_5 ⟨Nat.le_of_ble_eq_true rfl, Nat.le_of_ble_eq_true rfl⟩) hS (fun q _ h => hFc q h) hFc (fun r_2 u_2 t H1 locs ht hvm e_2 hB hz1 hk1 hS => ?_)
  try dsimp only at e_2
  have hP := zz_keep hP hk1
  clear hk1 hB ht hvm
  generalize H1 = H at hP hS ⊢
  refine lv_aload_n hx hb dX0_takeToken_8 rfl (lv_at hl 0 rfl) ?_
  refine va_get (D := (dC, dI)) (ci := 0) (v := .int cu2) (C := RX0) (T := TX0) (N := 8) hx hb hw zz_inX0 hown hK hP 0 rfl rfl 4 (by decide) (hw _ tw_380) (fun _ h9 => h9) rfl dX0_takeToken_9 ?_
  refine lv_icmp_eq (tgt := 17) hx hb dX0_takeToken_12 (by decide) (fun c_3 => ?_) (fun c_3 => ?_)
  · have zc_3 := c_3
    rw [← Int32.toInt_inj] at zc_3
    refine lv_aload_n hx hb dX0_takeToken_17 rfl (lv_at hl 0 rfl) ?_
    refine va_get (D := (dC, dI)) (ci := 0) (v := .int cu2) (C := RX0) (T := TX0) (N := 8) hx hb hw zz_inX0 hown hK hP 0 rfl rfl 4 (by decide) (hw _ tw_380) (fun _ h9 => h9) rfl dX0_takeToken_18 ?_
    by_cases c_4 : cu2 = 1
    · have zc_4 := c_4
      rw [← Int32.toInt_inj] at zc_4
      try rw [show (1 : Int32).toInt = 1 from by decide] at zc_4
      refine lv_lookup (off := 27) (tgt := 48) hx hb dX0_takeToken_21 (by decide) (by rw [c_4]; decide) (by decide) ?_
      refine lv_aload_n hx hb dX0_takeToken_48 rfl (lv_at hl 0 rfl) ?_
      refine lv_aload_n hx hb dX0_takeToken_49 rfl (lv_at hl 1 rfl) ?_
      refine lv_iload_n hx hb dX0_takeToken_50 rfl (lv_at hl 2 rfl) ?_
      have hPc := hP.sub (ws' := [(a 26, .inr (0, [.ref (a 27), .ref (a 28), .int cu0, .int cu1, .int cu2, .int cu3, .int cu4, .int cu5])), (a 24, .inr (6, [.ref (a 25), .int (nI nt)])), (a 25, .inl (cI, 200, .inl fb))]) [0, 2, 3] rfl
      have hDc := hD.sub (ws' := [(a 26, .inr (0, [.ref (a 27), .ref (a 28), .int cu0, .int cu1, .int cu2, .int cu3, .int cu4, .int cu5])), (a 24, .inr (6, [.ref (a 25), .int (nI nt)])), (a 25, .inl (cI, 200, .inl fb))]) [0, 2, 3] (by decide) rfl
      have hKc := hK.sub (tys' := [(cI, .int)]) [0] rfl
      have hFc := va_free (wc := [(a 26, .inr (0, [.ref (a 27), .ref (a 28), .int cu0, .int cu1, .int cu2, .int cu3, .int cu4, .int cu5])), (a 24, .inr (6, [.ref (a 25), .int (nI nt)])), (a 25, .inl (cI, 200, .inl fb))]) hD hS hA [0, 2, 3] rfl
      refine va_calli (va_runV (As := [.ref (a 24), .int (nI ka)]) (rest := []) ⟨hx, hb, hml, hown, hw⟩ (k_takeWord l dC dI b0 b1 b2 adK adV a cI nt fb cu0 cu1 cu2 cu3 cu4 cu5 ka H.size) ⟨callB_of 2 hw (zz_good tw_385) rfl rfl rfl (hw _ tw_357) (hw _ tw_386) (by decide +kernel) ⟨Nat.le_of_ble_eq_true rfl, Nat.le_of_ble_eq_true rfl⟩, (hw _ tw_387), (hw _ tw_388)⟩ ⟨zz_blindG, va_recv hKc hPc (ci := 0) (q0 := 0) rfl rfl, zz_preG hPc hKc hDc hN hU hS hFc⟩ rfl rfl hl.1 rfl (lv_room (Nat.le_of_ble_eq_true rfl)) dX0_takeToken_51 ⟨Nat.le_of_ble_eq_true rfl, Nat.le_of_ble_eq_true rfl⟩) hS (fun q _ h => hFc q h) hFc (fun r_5 u_5 t H1 locs ht hvm e_5 hB hz1 hk1 hS => ?_)
      try dsimp only at e_5
      obtain ⟨v_5_0, v_5_1, v_5_2, v_5_3, v_5_4, v_5_5⟩ := u_5
      obtain ⟨hP1, hK1, hD1⟩ := hB
      rw [ht] at hP1
      have hK1 := va_K.moved hvm.symm hK1
      try dsimp only at e_5
      obtain ⟨hP, hD⟩ := va_join (wr := [(a 28, .inl (cI, 7, .inl fdr))]) (w1 := [(a 26, .inr (0, [.ref (a 27), .ref (a 28), .int v_5_0, .int v_5_1, .int v_5_2, .int v_5_3, .int v_5_4, .int v_5_5])), (a 24, .inr (6, [.ref (a 25), .int (nI nt)])), (a 25, .inl (cI, 200, .inl fb))]) hP hD [0, 2, 3] [1] rfl rfl (by decide) (by decide) hk1 hFc hP1 hD1
      clear hk1 ht hvm
      generalize H1 = H at hP hS ⊢
      have hP : va_P (dC, dI) vwCl [(a 28, .inl (cI, 7, .inl fdr)), (a 26, .inr (0, [.ref (a 27), .ref (a 28), .int v_5_0, .int v_5_1, .int v_5_2, .int v_5_3, .int v_5_4, .int v_5_5])), (a 24, .inr (6, [.ref (a 25), .int (nI nt)])), (a 25, .inl (cI, 200, .inl fb))] H := hP
      have hD : va_D A [(a 28, .inl (cI, 7, .inl fdr)), (a 26, .inr (0, [.ref (a 27), .ref (a 28), .int v_5_0, .int v_5_1, .int v_5_2, .int v_5_3, .int v_5_4, .int v_5_5])), (a 24, .inr (6, [.ref (a 25), .int (nI nt)])), (a 25, .inl (cI, 200, .inl fb))] := hD
      have hP9 := hP.sub (ws' := [(a 26, .inr (0, [.ref (a 27), .ref (a 28), .int v_5_0, .int v_5_1, .int v_5_2, .int v_5_3, .int v_5_4, .int v_5_5])), (a 28, .inl (cI, 7, .inl fdr)), (a 24, .inr (6, [.ref (a 25), .int (nI nt)])), (a 25, .inl (cI, 200, .inl fb))]) [1, 0, 2, 3] rfl
      have hD9 := hD.sub (ws' := [(a 26, .inr (0, [.ref (a 27), .ref (a 28), .int v_5_0, .int v_5_1, .int v_5_2, .int v_5_3, .int v_5_4, .int v_5_5])), (a 28, .inl (cI, 7, .inl fdr)), (a 24, .inr (6, [.ref (a 25), .int (nI nt)])), (a 25, .inl (cI, 200, .inl fb))]) [1, 0, 2, 3] (by decide) rfl
      have hK9 := hK.sub (tys' := [(cI, .int)]) [0] rfl
      exact W.iret (v := r_5) hx hb hr (fun t ht hW => ⟨⟨r_5, (v_5_0, v_5_1, v_5_2, v_5_3, v_5_4, v_5_5, fdr), rfl, trivial, by rw [ht]; exact hP9, va_K.moved hW.alike hK9, hD9⟩, hS.F ht⟩) hS.2.2 dX0_takeToken_54
    by_cases c_6 : cu2 = 2
    · have zc_6 := c_6
      rw [← Int32.toInt_inj] at zc_6
      try rw [show (2 : Int32).toInt = 2 from by decide] at zc_6
      refine lv_lookup (off := 34) (tgt := 55) hx hb dX0_takeToken_21 (by decide) (by rw [c_6]; decide) (by decide) ?_
      refine lv_aload_n hx hb dX0_takeToken_55 rfl (lv_at hl 0 rfl) ?_
      refine lv_aload_n hx hb dX0_takeToken_56 rfl (lv_at hl 1 rfl) ?_
      refine lv_iload_n hx hb dX0_takeToken_57 rfl (lv_at hl 2 rfl) ?_
      have hPc := hP.sub (ws' := [(a 26, .inr (0, [.ref (a 27), .ref (a 28), .int cu0, .int cu1, .int cu2, .int cu3, .int cu4, .int cu5])), (a 28, .inl (cI, 7, .inl fdr)), (a 24, .inr (6, [.ref (a 25), .int (nI nt)])), (a 25, .inl (cI, 200, .inl fb))]) [0, 1, 2, 3] rfl
      have hDc := hD.sub (ws' := [(a 26, .inr (0, [.ref (a 27), .ref (a 28), .int cu0, .int cu1, .int cu2, .int cu3, .int cu4, .int cu5])), (a 28, .inl (cI, 7, .inl fdr)), (a 24, .inr (6, [.ref (a 25), .int (nI nt)])), (a 25, .inl (cI, 200, .inl fb))]) [0, 1, 2, 3] (by decide) rfl
      have hKc := hK.sub (tys' := [(cI, .int)]) [0] rfl
      have hFc := va_free (wc := [(a 26, .inr (0, [.ref (a 27), .ref (a 28), .int cu0, .int cu1, .int cu2, .int cu3, .int cu4, .int cu5])), (a 28, .inl (cI, 7, .inl fdr)), (a 24, .inr (6, [.ref (a 25), .int (nI nt)])), (a 25, .inl (cI, 200, .inl fb))]) hD hS hA [0, 1, 2, 3] rfl
      refine va_calli (va_runV (As := [.ref (a 24), .int (nI ka)]) (rest := []) ⟨hx, hb, hml, hown, hw⟩ (k_takeNumber l dC dI b0 b1 b2 adK adV a cI nt fb cu0 cu1 cu2 cu3 cu4 cu5 fdr ka H.size (by omega) (by omega)) ⟨callB_of 2 hw (zz_good tw_389) rfl rfl rfl (hw _ tw_357) (hw _ tw_390) (by decide +kernel) ⟨Nat.le_of_ble_eq_true rfl, Nat.le_of_ble_eq_true rfl⟩, (hw _ tw_391), (hw _ tw_392)⟩ ⟨zz_blindG, va_recv hKc hPc (ci := 0) (q0 := 0) rfl rfl, zz_preG hPc hKc hDc hN hU hS hFc⟩ rfl rfl hl.1 rfl (lv_room (Nat.le_of_ble_eq_true rfl)) dX0_takeToken_58 ⟨Nat.le_of_ble_eq_true rfl, Nat.le_of_ble_eq_true rfl⟩) hS (fun q _ h => hFc q h) hFc (fun r_7 u_7 t H1 locs ht hvm e_7 hB hz1 hk1 hS => ?_)
      try dsimp only at e_7
      obtain ⟨v_7_0, v_7_1, v_7_2, v_7_3, v_7_4, v_7_5, v_7_6⟩ := u_7
      obtain ⟨hP1, hK1, hD1⟩ := hB
      rw [ht] at hP1
      have hK1 := va_K.moved hvm.symm hK1
      try dsimp only at e_7
      obtain ⟨hP, hD⟩ := va_join (wr := []) (w1 := [(a 26, .inr (0, [.ref (a 27), .ref (a 28), .int v_7_0, .int v_7_1, .int v_7_2, .int v_7_3, .int v_7_4, .int v_7_5])), (a 28, .inl (cI, 7, .inl v_7_6)), (a 24, .inr (6, [.ref (a 25), .int (nI nt)])), (a 25, .inl (cI, 200, .inl fb))]) hP hD [0, 1, 2, 3] [] rfl rfl (by decide) (by decide) hk1 hFc hP1 hD1
      clear hk1 ht hvm
      generalize H1 = H at hP hS ⊢
      have hP : va_P (dC, dI) vwCl [(a 26, .inr (0, [.ref (a 27), .ref (a 28), .int v_7_0, .int v_7_1, .int v_7_2, .int v_7_3, .int v_7_4, .int v_7_5])), (a 28, .inl (cI, 7, .inl v_7_6)), (a 24, .inr (6, [.ref (a 25), .int (nI nt)])), (a 25, .inl (cI, 200, .inl fb))] H := hP
      have hD : va_D A [(a 26, .inr (0, [.ref (a 27), .ref (a 28), .int v_7_0, .int v_7_1, .int v_7_2, .int v_7_3, .int v_7_4, .int v_7_5])), (a 28, .inl (cI, 7, .inl v_7_6)), (a 24, .inr (6, [.ref (a 25), .int (nI nt)])), (a 25, .inl (cI, 200, .inl fb))] := hD
      have hP9 := hP.sub (ws' := [(a 26, .inr (0, [.ref (a 27), .ref (a 28), .int v_7_0, .int v_7_1, .int v_7_2, .int v_7_3, .int v_7_4, .int v_7_5])), (a 28, .inl (cI, 7, .inl v_7_6)), (a 24, .inr (6, [.ref (a 25), .int (nI nt)])), (a 25, .inl (cI, 200, .inl fb))]) [0, 1, 2, 3] rfl
      have hD9 := hD.sub (ws' := [(a 26, .inr (0, [.ref (a 27), .ref (a 28), .int v_7_0, .int v_7_1, .int v_7_2, .int v_7_3, .int v_7_4, .int v_7_5])), (a 28, .inl (cI, 7, .inl v_7_6)), (a 24, .inr (6, [.ref (a 25), .int (nI nt)])), (a 25, .inl (cI, 200, .inl fb))]) [0, 1, 2, 3] (by decide) rfl
      have hK9 := hK.sub (tys' := [(cI, .int)]) [0] rfl
      exact W.iret (v := r_7) hx hb hr (fun t ht hW => ⟨⟨r_7, (v_7_0, v_7_1, v_7_2, v_7_3, v_7_4, v_7_5, v_7_6), rfl, trivial, by rw [ht]; exact hP9, va_K.moved hW.alike hK9, hD9⟩, hS.F ht⟩) hS.2.2 dX0_takeToken_61
    refine lv_lookup (off := 41) (tgt := 62) hx hb dX0_takeToken_21 (by decide) (by have n_0 := zz_ne c_4; rw [show (1 : Int32).toInt = 1 from by decide] at n_0; have n_1 := zz_ne c_6; rw [show (2 : Int32).toInt = 2 from by decide] at n_1; simp [Op.lookupswitch.offset, n_0, Ne.symm n_0, n_1, Ne.symm n_1]) (by decide) ?_
    have zc_4 := c_4
    rw [← Int32.toInt_inj] at zc_4
    try rw [show (1 : Int32).toInt = 1 from by decide] at zc_4
    have zc_6 := c_6
    rw [← Int32.toInt_inj] at zc_6
    try rw [show (2 : Int32).toInt = 2 from by decide] at zc_6
    refine lv_aload_n hx hb dX0_takeToken_62 rfl (lv_at hl 0 rfl) ?_
    refine lv_dup hx hb dX0_takeToken_63 rfl ?_
    refine va_get (D := (dC, dI)) (ci := 0) (v := .int cu5) (C := RX0) (T := TX0) (N := 8) hx hb hw zz_inX0 hown hK hP 0 rfl rfl 7 (by decide) (hw _ tw_393) (fun _ h9 => h9) rfl dX0_takeToken_64 ?_
    refine lv_iconst (v := 1) hx hb dX0_takeToken_67 (by decide) ?_
    refine lv_iadd hx hb dX0_takeToken_68 ?_
    refine va_put (D := (dC, dI)) (ci := 0) (v := .int (cu5 + 1)) (ty := .int) (C := RX0) (T := TX0) (N := 8) hx hb hw zz_inX0 tyX0 tyX0_ok nmX0 hown hK hP hD hS 0 rfl rfl 7 (by decide) (hw _ tw_393) (fun _ h9 => h9) rfl (by decide +kernel) rfl rfl (Nat.le_of_ble_eq_true rfl) dX0_takeToken_69 (fun H locs hP hD hS => ?_)
    have hP : va_P (dC, dI) vwCl [(a 26, .inr (0, [.ref (a 27), .ref (a 28), .int cu0, .int cu1, .int cu2, .int cu3, .int cu4, .int (cu5 + 1)])), (a 28, .inl (cI, 7, .inl fdr)), (a 24, .inr (6, [.ref (a 25), .int (nI nt)])), (a 25, .inl (cI, 200, .inl fb))] H := hP
    have hD : va_D A [(a 26, .inr (0, [.ref (a 27), .ref (a 28), .int cu0, .int cu1, .int cu2, .int cu3, .int cu4, .int (cu5 + 1)])), (a 28, .inl (cI, 7, .inl fdr)), (a 24, .inr (6, [.ref (a 25), .int (nI nt)])), (a 25, .inl (cI, 200, .inl fb))] := hD
    refine lv_aload_n hx hb dX0_takeToken_72 rfl (lv_at hl 0 rfl) ?_
    refine lv_iconst (v := 1) hx hb dX0_takeToken_73 (by decide) ?_
    refine va_put (D := (dC, dI)) (ci := 0) (v := .int 1) (ty := .int) (C := RX0) (T := TX0) (N := 8) hx hb hw zz_inX0 tyX0 tyX0_ok nmX0 hown hK hP hD hS 0 rfl rfl 4 (by decide) (hw _ tw_380) (fun _ h9 => h9) rfl (by decide +kernel) rfl rfl (Nat.le_of_ble_eq_true rfl) dX0_takeToken_74 (fun H locs hP hD hS => ?_)
    have hP : va_P (dC, dI) vwCl [(a 26, .inr (0, [.ref (a 27), .ref (a 28), .int cu0, .int cu1, .int 1, .int cu3, .int cu4, .int (cu5 + 1)])), (a 28, .inl (cI, 7, .inl fdr)), (a 24, .inr (6, [.ref (a 25), .int (nI nt)])), (a 25, .inl (cI, 200, .inl fb))] H := hP
    have hD : va_D A [(a 26, .inr (0, [.ref (a 27), .ref (a 28), .int cu0, .int cu1, .int 1, .int cu3, .int cu4, .int (cu5 + 1)])), (a 28, .inl (cI, 7, .inl fdr)), (a 24, .inr (6, [.ref (a 25), .int (nI nt)])), (a 25, .inl (cI, 200, .inl fb))] := hD
    refine lv_iconst (v := 0) hx hb dX0_takeToken_77 (by decide) ?_
    have hP9 := hP.sub (ws' := [(a 26, .inr (0, [.ref (a 27), .ref (a 28), .int cu0, .int cu1, .int 1, .int cu3, .int cu4, .int (cu5 + 1)])), (a 28, .inl (cI, 7, .inl fdr)), (a 24, .inr (6, [.ref (a 25), .int (nI nt)])), (a 25, .inl (cI, 200, .inl fb))]) [0, 1, 2, 3] rfl
    have hD9 := hD.sub (ws' := [(a 26, .inr (0, [.ref (a 27), .ref (a 28), .int cu0, .int cu1, .int 1, .int cu3, .int cu4, .int (cu5 + 1)])), (a 28, .inl (cI, 7, .inl fdr)), (a 24, .inr (6, [.ref (a 25), .int (nI nt)])), (a 25, .inl (cI, 200, .inl fb))]) [0, 1, 2, 3] (by decide) rfl
    have hK9 := hK.sub (tys' := [(cI, .int)]) [0] rfl
    exact W.iret (v := 0) hx hb hr (fun t ht hW => ⟨⟨0, (cu0, cu1, 1, cu3, cu4, (cu5 + 1), fdr), rfl, trivial, by rw [ht]; exact hP9, va_K.moved hW.alike hK9, hD9⟩, hS.F ht⟩) hS.2.2 dX0_takeToken_78
  · have zc_3 := c_3
    rw [← Int32.toInt_inj] at zc_3
    refine lv_iconst (v := 1) hx hb dX0_takeToken_15 (by decide) ?_
    have hP9 := hP.sub (ws' := [(a 26, .inr (0, [.ref (a 27), .ref (a 28), .int cu0, .int cu1, .int cu2, .int cu3, .int cu4, .int cu5])), (a 28, .inl (cI, 7, .inl fdr)), (a 24, .inr (6, [.ref (a 25), .int (nI nt)])), (a 25, .inl (cI, 200, .inl fb))]) [0, 1, 2, 3] rfl
    have hD9 := hD.sub (ws' := [(a 26, .inr (0, [.ref (a 27), .ref (a 28), .int cu0, .int cu1, .int cu2, .int cu3, .int cu4, .int cu5])), (a 28, .inl (cI, 7, .inl fdr)), (a 24, .inr (6, [.ref (a 25), .int (nI nt)])), (a 25, .inl (cI, 200, .inl fb))]) [0, 1, 2, 3] (by decide) rfl
    have hK9 := hK.sub (tys' := [(cI, .int)]) [0] rfl
    exact W.iret (v := 1) hx hb hr (fun t ht hW => ⟨⟨1, (cu0, cu1, cu2, cu3, cu4, cu5, fdr), rfl, trivial, by rw [ht]; exact hP9, va_K.moved hW.alike hK9, hD9⟩, hS.F ht⟩) hS.2.2 dX0_takeToken_16

set_option maxHeartbeats 4000000 in
set_option maxRecDepth 100000 in
theorem k_note (l : Launch) (dC : Nat → ClassId) (dI : Nat → Nat → Nat) (a : Nat → Nat) (cu0 : Int32) (cu1 : Int32) (cu2 : Int32) (cu3 : Int32) (cu4 : Int32) (cu5 : Int32) (p0 : Int32) (p1 : Int32) (sz : Nat) : Met l yX0_note (zz_w yX0_note cX0_note 3 none) ({ frames := 0, cells := 0, slots := 0, locals := 0 }) (va_Pc [.ref (a 26), .int p0, .int p1] (zz_B (dC, dI) sz [(a 26, .inr (0, [.ref (a 27), .ref (a 28), .int cu0, .int cu1, .int cu2, .int cu3, .int cu4, .int cu5]))] [])) (va_Qv (fun (_ : Int32 × Int32 × Int32 × Int32 × Int32 × Int32) => True) (fun (u : Int32 × Int32 × Int32 × Int32 × Int32 × Int32) (t : State) => match u with | (u0, u1, u2, u3, u4, u5) => va_P (dC, dI) vwCl [(a 26, .inr (0, [.ref (a 27), .ref (a 28), .int u0, .int u1, .int u2, .int u3, .int u4, .int u5]))] t.heap ∧ va_K (dC, dI) vwCl [] t ∧ va_D (va_A [(a 26, .inr (0, [.ref (a 27), .ref (a 28), .int cu0, .int cu1, .int cu2, .int cu3, .int cu4, .int cu5]))] sz) [(a 26, .inr (0, [.ref (a 27), .ref (a 28), .int u0, .int u1, .int u2, .int u3, .int u4, .int u5]))]) (va_A [(a 26, .inr (0, [.ref (a 27), .ref (a 28), .int cu0, .int cu1, .int cu2, .int cu3, .int cu4, .int cu5]))] sz)) 0 0 (va_A [(a 26, .inr (0, [.ref (a 27), .ref (a 28), .int cu0, .int cu1, .int cu2, .int cu3, .int cu4, .int cu5]))] sz) := by
  refine Met.ofW (cc := cX0_note) (maxL := 3) (ret := none) (by decide) rfl ?_
  intro p e s m args below meth c s₁ B hml hv
  obtain ⟨rfl, hsz, hP, hK, hD0, hN⟩ := hv
  have hx := B.exec
  have hb := B.bytes
  have hr := B.returns
  have hts := atoms_spec (ws := zz_w yX0_note cX0_note 3 none) B.pre
  have hw : ∀ w ∈ zz_all, w.before _ s = true := fun w h => hts w (List.mem_cons_of_mem _ h)
  have hown : s.vm.findClass RX0 = some m.cls := findClass_of_methodNamed B.named
  have hlocks := B.notSynchronized
  subst hsz
  have hD := hD0.self (sz := s.heap.size)
  generalize hAe : va_A [(a 26, .inr (0, [.ref (a 27), .ref (a 28), .int cu0, .int cu1, .int cu2, .int cu3, .int cu4, .int cu5]))] s.heap.size = A at hD ⊢
  have hA : ∀ q : Nat, s.heap.size ≤ q → A q := fun q h => by rw [← hAe]; exact Or.inr h
  have hS : va_S A s.heap s.heap [] := va_S.rf
  have hP : va_P (dC, dI) vwCl [(a 26, .inr (0, [.ref (a 27), .ref (a 28), .int cu0, .int cu1, .int cu2, .int cu3, .int cu4, .int cu5]))] s.heap := hP
  have hl := lv_entry ([.ref (a 26), .int p0, .int p1]) (n := 3) (Nat.le_of_ble_eq_true rfl)
  rw [lg_entry_eq]
  generalize (lg_sl ([.ref (a 26), .int p0, .int p1]) ++ List.replicate (3 - (lg_sl ([.ref (a 26), .int p0, .int p1])).length) Slot.unset).toArray = ls at hl ⊢
  have hl : lv_has ls 3 [(0, .ref (a 26)), (1, .int p0), (2, .int p1)] := hl
  refine lv_iload_n hx hb dX0_note_0 rfl (lv_at hl 1 rfl) ?_
  refine lv_if_eq (tgt := 14) hx hb dX0_note_1 (by decide) (fun c_1 => ?_) (fun c_1 => ?_)
  · have zc_1 := c_1
    rw [← Int32.toInt_inj] at zc_1
    try rw [show (0 : Int32).toInt = 0 from by decide] at zc_1
    have hP9 := hP.sub (ws' := [(a 26, .inr (0, [.ref (a 27), .ref (a 28), .int cu0, .int cu1, .int cu2, .int cu3, .int cu4, .int cu5]))]) [0] rfl
    have hD9 := hD.sub (ws' := [(a 26, .inr (0, [.ref (a 27), .ref (a 28), .int cu0, .int cu1, .int cu2, .int cu3, .int cu4, .int cu5]))]) [0] (by decide) rfl
    have hK9 := hK.sub (tys' := []) [] rfl
    exact W.vret hx hb hr (fun t ht hW => ⟨⟨(cu0, cu1, cu2, cu3, cu4, cu5), rfl, trivial, by rw [ht]; exact hP9, va_K.moved hW.alike hK9, hD9⟩, hS.F ht⟩) hS.2.2 dX0_note_14
  · have zc_1 := c_1
    rw [← Int32.toInt_inj] at zc_1
    try rw [show (0 : Int32).toInt = 0 from by decide] at zc_1
    refine lv_aload_n hx hb dX0_note_4 rfl (lv_at hl 0 rfl) ?_
    refine lv_iload_n hx hb dX0_note_5 rfl (lv_at hl 1 rfl) ?_
    refine va_put (D := (dC, dI)) (ci := 0) (v := .int p0) (ty := .int) (C := RX0) (T := TX0) (N := 8) hx hb hw zz_inX0 tyX0 tyX0_ok nmX0 hown hK hP hD hS 0 rfl rfl 2 (by decide) (hw _ tw_394) (fun _ h9 => h9) rfl (by decide +kernel) rfl rfl (Nat.le_of_ble_eq_true rfl) dX0_note_6 (fun H locs hP hD hS => ?_)
    have hP : va_P (dC, dI) vwCl [(a 26, .inr (0, [.ref (a 27), .ref (a 28), .int p0, .int cu1, .int cu2, .int cu3, .int cu4, .int cu5]))] H := hP
    have hD : va_D A [(a 26, .inr (0, [.ref (a 27), .ref (a 28), .int p0, .int cu1, .int cu2, .int cu3, .int cu4, .int cu5]))] := hD
    refine lv_aload_n hx hb dX0_note_9 rfl (lv_at hl 0 rfl) ?_
    refine lv_iload_n hx hb dX0_note_10 rfl (lv_at hl 2 rfl) ?_
    refine va_put (D := (dC, dI)) (ci := 0) (v := .int p1) (ty := .int) (C := RX0) (T := TX0) (N := 8) hx hb hw zz_inX0 tyX0 tyX0_ok nmX0 hown hK hP hD hS 0 rfl rfl 3 (by decide) (hw _ tw_395) (fun _ h9 => h9) rfl (by decide +kernel) rfl rfl (Nat.le_of_ble_eq_true rfl) dX0_note_11 (fun H locs hP hD hS => ?_)
    have hP : va_P (dC, dI) vwCl [(a 26, .inr (0, [.ref (a 27), .ref (a 28), .int p0, .int p1, .int cu2, .int cu3, .int cu4, .int cu5]))] H := hP
    have hD : va_D A [(a 26, .inr (0, [.ref (a 27), .ref (a 28), .int p0, .int p1, .int cu2, .int cu3, .int cu4, .int cu5]))] := hD
    have hP9 := hP.sub (ws' := [(a 26, .inr (0, [.ref (a 27), .ref (a 28), .int p0, .int p1, .int cu2, .int cu3, .int cu4, .int cu5]))]) [0] rfl
    have hD9 := hD.sub (ws' := [(a 26, .inr (0, [.ref (a 27), .ref (a 28), .int p0, .int p1, .int cu2, .int cu3, .int cu4, .int cu5]))]) [0] (by decide) rfl
    have hK9 := hK.sub (tys' := []) [] rfl
    exact W.vret hx hb hr (fun t ht hW => ⟨⟨(p0, p1, cu2, cu3, cu4, cu5), rfl, trivial, by rw [ht]; exact hP9, va_K.moved hW.alike hK9, hD9⟩, hS.F ht⟩) hS.2.2 dX0_note_14
