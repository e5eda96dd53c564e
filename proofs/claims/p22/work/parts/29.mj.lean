theorem tw_289 : Cond.constantLong RX8 156 816978868 ∈ zz_all := zz_m4 130 rfl rfl
theorem tw_290 : Cond.constantLong RX8 158 13260912 ∈ zz_all := zz_m4 131 rfl rfl
theorem tw_291 : Cond.constantLong RX8 160 596061369 ∈ zz_all := zz_m4 132 rfl rfl
theorem tw_292 : Cond.constantLong RX8 162 747048165 ∈ zz_all := zz_m4 133 rfl rfl
theorem tw_293 : Cond.constantLong RX8 164 667556069 ∈ zz_all := zz_m4 134 rfl rfl
theorem tw_294 : Cond.constantLong RX8 166 10157028 ∈ zz_all := zz_m4 135 rfl rfl
theorem tw_295 : Cond.constantLong RX8 168 14555621 ∈ zz_all := zz_m4 136 rfl rfl
theorem tw_296 : Cond.fieldLink RX8 170 "HandsReturnedModel" "at" "I" ∈ zz_all := zz_m3 167 rfl rfl
theorem tw_297 : Cond.code yX8_isLetter cX8_isLetter 1 (some .boolean) ∈ zz_all := zz_m4 121 rfl rfl
theorem tw_298 : Cond.methodLink RX8 179 yX8_isLetter ∈ zz_all := zz_m4 119 rfl rfl
theorem tw_299 : Cond.static yX8_isLetter ∈ zz_all := zz_m4 120 rfl rfl
theorem tw_300 : Cond.constantLong RX8 191 48 ∈ zz_all := zz_m4 137 rfl rfl
theorem tw_301 : Cond.constantLong RX8 193 57 ∈ zz_all := zz_m4 138 rfl rfl
theorem tw_302 : Cond.fieldLink RX8 176 "HandsReturnedModel" "sort" "I" ∈ zz_all := zz_m3 169 rfl rfl
theorem tw_303 : Cond.fieldLink RX8 188 "HandsReturnedModel" "told" "I" ∈ zz_all := zz_m3 170 rfl rfl
theorem tw_304 : Cond.constant RX8 195 99999 ∈ zz_all := zz_m4 139 rfl rfl
theorem tw_305 : Cond.code yX8_wordOf cX8_wordOf 2 (some .int) ∈ zz_all := zz_m4 129 rfl rfl
theorem tw_306 : Cond.methodLink RX8 184 yX8_wordOf ∈ zz_all := zz_m4 127 rfl rfl
theorem tw_307 : Cond.static yX8_wordOf ∈ zz_all := zz_m4 128 rfl rfl
theorem tw_308 : Cond.constantLong RX8 182 64 ∈ zz_all := zz_m4 126 rfl rfl
theorem zy_b29mj_0 : decode cX8_wordOf 0 = .ok (.lload_n 0, 1) ∧ decode cX8_wordOf 1 = .ok (.ldc2_w 156, 3) ∧ decode cX8_wordOf 4 = .ok (.lcmp, 1) ∧ decode cX8_wordOf 5 = .ok (.ifCond .ne 5, 3) ∧ decode cX8_wordOf 8 = .ok (.iconst 0, 1) ∧ decode cX8_wordOf 9 = .ok (.ireturn, 1) ∧ decode cX8_wordOf 10 = .ok (.lload_n 0, 1) ∧ decode cX8_wordOf 11 = .ok (.ldc2_w 158, 3) := by decide +kernel
theorem dX8_wordOf_0 : decode cX8_wordOf 0 = .ok (.lload_n 0, 1) := zy_b29mj_0.1
theorem dX8_wordOf_1 : decode cX8_wordOf 1 = .ok (.ldc2_w 156, 3) := zy_b29mj_0.2.1
theorem dX8_wordOf_4 : decode cX8_wordOf 4 = .ok (.lcmp, 1) := zy_b29mj_0.2.2.1
theorem dX8_wordOf_5 : decode cX8_wordOf 5 = .ok (.ifCond .ne 5, 3) := zy_b29mj_0.2.2.2.1
theorem dX8_wordOf_8 : decode cX8_wordOf 8 = .ok (.iconst 0, 1) := zy_b29mj_0.2.2.2.2.1
theorem dX8_wordOf_9 : decode cX8_wordOf 9 = .ok (.ireturn, 1) := zy_b29mj_0.2.2.2.2.2.1
theorem dX8_wordOf_10 : decode cX8_wordOf 10 = .ok (.lload_n 0, 1) := zy_b29mj_0.2.2.2.2.2.2.1
theorem dX8_wordOf_11 : decode cX8_wordOf 11 = .ok (.ldc2_w 158, 3) := zy_b29mj_0.2.2.2.2.2.2.2
theorem zy_b29mj_1 : decode cX8_wordOf 14 = .ok (.lcmp, 1) ∧ decode cX8_wordOf 15 = .ok (.ifCond .ne 5, 3) ∧ decode cX8_wordOf 18 = .ok (.iconst 1, 1) ∧ decode cX8_wordOf 19 = .ok (.ireturn, 1) ∧ decode cX8_wordOf 20 = .ok (.lload_n 0, 1) ∧ decode cX8_wordOf 21 = .ok (.ldc2_w 160, 3) ∧ decode cX8_wordOf 24 = .ok (.lcmp, 1) ∧ decode cX8_wordOf 25 = .ok (.ifCond .ne 5, 3) := by decide +kernel
theorem dX8_wordOf_14 : decode cX8_wordOf 14 = .ok (.lcmp, 1) := zy_b29mj_1.1
theorem dX8_wordOf_15 : decode cX8_wordOf 15 = .ok (.ifCond .ne 5, 3) := zy_b29mj_1.2.1
theorem dX8_wordOf_18 : decode cX8_wordOf 18 = .ok (.iconst 1, 1) := zy_b29mj_1.2.2.1
theorem dX8_wordOf_19 : decode cX8_wordOf 19 = .ok (.ireturn, 1) := zy_b29mj_1.2.2.2.1
theorem dX8_wordOf_20 : decode cX8_wordOf 20 = .ok (.lload_n 0, 1) := zy_b29mj_1.2.2.2.2.1
theorem dX8_wordOf_21 : decode cX8_wordOf 21 = .ok (.ldc2_w 160, 3) := zy_b29mj_1.2.2.2.2.2.1
theorem dX8_wordOf_24 : decode cX8_wordOf 24 = .ok (.lcmp, 1) := zy_b29mj_1.2.2.2.2.2.2.1
theorem dX8_wordOf_25 : decode cX8_wordOf 25 = .ok (.ifCond .ne 5, 3) := zy_b29mj_1.2.2.2.2.2.2.2
theorem zy_b29mj_2 : decode cX8_wordOf 28 = .ok (.iconst 2, 1) ∧ decode cX8_wordOf 29 = .ok (.ireturn, 1) ∧ decode cX8_wordOf 30 = .ok (.lload_n 0, 1) ∧ decode cX8_wordOf 31 = .ok (.ldc2_w 162, 3) ∧ decode cX8_wordOf 34 = .ok (.lcmp, 1) ∧ decode cX8_wordOf 35 = .ok (.ifCond .ne 5, 3) ∧ decode cX8_wordOf 38 = .ok (.iconst 3, 1) ∧ decode cX8_wordOf 39 = .ok (.ireturn, 1) := by decide +kernel
theorem dX8_wordOf_28 : decode cX8_wordOf 28 = .ok (.iconst 2, 1) := zy_b29mj_2.1
theorem dX8_wordOf_29 : decode cX8_wordOf 29 = .ok (.ireturn, 1) := zy_b29mj_2.2.1
theorem dX8_wordOf_30 : decode cX8_wordOf 30 = .ok (.lload_n 0, 1) := zy_b29mj_2.2.2.1
theorem dX8_wordOf_31 : decode cX8_wordOf 31 = .ok (.ldc2_w 162, 3) := zy_b29mj_2.2.2.2.1
theorem dX8_wordOf_34 : decode cX8_wordOf 34 = .ok (.lcmp, 1) := zy_b29mj_2.2.2.2.2.1
theorem dX8_wordOf_35 : decode cX8_wordOf 35 = .ok (.ifCond .ne 5, 3) := zy_b29mj_2.2.2.2.2.2.1
theorem dX8_wordOf_38 : decode cX8_wordOf 38 = .ok (.iconst 3, 1) := zy_b29mj_2.2.2.2.2.2.2.1
theorem dX8_wordOf_39 : decode cX8_wordOf 39 = .ok (.ireturn, 1) := zy_b29mj_2.2.2.2.2.2.2.2
theorem zy_b29mj_3 : decode cX8_wordOf 40 = .ok (.lload_n 0, 1) ∧ decode cX8_wordOf 41 = .ok (.ldc2_w 164, 3) ∧ decode cX8_wordOf 44 = .ok (.lcmp, 1) ∧ decode cX8_wordOf 45 = .ok (.ifCond .ne 5, 3) ∧ decode cX8_wordOf 48 = .ok (.iconst 4, 1) ∧ decode cX8_wordOf 49 = .ok (.ireturn, 1) ∧ decode cX8_wordOf 50 = .ok (.lload_n 0, 1) ∧ decode cX8_wordOf 51 = .ok (.ldc2_w 166, 3) := by decide +kernel
theorem dX8_wordOf_40 : decode cX8_wordOf 40 = .ok (.lload_n 0, 1) := zy_b29mj_3.1
theorem dX8_wordOf_41 : decode cX8_wordOf 41 = .ok (.ldc2_w 164, 3) := zy_b29mj_3.2.1
theorem dX8_wordOf_44 : decode cX8_wordOf 44 = .ok (.lcmp, 1) := zy_b29mj_3.2.2.1
theorem dX8_wordOf_45 : decode cX8_wordOf 45 = .ok (.ifCond .ne 5, 3) := zy_b29mj_3.2.2.2.1
theorem dX8_wordOf_48 : decode cX8_wordOf 48 = .ok (.iconst 4, 1) := zy_b29mj_3.2.2.2.2.1
theorem dX8_wordOf_49 : decode cX8_wordOf 49 = .ok (.ireturn, 1) := zy_b29mj_3.2.2.2.2.2.1
theorem dX8_wordOf_50 : decode cX8_wordOf 50 = .ok (.lload_n 0, 1) := zy_b29mj_3.2.2.2.2.2.2.1
theorem dX8_wordOf_51 : decode cX8_wordOf 51 = .ok (.ldc2_w 166, 3) := zy_b29mj_3.2.2.2.2.2.2.2
theorem zy_b29mj_4 : decode cX8_wordOf 54 = .ok (.lcmp, 1) ∧ decode cX8_wordOf 55 = .ok (.ifCond .ne 5, 3) ∧ decode cX8_wordOf 58 = .ok (.iconst 5, 1) ∧ decode cX8_wordOf 59 = .ok (.ireturn, 1) ∧ decode cX8_wordOf 60 = .ok (.lload_n 0, 1) ∧ decode cX8_wordOf 61 = .ok (.ldc2_w 168, 3) ∧ decode cX8_wordOf 64 = .ok (.lcmp, 1) ∧ decode cX8_wordOf 65 = .ok (.ifCond .ne 6, 3) := by decide +kernel
theorem dX8_wordOf_54 : decode cX8_wordOf 54 = .ok (.lcmp, 1) := zy_b29mj_4.1
theorem dX8_wordOf_55 : decode cX8_wordOf 55 = .ok (.ifCond .ne 5, 3) := zy_b29mj_4.2.1
theorem dX8_wordOf_58 : decode cX8_wordOf 58 = .ok (.iconst 5, 1) := zy_b29mj_4.2.2.1
theorem dX8_wordOf_59 : decode cX8_wordOf 59 = .ok (.ireturn, 1) := zy_b29mj_4.2.2.2.1
theorem dX8_wordOf_60 : decode cX8_wordOf 60 = .ok (.lload_n 0, 1) := zy_b29mj_4.2.2.2.2.1
theorem dX8_wordOf_61 : decode cX8_wordOf 61 = .ok (.ldc2_w 168, 3) := zy_b29mj_4.2.2.2.2.2.1
theorem dX8_wordOf_64 : decode cX8_wordOf 64 = .ok (.lcmp, 1) := zy_b29mj_4.2.2.2.2.2.2.1
theorem dX8_wordOf_65 : decode cX8_wordOf 65 = .ok (.ifCond .ne 6, 3) := zy_b29mj_4.2.2.2.2.2.2.2
theorem zy_b29mj_5 : decode cX8_wordOf 68 = .ok (.bipush 6, 2) ∧ decode cX8_wordOf 70 = .ok (.ireturn, 1) ∧ decode cX8_wordOf 71 = .ok (.iconst (-1), 1) ∧ decode cX8_wordOf 72 = .ok (.ireturn, 1) := by decide +kernel
theorem dX8_wordOf_68 : decode cX8_wordOf 68 = .ok (.bipush 6, 2) := zy_b29mj_5.1
theorem dX8_wordOf_70 : decode cX8_wordOf 70 = .ok (.ireturn, 1) := zy_b29mj_5.2.1
theorem dX8_wordOf_71 : decode cX8_wordOf 71 = .ok (.iconst (-1), 1) := zy_b29mj_5.2.2.1
theorem dX8_wordOf_72 : decode cX8_wordOf 72 = .ok (.ireturn, 1) := zy_b29mj_5.2.2.2
theorem zy_b29mj_6 : decode cX8_next 0 = .ok (.aload_n 0, 1) ∧ decode cX8_next 1 = .ok (.getfield 170, 3) ∧ decode cX8_next 4 = .ok (.iload_n 1, 1) ∧ decode cX8_next 5 = .ok (.if_icmp .ge 30, 3) ∧ decode cX8_next 8 = .ok (.aload_n 0, 1) ∧ decode cX8_next 9 = .ok (.getfield 7, 3) ∧ decode cX8_next 12 = .ok (.aload_n 0, 1) ∧ decode cX8_next 13 = .ok (.getfield 170, 3) := by decide +kernel
theorem dX8_next_0 : decode cX8_next 0 = .ok (.aload_n 0, 1) := zy_b29mj_6.1
theorem dX8_next_1 : decode cX8_next 1 = .ok (.getfield 170, 3) := zy_b29mj_6.2.1
theorem dX8_next_4 : decode cX8_next 4 = .ok (.iload_n 1, 1) := zy_b29mj_6.2.2.1
theorem dX8_next_5 : decode cX8_next 5 = .ok (.if_icmp .ge 30, 3) := zy_b29mj_6.2.2.2.1
theorem dX8_next_8 : decode cX8_next 8 = .ok (.aload_n 0, 1) := zy_b29mj_6.2.2.2.2.1
theorem dX8_next_9 : decode cX8_next 9 = .ok (.getfield 7, 3) := zy_b29mj_6.2.2.2.2.2.1
theorem dX8_next_12 : decode cX8_next 12 = .ok (.aload_n 0, 1) := zy_b29mj_6.2.2.2.2.2.2.1
theorem dX8_next_13 : decode cX8_next 13 = .ok (.getfield 170, 3) := zy_b29mj_6.2.2.2.2.2.2.2
theorem zy_b29mj_7 : decode cX8_next 16 = .ok (.baload, 1) ∧ decode cX8_next 17 = .ok (.bipush 32, 2) ∧ decode cX8_next 19 = .ok (.if_icmp .ne 16, 3) ∧ decode cX8_next 22 = .ok (.aload_n 0, 1) ∧ decode cX8_next 23 = .ok (.dup, 1) ∧ decode cX8_next 24 = .ok (.getfield 170, 3) ∧ decode cX8_next 27 = .ok (.iconst 1, 1) ∧ decode cX8_next 28 = .ok (.iadd, 1) := by decide +kernel
theorem dX8_next_16 : decode cX8_next 16 = .ok (.baload, 1) := zy_b29mj_7.1
theorem dX8_next_17 : decode cX8_next 17 = .ok (.bipush 32, 2) := zy_b29mj_7.2.1
theorem dX8_next_19 : decode cX8_next 19 = .ok (.if_icmp .ne 16, 3) := zy_b29mj_7.2.2.1
theorem dX8_next_22 : decode cX8_next 22 = .ok (.aload_n 0, 1) := zy_b29mj_7.2.2.2.1
theorem dX8_next_23 : decode cX8_next 23 = .ok (.dup, 1) := zy_b29mj_7.2.2.2.2.1
theorem dX8_next_24 : decode cX8_next 24 = .ok (.getfield 170, 3) := zy_b29mj_7.2.2.2.2.2.1
theorem dX8_next_27 : decode cX8_next 27 = .ok (.iconst 1, 1) := zy_b29mj_7.2.2.2.2.2.2.1
theorem dX8_next_28 : decode cX8_next 28 = .ok (.iadd, 1) := zy_b29mj_7.2.2.2.2.2.2.2
theorem zy_b29mj_8 : decode cX8_next 29 = .ok (.putfield 170, 3) ∧ decode cX8_next 32 = .ok (.goto (-32), 3) ∧ decode cX8_next 35 = .ok (.aload_n 0, 1) ∧ decode cX8_next 36 = .ok (.aload_n 0, 1) ∧ decode cX8_next 37 = .ok (.getfield 170, 3) ∧ decode cX8_next 40 = .ok (.putfield 173, 3) ∧ decode cX8_next 43 = .ok (.aload_n 0, 1) ∧ decode cX8_next 44 = .ok (.getfield 170, 3) := by decide +kernel
theorem dX8_next_29 : decode cX8_next 29 = .ok (.putfield 170, 3) := zy_b29mj_8.1
theorem dX8_next_32 : decode cX8_next 32 = .ok (.goto (-32), 3) := zy_b29mj_8.2.1
theorem dX8_next_35 : decode cX8_next 35 = .ok (.aload_n 0, 1) := zy_b29mj_8.2.2.1
theorem dX8_next_36 : decode cX8_next 36 = .ok (.aload_n 0, 1) := zy_b29mj_8.2.2.2.1
theorem dX8_next_37 : decode cX8_next 37 = .ok (.getfield 170, 3) := zy_b29mj_8.2.2.2.2.1
theorem dX8_next_40 : decode cX8_next 40 = .ok (.putfield 173, 3) := zy_b29mj_8.2.2.2.2.2.1
theorem dX8_next_43 : decode cX8_next 43 = .ok (.aload_n 0, 1) := zy_b29mj_8.2.2.2.2.2.2.1
theorem dX8_next_44 : decode cX8_next 44 = .ok (.getfield 170, 3) := zy_b29mj_8.2.2.2.2.2.2.2
theorem zy_b29mj_9 : decode cX8_next 47 = .ok (.iload_n 1, 1) ∧ decode cX8_next 48 = .ok (.if_icmp .ne 9, 3) ∧ decode cX8_next 51 = .ok (.aload_n 0, 1) ∧ decode cX8_next 52 = .ok (.iconst 0, 1) ∧ decode cX8_next 53 = .ok (.putfield 176, 3) ∧ decode cX8_next 56 = .ok (.return_, 1) ∧ decode cX8_next 57 = .ok (.aload_n 0, 1) ∧ decode cX8_next 58 = .ok (.getfield 7, 3) := by decide +kernel
theorem dX8_next_47 : decode cX8_next 47 = .ok (.iload_n 1, 1) := zy_b29mj_9.1
theorem dX8_next_48 : decode cX8_next 48 = .ok (.if_icmp .ne 9, 3) := zy_b29mj_9.2.1
theorem dX8_next_51 : decode cX8_next 51 = .ok (.aload_n 0, 1) := zy_b29mj_9.2.2.1
theorem dX8_next_52 : decode cX8_next 52 = .ok (.iconst 0, 1) := zy_b29mj_9.2.2.2.1
theorem dX8_next_53 : decode cX8_next 53 = .ok (.putfield 176, 3) := zy_b29mj_9.2.2.2.2.1
theorem dX8_next_56 : decode cX8_next 56 = .ok (.return_, 1) := zy_b29mj_9.2.2.2.2.2.1
theorem dX8_next_57 : decode cX8_next 57 = .ok (.aload_n 0, 1) := zy_b29mj_9.2.2.2.2.2.2.1
theorem dX8_next_58 : decode cX8_next 58 = .ok (.getfield 7, 3) := zy_b29mj_9.2.2.2.2.2.2.2
theorem zy_b29mj_10 : decode cX8_next 61 = .ok (.aload_n 0, 1) ∧ decode cX8_next 62 = .ok (.getfield 170, 3) ∧ decode cX8_next 65 = .ok (.baload, 1) ∧ decode cX8_next 66 = .ok (.istore_n 2, 1) ∧ decode cX8_next 67 = .ok (.iload_n 2, 1) ∧ decode cX8_next 68 = .ok (.invokestatic 179, 3) ∧ decode cX8_next 71 = .ok (.ifCond .eq 116, 3) ∧ decode cX8_next 74 = .ok (.lconst 0, 1) := by decide +kernel
theorem dX8_next_61 : decode cX8_next 61 = .ok (.aload_n 0, 1) := zy_b29mj_10.1
theorem dX8_next_62 : decode cX8_next 62 = .ok (.getfield 170, 3) := zy_b29mj_10.2.1
theorem dX8_next_65 : decode cX8_next 65 = .ok (.baload, 1) := zy_b29mj_10.2.2.1
theorem dX8_next_66 : decode cX8_next 66 = .ok (.istore_n 2, 1) := zy_b29mj_10.2.2.2.1
theorem dX8_next_67 : decode cX8_next 67 = .ok (.iload_n 2, 1) := zy_b29mj_10.2.2.2.2.1
theorem dX8_next_68 : decode cX8_next 68 = .ok (.invokestatic 179, 3) := zy_b29mj_10.2.2.2.2.2.1
theorem dX8_next_71 : decode cX8_next 71 = .ok (.ifCond .eq 116, 3) := zy_b29mj_10.2.2.2.2.2.2.1
theorem dX8_next_74 : decode cX8_next 74 = .ok (.lconst 0, 1) := zy_b29mj_10.2.2.2.2.2.2.2
theorem zy_b29mj_11 : decode cX8_next 75 = .ok (.lstore_n 3, 1) ∧ decode cX8_next 76 = .ok (.iconst 0, 1) ∧ decode cX8_next 77 = .ok (.istore 5, 2) ∧ decode cX8_next 79 = .ok (.aload_n 0, 1) ∧ decode cX8_next 80 = .ok (.getfield 170, 3) ∧ decode cX8_next 83 = .ok (.iload_n 1, 1) ∧ decode cX8_next 84 = .ok (.if_icmp .ge 66, 3) ∧ decode cX8_next 87 = .ok (.aload_n 0, 1) := by decide +kernel
theorem dX8_next_75 : decode cX8_next 75 = .ok (.lstore_n 3, 1) := zy_b29mj_11.1
theorem dX8_next_76 : decode cX8_next 76 = .ok (.iconst 0, 1) := zy_b29mj_11.2.1
theorem dX8_next_77 : decode cX8_next 77 = .ok (.istore 5, 2) := zy_b29mj_11.2.2.1
theorem dX8_next_79 : decode cX8_next 79 = .ok (.aload_n 0, 1) := zy_b29mj_11.2.2.2.1
theorem dX8_next_80 : decode cX8_next 80 = .ok (.getfield 170, 3) := zy_b29mj_11.2.2.2.2.1
theorem dX8_next_83 : decode cX8_next 83 = .ok (.iload_n 1, 1) := zy_b29mj_11.2.2.2.2.2.1
theorem dX8_next_84 : decode cX8_next 84 = .ok (.if_icmp .ge 66, 3) := zy_b29mj_11.2.2.2.2.2.2.1
theorem dX8_next_87 : decode cX8_next 87 = .ok (.aload_n 0, 1) := zy_b29mj_11.2.2.2.2.2.2.2
theorem zy_b29mj_12 : decode cX8_next 88 = .ok (.getfield 7, 3) ∧ decode cX8_next 91 = .ok (.aload_n 0, 1) ∧ decode cX8_next 92 = .ok (.getfield 170, 3) ∧ decode cX8_next 95 = .ok (.baload, 1) ∧ decode cX8_next 96 = .ok (.invokestatic 179, 3) ∧ decode cX8_next 99 = .ok (.ifCond .eq 51, 3) ∧ decode cX8_next 102 = .ok (.iload 5, 2) ∧ decode cX8_next 104 = .ok (.bipush 8, 2) := by decide +kernel
theorem dX8_next_88 : decode cX8_next 88 = .ok (.getfield 7, 3) := zy_b29mj_12.1
theorem dX8_next_91 : decode cX8_next 91 = .ok (.aload_n 0, 1) := zy_b29mj_12.2.1
theorem dX8_next_92 : decode cX8_next 92 = .ok (.getfield 170, 3) := zy_b29mj_12.2.2.1
theorem dX8_next_95 : decode cX8_next 95 = .ok (.baload, 1) := zy_b29mj_12.2.2.2.1
theorem dX8_next_96 : decode cX8_next 96 = .ok (.invokestatic 179, 3) := zy_b29mj_12.2.2.2.2.1
theorem dX8_next_99 : decode cX8_next 99 = .ok (.ifCond .eq 51, 3) := zy_b29mj_12.2.2.2.2.2.1
theorem dX8_next_102 : decode cX8_next 102 = .ok (.iload 5, 2) := zy_b29mj_12.2.2.2.2.2.2.1
theorem dX8_next_104 : decode cX8_next 104 = .ok (.bipush 8, 2) := zy_b29mj_12.2.2.2.2.2.2.2
theorem zy_b29mj_13 : decode cX8_next 106 = .ok (.if_icmp .ge 26, 3) ∧ decode cX8_next 109 = .ok (.ldc2_w 182, 3) ∧ decode cX8_next 112 = .ok (.lload_n 3, 1) ∧ decode cX8_next 113 = .ok (.lmul, 1) ∧ decode cX8_next 114 = .ok (.aload_n 0, 1) ∧ decode cX8_next 115 = .ok (.getfield 7, 3) ∧ decode cX8_next 118 = .ok (.aload_n 0, 1) ∧ decode cX8_next 119 = .ok (.getfield 170, 3) := by decide +kernel
theorem dX8_next_106 : decode cX8_next 106 = .ok (.if_icmp .ge 26, 3) := zy_b29mj_13.1
theorem dX8_next_109 : decode cX8_next 109 = .ok (.ldc2_w 182, 3) := zy_b29mj_13.2.1
theorem dX8_next_112 : decode cX8_next 112 = .ok (.lload_n 3, 1) := zy_b29mj_13.2.2.1
theorem dX8_next_113 : decode cX8_next 113 = .ok (.lmul, 1) := zy_b29mj_13.2.2.2.1
theorem dX8_next_114 : decode cX8_next 114 = .ok (.aload_n 0, 1) := zy_b29mj_13.2.2.2.2.1
theorem dX8_next_115 : decode cX8_next 115 = .ok (.getfield 7, 3) := zy_b29mj_13.2.2.2.2.2.1
theorem dX8_next_118 : decode cX8_next 118 = .ok (.aload_n 0, 1) := zy_b29mj_13.2.2.2.2.2.2.1
theorem dX8_next_119 : decode cX8_next 119 = .ok (.getfield 170, 3) := zy_b29mj_13.2.2.2.2.2.2.2
theorem zy_b29mj_14 : decode cX8_next 122 = .ok (.baload, 1) ∧ decode cX8_next 123 = .ok (.i2l, 1) ∧ decode cX8_next 124 = .ok (.ladd, 1) ∧ decode cX8_next 125 = .ok (.ldc2_w 182, 3) ∧ decode cX8_next 128 = .ok (.lsub, 1) ∧ decode cX8_next 129 = .ok (.goto 4, 3) ∧ decode cX8_next 132 = .ok (.lload_n 3, 1) ∧ decode cX8_next 133 = .ok (.lstore_n 3, 1) := by decide +kernel
theorem dX8_next_122 : decode cX8_next 122 = .ok (.baload, 1) := zy_b29mj_14.1
theorem dX8_next_123 : decode cX8_next 123 = .ok (.i2l, 1) := zy_b29mj_14.2.1
theorem dX8_next_124 : decode cX8_next 124 = .ok (.ladd, 1) := zy_b29mj_14.2.2.1
theorem dX8_next_125 : decode cX8_next 125 = .ok (.ldc2_w 182, 3) := zy_b29mj_14.2.2.2.1
theorem dX8_next_128 : decode cX8_next 128 = .ok (.lsub, 1) := zy_b29mj_14.2.2.2.2.1
theorem dX8_next_129 : decode cX8_next 129 = .ok (.goto 4, 3) := zy_b29mj_14.2.2.2.2.2.1
theorem dX8_next_132 : decode cX8_next 132 = .ok (.lload_n 3, 1) := zy_b29mj_14.2.2.2.2.2.2.1
theorem dX8_next_133 : decode cX8_next 133 = .ok (.lstore_n 3, 1) := zy_b29mj_14.2.2.2.2.2.2.2
theorem zy_b29mj_15 : decode cX8_next 134 = .ok (.iinc 5 1, 3) ∧ decode cX8_next 137 = .ok (.aload_n 0, 1) ∧ decode cX8_next 138 = .ok (.dup, 1) ∧ decode cX8_next 139 = .ok (.getfield 170, 3) ∧ decode cX8_next 142 = .ok (.iconst 1, 1) ∧ decode cX8_next 143 = .ok (.iadd, 1) ∧ decode cX8_next 144 = .ok (.putfield 170, 3) ∧ decode cX8_next 147 = .ok (.goto (-68), 3) := by decide +kernel
theorem dX8_next_134 : decode cX8_next 134 = .ok (.iinc 5 1, 3) := zy_b29mj_15.1
theorem dX8_next_137 : decode cX8_next 137 = .ok (.aload_n 0, 1) := zy_b29mj_15.2.1
theorem dX8_next_138 : decode cX8_next 138 = .ok (.dup, 1) := zy_b29mj_15.2.2.1
theorem dX8_next_139 : decode cX8_next 139 = .ok (.getfield 170, 3) := zy_b29mj_15.2.2.2.1
theorem dX8_next_142 : decode cX8_next 142 = .ok (.iconst 1, 1) := zy_b29mj_15.2.2.2.2.1
theorem dX8_next_143 : decode cX8_next 143 = .ok (.iadd, 1) := zy_b29mj_15.2.2.2.2.2.1
theorem dX8_next_144 : decode cX8_next 144 = .ok (.putfield 170, 3) := zy_b29mj_15.2.2.2.2.2.2.1
theorem dX8_next_147 : decode cX8_next 147 = .ok (.goto (-68), 3) := zy_b29mj_15.2.2.2.2.2.2.2
theorem zy_b29mj_16 : decode cX8_next 150 = .ok (.aload_n 0, 1) ∧ decode cX8_next 151 = .ok (.iload 5, 2) ∧ decode cX8_next 153 = .ok (.iconst 5, 1) ∧ decode cX8_next 154 = .ok (.if_icmp .le 7, 3) ∧ decode cX8_next 157 = .ok (.iconst (-1), 1) ∧ decode cX8_next 158 = .ok (.goto 7, 3) ∧ decode cX8_next 161 = .ok (.lload_n 3, 1) ∧ decode cX8_next 162 = .ok (.invokestatic 184, 3) := by decide +kernel
theorem dX8_next_150 : decode cX8_next 150 = .ok (.aload_n 0, 1) := zy_b29mj_16.1
theorem dX8_next_151 : decode cX8_next 151 = .ok (.iload 5, 2) := zy_b29mj_16.2.1
theorem dX8_next_153 : decode cX8_next 153 = .ok (.iconst 5, 1) := zy_b29mj_16.2.2.1
theorem dX8_next_154 : decode cX8_next 154 = .ok (.if_icmp .le 7, 3) := zy_b29mj_16.2.2.2.1
theorem dX8_next_157 : decode cX8_next 157 = .ok (.iconst (-1), 1) := zy_b29mj_16.2.2.2.2.1
theorem dX8_next_158 : decode cX8_next 158 = .ok (.goto 7, 3) := zy_b29mj_16.2.2.2.2.2.1
theorem dX8_next_161 : decode cX8_next 161 = .ok (.lload_n 3, 1) := zy_b29mj_16.2.2.2.2.2.2.1
theorem dX8_next_162 : decode cX8_next 162 = .ok (.invokestatic 184, 3) := zy_b29mj_16.2.2.2.2.2.2.2
theorem zy_b29mj_17 : decode cX8_next 165 = .ok (.putfield 188, 3) ∧ decode cX8_next 168 = .ok (.aload_n 0, 1) ∧ decode cX8_next 169 = .ok (.aload_n 0, 1) ∧ decode cX8_next 170 = .ok (.getfield 188, 3) ∧ decode cX8_next 173 = .ok (.ifCond .ge 7, 3) ∧ decode cX8_next 176 = .ok (.iconst 4, 1) ∧ decode cX8_next 177 = .ok (.goto 4, 3) ∧ decode cX8_next 180 = .ok (.iconst 1, 1) := by decide +kernel
theorem dX8_next_165 : decode cX8_next 165 = .ok (.putfield 188, 3) := zy_b29mj_17.1
theorem dX8_next_168 : decode cX8_next 168 = .ok (.aload_n 0, 1) := zy_b29mj_17.2.1
theorem dX8_next_169 : decode cX8_next 169 = .ok (.aload_n 0, 1) := zy_b29mj_17.2.2.1
theorem dX8_next_170 : decode cX8_next 170 = .ok (.getfield 188, 3) := zy_b29mj_17.2.2.2.1
theorem dX8_next_173 : decode cX8_next 173 = .ok (.ifCond .ge 7, 3) := zy_b29mj_17.2.2.2.2.1
theorem dX8_next_176 : decode cX8_next 176 = .ok (.iconst 4, 1) := zy_b29mj_17.2.2.2.2.2.1
theorem dX8_next_177 : decode cX8_next 177 = .ok (.goto 4, 3) := zy_b29mj_17.2.2.2.2.2.2.1
theorem dX8_next_180 : decode cX8_next 180 = .ok (.iconst 1, 1) := zy_b29mj_17.2.2.2.2.2.2.2
theorem zy_b29mj_18 : decode cX8_next 181 = .ok (.putfield 176, 3) ∧ decode cX8_next 184 = .ok (.goto 135, 3) ∧ decode cX8_next 187 = .ok (.iload_n 2, 1) ∧ decode cX8_next 188 = .ok (.i2l, 1) ∧ decode cX8_next 189 = .ok (.ldc2_w 191, 3) ∧ decode cX8_next 192 = .ok (.ldc2_w 193, 3) ∧ decode cX8_next 195 = .ok (.invokestatic 118, 3) ∧ decode cX8_next 198 = .ok (.ifCond .eq 96, 3) := by decide +kernel
theorem dX8_next_181 : decode cX8_next 181 = .ok (.putfield 176, 3) := zy_b29mj_18.1
theorem dX8_next_184 : decode cX8_next 184 = .ok (.goto 135, 3) := zy_b29mj_18.2.1
theorem dX8_next_187 : decode cX8_next 187 = .ok (.iload_n 2, 1) := zy_b29mj_18.2.2.1
theorem dX8_next_188 : decode cX8_next 188 = .ok (.i2l, 1) := zy_b29mj_18.2.2.2.1
theorem dX8_next_189 : decode cX8_next 189 = .ok (.ldc2_w 191, 3) := zy_b29mj_18.2.2.2.2.1
theorem dX8_next_192 : decode cX8_next 192 = .ok (.ldc2_w 193, 3) := zy_b29mj_18.2.2.2.2.2.1
theorem dX8_next_195 : decode cX8_next 195 = .ok (.invokestatic 118, 3) := zy_b29mj_18.2.2.2.2.2.2.1
theorem dX8_next_198 : decode cX8_next 198 = .ok (.ifCond .eq 96, 3) := zy_b29mj_18.2.2.2.2.2.2.2
theorem zy_b29mj_19 : decode cX8_next 201 = .ok (.aload_n 0, 1) ∧ decode cX8_next 202 = .ok (.iconst 2, 1) ∧ decode cX8_next 203 = .ok (.putfield 176, 3) ∧ decode cX8_next 206 = .ok (.aload_n 0, 1) ∧ decode cX8_next 207 = .ok (.iconst 0, 1) ∧ decode cX8_next 208 = .ok (.putfield 188, 3) ∧ decode cX8_next 211 = .ok (.aload_n 0, 1) ∧ decode cX8_next 212 = .ok (.getfield 170, 3) := by decide +kernel
theorem dX8_next_201 : decode cX8_next 201 = .ok (.aload_n 0, 1) := zy_b29mj_19.1
theorem dX8_next_202 : decode cX8_next 202 = .ok (.iconst 2, 1) := zy_b29mj_19.2.1
theorem dX8_next_203 : decode cX8_next 203 = .ok (.putfield 176, 3) := zy_b29mj_19.2.2.1
theorem dX8_next_206 : decode cX8_next 206 = .ok (.aload_n 0, 1) := zy_b29mj_19.2.2.2.1
theorem dX8_next_207 : decode cX8_next 207 = .ok (.iconst 0, 1) := zy_b29mj_19.2.2.2.2.1
theorem dX8_next_208 : decode cX8_next 208 = .ok (.putfield 188, 3) := zy_b29mj_19.2.2.2.2.2.1
theorem dX8_next_211 : decode cX8_next 211 = .ok (.aload_n 0, 1) := zy_b29mj_19.2.2.2.2.2.2.1
theorem dX8_next_212 : decode cX8_next 212 = .ok (.getfield 170, 3) := zy_b29mj_19.2.2.2.2.2.2.2
theorem zy_b29mj_20 : decode cX8_next 215 = .ok (.iload_n 1, 1) ∧ decode cX8_next 216 = .ok (.if_icmp .ge 103, 3) ∧ decode cX8_next 219 = .ok (.aload_n 0, 1) ∧ decode cX8_next 220 = .ok (.getfield 7, 3) ∧ decode cX8_next 223 = .ok (.aload_n 0, 1) ∧ decode cX8_next 224 = .ok (.getfield 170, 3) ∧ decode cX8_next 227 = .ok (.baload, 1) ∧ decode cX8_next 228 = .ok (.i2l, 1) := by decide +kernel
theorem dX8_next_215 : decode cX8_next 215 = .ok (.iload_n 1, 1) := zy_b29mj_20.1
theorem dX8_next_216 : decode cX8_next 216 = .ok (.if_icmp .ge 103, 3) := zy_b29mj_20.2.1
theorem dX8_next_219 : decode cX8_next 219 = .ok (.aload_n 0, 1) := zy_b29mj_20.2.2.1
theorem dX8_next_220 : decode cX8_next 220 = .ok (.getfield 7, 3) := zy_b29mj_20.2.2.2.1
theorem dX8_next_223 : decode cX8_next 223 = .ok (.aload_n 0, 1) := zy_b29mj_20.2.2.2.2.1
theorem dX8_next_224 : decode cX8_next 224 = .ok (.getfield 170, 3) := zy_b29mj_20.2.2.2.2.2.1
theorem dX8_next_227 : decode cX8_next 227 = .ok (.baload, 1) := zy_b29mj_20.2.2.2.2.2.2.1
theorem dX8_next_228 : decode cX8_next 228 = .ok (.i2l, 1) := zy_b29mj_20.2.2.2.2.2.2.2
theorem zy_b29mj_21 : decode cX8_next 229 = .ok (.ldc2_w 191, 3) ∧ decode cX8_next 232 = .ok (.ldc2_w 193, 3) ∧ decode cX8_next 235 = .ok (.invokestatic 118, 3) ∧ decode cX8_next 238 = .ok (.ifCond .eq 81, 3) ∧ decode cX8_next 241 = .ok (.aload_n 0, 1) ∧ decode cX8_next 242 = .ok (.aload_n 0, 1) ∧ decode cX8_next 243 = .ok (.getfield 188, 3) ∧ decode cX8_next 246 = .ok (.ldc 195, 2) := by decide +kernel
theorem dX8_next_229 : decode cX8_next 229 = .ok (.ldc2_w 191, 3) := zy_b29mj_21.1
theorem dX8_next_232 : decode cX8_next 232 = .ok (.ldc2_w 193, 3) := zy_b29mj_21.2.1
theorem dX8_next_235 : decode cX8_next 235 = .ok (.invokestatic 118, 3) := zy_b29mj_21.2.2.1
theorem dX8_next_238 : decode cX8_next 238 = .ok (.ifCond .eq 81, 3) := zy_b29mj_21.2.2.2.1
theorem dX8_next_241 : decode cX8_next 241 = .ok (.aload_n 0, 1) := zy_b29mj_21.2.2.2.2.1
theorem dX8_next_242 : decode cX8_next 242 = .ok (.aload_n 0, 1) := zy_b29mj_21.2.2.2.2.2.1
theorem dX8_next_243 : decode cX8_next 243 = .ok (.getfield 188, 3) := zy_b29mj_21.2.2.2.2.2.2.1
theorem dX8_next_246 : decode cX8_next 246 = .ok (.ldc 195, 2) := zy_b29mj_21.2.2.2.2.2.2.2
theorem zy_b29mj_22 : decode cX8_next 248 = .ok (.if_icmp .le 10, 3) ∧ decode cX8_next 251 = .ok (.aload_n 0, 1) ∧ decode cX8_next 252 = .ok (.getfield 188, 3) ∧ decode cX8_next 255 = .ok (.goto 23, 3) ∧ decode cX8_next 258 = .ok (.bipush 10, 2) ∧ decode cX8_next 260 = .ok (.aload_n 0, 1) ∧ decode cX8_next 261 = .ok (.getfield 188, 3) ∧ decode cX8_next 264 = .ok (.imul, 1) := by decide +kernel
theorem dX8_next_248 : decode cX8_next 248 = .ok (.if_icmp .le 10, 3) := zy_b29mj_22.1
theorem dX8_next_251 : decode cX8_next 251 = .ok (.aload_n 0, 1) := zy_b29mj_22.2.1
theorem dX8_next_252 : decode cX8_next 252 = .ok (.getfield 188, 3) := zy_b29mj_22.2.2.1
theorem dX8_next_255 : decode cX8_next 255 = .ok (.goto 23, 3) := zy_b29mj_22.2.2.2.1
theorem dX8_next_258 : decode cX8_next 258 = .ok (.bipush 10, 2) := zy_b29mj_22.2.2.2.2.1
theorem dX8_next_260 : decode cX8_next 260 = .ok (.aload_n 0, 1) := zy_b29mj_22.2.2.2.2.2.1
theorem dX8_next_261 : decode cX8_next 261 = .ok (.getfield 188, 3) := zy_b29mj_22.2.2.2.2.2.2.1
theorem dX8_next_264 : decode cX8_next 264 = .ok (.imul, 1) := zy_b29mj_22.2.2.2.2.2.2.2
theorem zy_b29mj_23 : decode cX8_next 265 = .ok (.aload_n 0, 1) ∧ decode cX8_next 266 = .ok (.getfield 7, 3) ∧ decode cX8_next 269 = .ok (.aload_n 0, 1) ∧ decode cX8_next 270 = .ok (.getfield 170, 3) ∧ decode cX8_next 273 = .ok (.baload, 1) ∧ decode cX8_next 274 = .ok (.iadd, 1) ∧ decode cX8_next 275 = .ok (.bipush 48, 2) ∧ decode cX8_next 277 = .ok (.isub, 1) := by decide +kernel
theorem dX8_next_265 : decode cX8_next 265 = .ok (.aload_n 0, 1) := zy_b29mj_23.1
theorem dX8_next_266 : decode cX8_next 266 = .ok (.getfield 7, 3) := zy_b29mj_23.2.1
theorem dX8_next_269 : decode cX8_next 269 = .ok (.aload_n 0, 1) := zy_b29mj_23.2.2.1
theorem dX8_next_270 : decode cX8_next 270 = .ok (.getfield 170, 3) := zy_b29mj_23.2.2.2.1
theorem dX8_next_273 : decode cX8_next 273 = .ok (.baload, 1) := zy_b29mj_23.2.2.2.2.1
theorem dX8_next_274 : decode cX8_next 274 = .ok (.iadd, 1) := zy_b29mj_23.2.2.2.2.2.1
theorem dX8_next_275 : decode cX8_next 275 = .ok (.bipush 48, 2) := zy_b29mj_23.2.2.2.2.2.2.1
theorem dX8_next_277 : decode cX8_next 277 = .ok (.isub, 1) := zy_b29mj_23.2.2.2.2.2.2.2
theorem zy_b29mj_24 : decode cX8_next 278 = .ok (.putfield 188, 3) ∧ decode cX8_next 281 = .ok (.aload_n 0, 1) ∧ decode cX8_next 282 = .ok (.dup, 1) ∧ decode cX8_next 283 = .ok (.getfield 170, 3) ∧ decode cX8_next 286 = .ok (.iconst 1, 1) ∧ decode cX8_next 287 = .ok (.iadd, 1) ∧ decode cX8_next 288 = .ok (.putfield 170, 3) ∧ decode cX8_next 291 = .ok (.goto (-80), 3) := by decide +kernel
theorem dX8_next_278 : decode cX8_next 278 = .ok (.putfield 188, 3) := zy_b29mj_24.1
theorem dX8_next_281 : decode cX8_next 281 = .ok (.aload_n 0, 1) := zy_b29mj_24.2.1
theorem dX8_next_282 : decode cX8_next 282 = .ok (.dup, 1) := zy_b29mj_24.2.2.1
theorem dX8_next_283 : decode cX8_next 283 = .ok (.getfield 170, 3) := zy_b29mj_24.2.2.2.1
theorem dX8_next_286 : decode cX8_next 286 = .ok (.iconst 1, 1) := zy_b29mj_24.2.2.2.2.1
theorem dX8_next_287 : decode cX8_next 287 = .ok (.iadd, 1) := zy_b29mj_24.2.2.2.2.2.1
theorem dX8_next_288 : decode cX8_next 288 = .ok (.putfield 170, 3) := zy_b29mj_24.2.2.2.2.2.2.1
theorem dX8_next_291 : decode cX8_next 291 = .ok (.goto (-80), 3) := zy_b29mj_24.2.2.2.2.2.2.2
theorem zy_b29mj_25 : decode cX8_next 294 = .ok (.aload_n 0, 1) ∧ decode cX8_next 295 = .ok (.dup, 1) ∧ decode cX8_next 296 = .ok (.getfield 170, 3) ∧ decode cX8_next 299 = .ok (.iconst 1, 1) ∧ decode cX8_next 300 = .ok (.iadd, 1) ∧ decode cX8_next 301 = .ok (.putfield 170, 3) ∧ decode cX8_next 304 = .ok (.aload_n 0, 1) ∧ decode cX8_next 305 = .ok (.iload_n 2, 1) := by decide +kernel
theorem dX8_next_294 : decode cX8_next 294 = .ok (.aload_n 0, 1) := zy_b29mj_25.1
theorem dX8_next_295 : decode cX8_next 295 = .ok (.dup, 1) := zy_b29mj_25.2.1
theorem dX8_next_296 : decode cX8_next 296 = .ok (.getfield 170, 3) := zy_b29mj_25.2.2.1
theorem dX8_next_299 : decode cX8_next 299 = .ok (.iconst 1, 1) := zy_b29mj_25.2.2.2.1
theorem dX8_next_300 : decode cX8_next 300 = .ok (.iadd, 1) := zy_b29mj_25.2.2.2.2.1
theorem dX8_next_301 : decode cX8_next 301 = .ok (.putfield 170, 3) := zy_b29mj_25.2.2.2.2.2.1
theorem dX8_next_304 : decode cX8_next 304 = .ok (.aload_n 0, 1) := zy_b29mj_25.2.2.2.2.2.2.1
theorem dX8_next_305 : decode cX8_next 305 = .ok (.iload_n 2, 1) := zy_b29mj_25.2.2.2.2.2.2.2
theorem zy_b29mj_26 : decode cX8_next 306 = .ok (.bipush 59, 2) ∧ decode cX8_next 308 = .ok (.if_icmp .ne 7, 3) ∧ decode cX8_next 311 = .ok (.iconst 3, 1) ∧ decode cX8_next 312 = .ok (.goto 4, 3) ∧ decode cX8_next 315 = .ok (.iconst 4, 1) ∧ decode cX8_next 316 = .ok (.putfield 176, 3) ∧ decode cX8_next 319 = .ok (.return_, 1) := by decide +kernel
theorem dX8_next_306 : decode cX8_next 306 = .ok (.bipush 59, 2) := zy_b29mj_26.1
theorem dX8_next_308 : decode cX8_next 308 = .ok (.if_icmp .ne 7, 3) := zy_b29mj_26.2.1
theorem dX8_next_311 : decode cX8_next 311 = .ok (.iconst 3, 1) := zy_b29mj_26.2.2.1
theorem dX8_next_312 : decode cX8_next 312 = .ok (.goto 4, 3) := zy_b29mj_26.2.2.2.1
theorem dX8_next_315 : decode cX8_next 315 = .ok (.iconst 4, 1) := zy_b29mj_26.2.2.2.2.1
theorem dX8_next_316 : decode cX8_next 316 = .ok (.putfield 176, 3) := zy_b29mj_26.2.2.2.2.2.1
theorem dX8_next_319 : decode cX8_next 319 = .ok (.return_, 1) := zy_b29mj_26.2.2.2.2.2.2
