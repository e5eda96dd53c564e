theorem tw_415 : Cond.fieldLink RX8 91 "HandsReturnedModel" "nets" "[I" ∈ zz_all := zz_m3 203 rfl rfl
theorem tw_416 : Cond.fieldLink RX8 94 "HandsReturnedModel" "groups" "[I" ∈ zz_all := zz_m3 204 rfl rfl
theorem tw_417 : Cond.code yX8_least cX8_least 2 (some .int) ∈ zz_all := zz_m5 18 rfl rfl
theorem tw_418 : Cond.methodLink RX8 270 yX8_least ∈ zz_all := zz_m5 16 rfl rfl
theorem tw_419 : Cond.static yX8_least ∈ zz_all := zz_m5 17 rfl rfl
theorem tw_420 : Cond.code yX8_sumOf cX8_sumOf 4 (some .int) ∈ zz_all := zz_m5 22 rfl rfl
theorem tw_421 : Cond.methodLink RX8 273 yX8_sumOf ∈ zz_all := zz_m5 19 rfl rfl
theorem tw_422 : Cond.instanceMethod yX8_sumOf ∈ zz_all := zz_m5 21 rfl rfl
theorem tw_423 : Cond.selects RX8 yX8_sumOf yX8_sumOf ∈ zz_all := zz_ms 56 rfl rfl
theorem zy_b35mm_0 : decode cX8_sumOf 0 = .ok (.iconst 0, 1) ∧ decode cX8_sumOf 1 = .ok (.istore_n 2, 1) ∧ decode cX8_sumOf 2 = .ok (.iconst 0, 1) ∧ decode cX8_sumOf 3 = .ok (.istore_n 3, 1) ∧ decode cX8_sumOf 4 = .ok (.iload_n 3, 1) ∧ decode cX8_sumOf 5 = .ok (.aload_n 0, 1) ∧ decode cX8_sumOf 6 = .ok (.getfield 115, 3) ∧ decode cX8_sumOf 9 = .ok (.if_icmp .ge 31, 3) := by decide +kernel
theorem dX8_sumOf_0 : decode cX8_sumOf 0 = .ok (.iconst 0, 1) := zy_b35mm_0.1
theorem dX8_sumOf_1 : decode cX8_sumOf 1 = .ok (.istore_n 2, 1) := zy_b35mm_0.2.1
theorem dX8_sumOf_2 : decode cX8_sumOf 2 = .ok (.iconst 0, 1) := zy_b35mm_0.2.2.1
theorem dX8_sumOf_3 : decode cX8_sumOf 3 = .ok (.istore_n 3, 1) := zy_b35mm_0.2.2.2.1
theorem dX8_sumOf_4 : decode cX8_sumOf 4 = .ok (.iload_n 3, 1) := zy_b35mm_0.2.2.2.2.1
theorem dX8_sumOf_5 : decode cX8_sumOf 5 = .ok (.aload_n 0, 1) := zy_b35mm_0.2.2.2.2.2.1
theorem dX8_sumOf_6 : decode cX8_sumOf 6 = .ok (.getfield 115, 3) := zy_b35mm_0.2.2.2.2.2.2.1
theorem dX8_sumOf_9 : decode cX8_sumOf 9 = .ok (.if_icmp .ge 31, 3) := zy_b35mm_0.2.2.2.2.2.2.2
theorem zy_b35mm_1 : decode cX8_sumOf 12 = .ok (.iload_n 2, 1) ∧ decode cX8_sumOf 13 = .ok (.iload_n 1, 1) ∧ decode cX8_sumOf 14 = .ok (.iload_n 3, 1) ∧ decode cX8_sumOf 15 = .ok (.ishr, 1) ∧ decode cX8_sumOf 16 = .ok (.iconst 1, 1) ∧ decode cX8_sumOf 17 = .ok (.iand, 1) ∧ decode cX8_sumOf 18 = .ok (.iconst 1, 1) ∧ decode cX8_sumOf 19 = .ok (.if_icmp .ne 12, 3) := by decide +kernel
theorem dX8_sumOf_12 : decode cX8_sumOf 12 = .ok (.iload_n 2, 1) := zy_b35mm_1.1
theorem dX8_sumOf_13 : decode cX8_sumOf 13 = .ok (.iload_n 1, 1) := zy_b35mm_1.2.1
theorem dX8_sumOf_14 : decode cX8_sumOf 14 = .ok (.iload_n 3, 1) := zy_b35mm_1.2.2.1
theorem dX8_sumOf_15 : decode cX8_sumOf 15 = .ok (.ishr, 1) := zy_b35mm_1.2.2.2.1
theorem dX8_sumOf_16 : decode cX8_sumOf 16 = .ok (.iconst 1, 1) := zy_b35mm_1.2.2.2.2.1
theorem dX8_sumOf_17 : decode cX8_sumOf 17 = .ok (.iand, 1) := zy_b35mm_1.2.2.2.2.2.1
theorem dX8_sumOf_18 : decode cX8_sumOf 18 = .ok (.iconst 1, 1) := zy_b35mm_1.2.2.2.2.2.2.1
theorem dX8_sumOf_19 : decode cX8_sumOf 19 = .ok (.if_icmp .ne 12, 3) := zy_b35mm_1.2.2.2.2.2.2.2
theorem zy_b35mm_2 : decode cX8_sumOf 22 = .ok (.aload_n 0, 1) ∧ decode cX8_sumOf 23 = .ok (.getfield 91, 3) ∧ decode cX8_sumOf 26 = .ok (.iload_n 3, 1) ∧ decode cX8_sumOf 27 = .ok (.iaload, 1) ∧ decode cX8_sumOf 28 = .ok (.goto 4, 3) ∧ decode cX8_sumOf 31 = .ok (.iconst 0, 1) ∧ decode cX8_sumOf 32 = .ok (.iadd, 1) ∧ decode cX8_sumOf 33 = .ok (.istore_n 2, 1) := by decide +kernel
theorem dX8_sumOf_22 : decode cX8_sumOf 22 = .ok (.aload_n 0, 1) := zy_b35mm_2.1
theorem dX8_sumOf_23 : decode cX8_sumOf 23 = .ok (.getfield 91, 3) := zy_b35mm_2.2.1
theorem dX8_sumOf_26 : decode cX8_sumOf 26 = .ok (.iload_n 3, 1) := zy_b35mm_2.2.2.1
theorem dX8_sumOf_27 : decode cX8_sumOf 27 = .ok (.iaload, 1) := zy_b35mm_2.2.2.2.1
theorem dX8_sumOf_28 : decode cX8_sumOf 28 = .ok (.goto 4, 3) := zy_b35mm_2.2.2.2.2.1
theorem dX8_sumOf_31 : decode cX8_sumOf 31 = .ok (.iconst 0, 1) := zy_b35mm_2.2.2.2.2.2.1
theorem dX8_sumOf_32 : decode cX8_sumOf 32 = .ok (.iadd, 1) := zy_b35mm_2.2.2.2.2.2.2.1
theorem dX8_sumOf_33 : decode cX8_sumOf 33 = .ok (.istore_n 2, 1) := zy_b35mm_2.2.2.2.2.2.2.2
theorem zy_b35mm_3 : decode cX8_sumOf 34 = .ok (.iinc 3 1, 3) ∧ decode cX8_sumOf 37 = .ok (.goto (-33), 3) ∧ decode cX8_sumOf 40 = .ok (.iload_n 2, 1) ∧ decode cX8_sumOf 41 = .ok (.ireturn, 1) := by decide +kernel
theorem dX8_sumOf_34 : decode cX8_sumOf 34 = .ok (.iinc 3 1, 3) := zy_b35mm_3.1
theorem dX8_sumOf_37 : decode cX8_sumOf 37 = .ok (.goto (-33), 3) := zy_b35mm_3.2.1
theorem dX8_sumOf_40 : decode cX8_sumOf 40 = .ok (.iload_n 2, 1) := zy_b35mm_3.2.2.1
theorem dX8_sumOf_41 : decode cX8_sumOf 41 = .ok (.ireturn, 1) := zy_b35mm_3.2.2.2
theorem zy_b35mm_4 : decode cX8_least 0 = .ok (.iconst 0, 1) ∧ decode cX8_least 1 = .ok (.istore_n 1, 1) ∧ decode cX8_least 2 = .ok (.iload_n 0, 1) ∧ decode cX8_least 3 = .ok (.iload_n 1, 1) ∧ decode cX8_least 4 = .ok (.ishr, 1) ∧ decode cX8_least 5 = .ok (.iconst 1, 1) ∧ decode cX8_least 6 = .ok (.iand, 1) ∧ decode cX8_least 7 = .ok (.ifCond .ne 9, 3) := by decide +kernel
theorem dX8_least_0 : decode cX8_least 0 = .ok (.iconst 0, 1) := zy_b35mm_4.1
theorem dX8_least_1 : decode cX8_least 1 = .ok (.istore_n 1, 1) := zy_b35mm_4.2.1
theorem dX8_least_2 : decode cX8_least 2 = .ok (.iload_n 0, 1) := zy_b35mm_4.2.2.1
theorem dX8_least_3 : decode cX8_least 3 = .ok (.iload_n 1, 1) := zy_b35mm_4.2.2.2.1
theorem dX8_least_4 : decode cX8_least 4 = .ok (.ishr, 1) := zy_b35mm_4.2.2.2.2.1
theorem dX8_least_5 : decode cX8_least 5 = .ok (.iconst 1, 1) := zy_b35mm_4.2.2.2.2.2.1
theorem dX8_least_6 : decode cX8_least 6 = .ok (.iand, 1) := zy_b35mm_4.2.2.2.2.2.2.1
theorem dX8_least_7 : decode cX8_least 7 = .ok (.ifCond .ne 9, 3) := zy_b35mm_4.2.2.2.2.2.2.2
theorem zy_b35mm_5 : decode cX8_least 10 = .ok (.iinc 1 1, 3) ∧ decode cX8_least 13 = .ok (.goto (-11), 3) ∧ decode cX8_least 16 = .ok (.iload_n 1, 1) ∧ decode cX8_least 17 = .ok (.ireturn, 1) := by decide +kernel
theorem dX8_least_10 : decode cX8_least 10 = .ok (.iinc 1 1, 3) := zy_b35mm_5.1
theorem dX8_least_13 : decode cX8_least 13 = .ok (.goto (-11), 3) := zy_b35mm_5.2.1
theorem dX8_least_16 : decode cX8_least 16 = .ok (.iload_n 1, 1) := zy_b35mm_5.2.2.1
theorem dX8_least_17 : decode cX8_least 17 = .ok (.ireturn, 1) := zy_b35mm_5.2.2.2
theorem zy_b35mm_6 : decode cX8_parts 0 = .ok (.aload_n 0, 1) ∧ decode cX8_parts 1 = .ok (.getfield 94, 3) ∧ decode cX8_parts 4 = .ok (.iconst 0, 1) ∧ decode cX8_parts 5 = .ok (.iconst 0, 1) ∧ decode cX8_parts 6 = .ok (.iastore, 1) ∧ decode cX8_parts 7 = .ok (.iconst 1, 1) ∧ decode cX8_parts 8 = .ok (.istore_n 2, 1) ∧ decode cX8_parts 9 = .ok (.iload_n 2, 1) := by decide +kernel
theorem dX8_parts_0 : decode cX8_parts 0 = .ok (.aload_n 0, 1) := zy_b35mm_6.1
theorem dX8_parts_1 : decode cX8_parts 1 = .ok (.getfield 94, 3) := zy_b35mm_6.2.1
theorem dX8_parts_4 : decode cX8_parts 4 = .ok (.iconst 0, 1) := zy_b35mm_6.2.2.1
theorem dX8_parts_5 : decode cX8_parts 5 = .ok (.iconst 0, 1) := zy_b35mm_6.2.2.2.1
theorem dX8_parts_6 : decode cX8_parts 6 = .ok (.iastore, 1) := zy_b35mm_6.2.2.2.2.1
theorem dX8_parts_7 : decode cX8_parts 7 = .ok (.iconst 1, 1) := zy_b35mm_6.2.2.2.2.2.1
theorem dX8_parts_8 : decode cX8_parts 8 = .ok (.istore_n 2, 1) := zy_b35mm_6.2.2.2.2.2.2.1
theorem dX8_parts_9 : decode cX8_parts 9 = .ok (.iload_n 2, 1) := zy_b35mm_6.2.2.2.2.2.2.2
theorem zy_b35mm_7 : decode cX8_parts 10 = .ok (.iload_n 1, 1) ∧ decode cX8_parts 11 = .ok (.if_icmp .gt 114, 3) ∧ decode cX8_parts 14 = .ok (.aload_n 0, 1) ∧ decode cX8_parts 15 = .ok (.getfield 94, 3) ∧ decode cX8_parts 18 = .ok (.iload_n 2, 1) ∧ decode cX8_parts 19 = .ok (.iconst (-1), 1) ∧ decode cX8_parts 20 = .ok (.iastore, 1) ∧ decode cX8_parts 21 = .ok (.iconst 1, 1) := by decide +kernel
theorem dX8_parts_10 : decode cX8_parts 10 = .ok (.iload_n 1, 1) := zy_b35mm_7.1
theorem dX8_parts_11 : decode cX8_parts 11 = .ok (.if_icmp .gt 114, 3) := zy_b35mm_7.2.1
theorem dX8_parts_14 : decode cX8_parts 14 = .ok (.aload_n 0, 1) := zy_b35mm_7.2.2.1
theorem dX8_parts_15 : decode cX8_parts 15 = .ok (.getfield 94, 3) := zy_b35mm_7.2.2.2.1
theorem dX8_parts_18 : decode cX8_parts 18 = .ok (.iload_n 2, 1) := zy_b35mm_7.2.2.2.2.1
theorem dX8_parts_19 : decode cX8_parts 19 = .ok (.iconst (-1), 1) := zy_b35mm_7.2.2.2.2.2.1
theorem dX8_parts_20 : decode cX8_parts 20 = .ok (.iastore, 1) := zy_b35mm_7.2.2.2.2.2.2.1
theorem dX8_parts_21 : decode cX8_parts 21 = .ok (.iconst 1, 1) := zy_b35mm_7.2.2.2.2.2.2.2
theorem zy_b35mm_8 : decode cX8_parts 22 = .ok (.istore_n 3, 1) ∧ decode cX8_parts 23 = .ok (.iload_n 3, 1) ∧ decode cX8_parts 24 = .ok (.iload_n 2, 1) ∧ decode cX8_parts 25 = .ok (.if_icmp .gt 94, 3) ∧ decode cX8_parts 28 = .ok (.iload_n 2, 1) ∧ decode cX8_parts 29 = .ok (.iload_n 1, 1) ∧ decode cX8_parts 30 = .ok (.iand, 1) ∧ decode cX8_parts 31 = .ok (.iload_n 2, 1) := by decide +kernel
theorem dX8_parts_22 : decode cX8_parts 22 = .ok (.istore_n 3, 1) := zy_b35mm_8.1
theorem dX8_parts_23 : decode cX8_parts 23 = .ok (.iload_n 3, 1) := zy_b35mm_8.2.1
theorem dX8_parts_24 : decode cX8_parts 24 = .ok (.iload_n 2, 1) := zy_b35mm_8.2.2.1
theorem dX8_parts_25 : decode cX8_parts 25 = .ok (.if_icmp .gt 94, 3) := zy_b35mm_8.2.2.2.1
theorem dX8_parts_28 : decode cX8_parts 28 = .ok (.iload_n 2, 1) := zy_b35mm_8.2.2.2.2.1
theorem dX8_parts_29 : decode cX8_parts 29 = .ok (.iload_n 1, 1) := zy_b35mm_8.2.2.2.2.2.1
theorem dX8_parts_30 : decode cX8_parts 30 = .ok (.iand, 1) := zy_b35mm_8.2.2.2.2.2.2.1
theorem dX8_parts_31 : decode cX8_parts 31 = .ok (.iload_n 2, 1) := zy_b35mm_8.2.2.2.2.2.2.2
theorem zy_b35mm_9 : decode cX8_parts 32 = .ok (.if_icmp .ne 87, 3) ∧ decode cX8_parts 35 = .ok (.iload_n 3, 1) ∧ decode cX8_parts 36 = .ok (.iload_n 2, 1) ∧ decode cX8_parts 37 = .ok (.iand, 1) ∧ decode cX8_parts 38 = .ok (.iload_n 3, 1) ∧ decode cX8_parts 39 = .ok (.if_icmp .ne 74, 3) ∧ decode cX8_parts 42 = .ok (.iload_n 3, 1) ∧ decode cX8_parts 43 = .ok (.iload_n 2, 1) := by decide +kernel
theorem dX8_parts_32 : decode cX8_parts 32 = .ok (.if_icmp .ne 87, 3) := zy_b35mm_9.1
theorem dX8_parts_35 : decode cX8_parts 35 = .ok (.iload_n 3, 1) := zy_b35mm_9.2.1
theorem dX8_parts_36 : decode cX8_parts 36 = .ok (.iload_n 2, 1) := zy_b35mm_9.2.2.1
theorem dX8_parts_37 : decode cX8_parts 37 = .ok (.iand, 1) := zy_b35mm_9.2.2.2.1
theorem dX8_parts_38 : decode cX8_parts 38 = .ok (.iload_n 3, 1) := zy_b35mm_9.2.2.2.2.1
theorem dX8_parts_39 : decode cX8_parts 39 = .ok (.if_icmp .ne 74, 3) := zy_b35mm_9.2.2.2.2.2.1
theorem dX8_parts_42 : decode cX8_parts 42 = .ok (.iload_n 3, 1) := zy_b35mm_9.2.2.2.2.2.2.1
theorem dX8_parts_43 : decode cX8_parts 43 = .ok (.iload_n 2, 1) := zy_b35mm_9.2.2.2.2.2.2.2
theorem zy_b35mm_10 : decode cX8_parts 44 = .ok (.invokestatic 270, 3) ∧ decode cX8_parts 47 = .ok (.ishr, 1) ∧ decode cX8_parts 48 = .ok (.iconst 1, 1) ∧ decode cX8_parts 49 = .ok (.iand, 1) ∧ decode cX8_parts 50 = .ok (.iconst 1, 1) ∧ decode cX8_parts 51 = .ok (.if_icmp .ne 62, 3) ∧ decode cX8_parts 54 = .ok (.aload_n 0, 1) ∧ decode cX8_parts 55 = .ok (.iload_n 3, 1) := by decide +kernel
theorem dX8_parts_44 : decode cX8_parts 44 = .ok (.invokestatic 270, 3) := zy_b35mm_10.1
theorem dX8_parts_47 : decode cX8_parts 47 = .ok (.ishr, 1) := zy_b35mm_10.2.1
theorem dX8_parts_48 : decode cX8_parts 48 = .ok (.iconst 1, 1) := zy_b35mm_10.2.2.1
theorem dX8_parts_49 : decode cX8_parts 49 = .ok (.iand, 1) := zy_b35mm_10.2.2.2.1
theorem dX8_parts_50 : decode cX8_parts 50 = .ok (.iconst 1, 1) := zy_b35mm_10.2.2.2.2.1
theorem dX8_parts_51 : decode cX8_parts 51 = .ok (.if_icmp .ne 62, 3) := zy_b35mm_10.2.2.2.2.2.1
theorem dX8_parts_54 : decode cX8_parts 54 = .ok (.aload_n 0, 1) := zy_b35mm_10.2.2.2.2.2.2.1
theorem dX8_parts_55 : decode cX8_parts 55 = .ok (.iload_n 3, 1) := zy_b35mm_10.2.2.2.2.2.2.2
theorem zy_b35mm_11 : decode cX8_parts 56 = .ok (.invokevirtual 273, 3) ∧ decode cX8_parts 59 = .ok (.ifCond .ne 54, 3) ∧ decode cX8_parts 62 = .ok (.aload_n 0, 1) ∧ decode cX8_parts 63 = .ok (.getfield 94, 3) ∧ decode cX8_parts 66 = .ok (.iload_n 2, 1) ∧ decode cX8_parts 67 = .ok (.iload_n 3, 1) ∧ decode cX8_parts 68 = .ok (.isub, 1) ∧ decode cX8_parts 69 = .ok (.iaload, 1) := by decide +kernel
theorem dX8_parts_56 : decode cX8_parts 56 = .ok (.invokevirtual 273, 3) := zy_b35mm_11.1
theorem dX8_parts_59 : decode cX8_parts 59 = .ok (.ifCond .ne 54, 3) := zy_b35mm_11.2.1
theorem dX8_parts_62 : decode cX8_parts 62 = .ok (.aload_n 0, 1) := zy_b35mm_11.2.2.1
theorem dX8_parts_63 : decode cX8_parts 63 = .ok (.getfield 94, 3) := zy_b35mm_11.2.2.2.1
theorem dX8_parts_66 : decode cX8_parts 66 = .ok (.iload_n 2, 1) := zy_b35mm_11.2.2.2.2.1
theorem dX8_parts_67 : decode cX8_parts 67 = .ok (.iload_n 3, 1) := zy_b35mm_11.2.2.2.2.2.1
theorem dX8_parts_68 : decode cX8_parts 68 = .ok (.isub, 1) := zy_b35mm_11.2.2.2.2.2.2.1
theorem dX8_parts_69 : decode cX8_parts 69 = .ok (.iaload, 1) := zy_b35mm_11.2.2.2.2.2.2.2
theorem zy_b35mm_12 : decode cX8_parts 70 = .ok (.ifCond .lt 43, 3) ∧ decode cX8_parts 73 = .ok (.aload_n 0, 1) ∧ decode cX8_parts 74 = .ok (.getfield 94, 3) ∧ decode cX8_parts 77 = .ok (.iload_n 2, 1) ∧ decode cX8_parts 78 = .ok (.iload_n 3, 1) ∧ decode cX8_parts 79 = .ok (.isub, 1) ∧ decode cX8_parts 80 = .ok (.iaload, 1) ∧ decode cX8_parts 81 = .ok (.iconst 1, 1) := by decide +kernel
theorem dX8_parts_70 : decode cX8_parts 70 = .ok (.ifCond .lt 43, 3) := zy_b35mm_12.1
theorem dX8_parts_73 : decode cX8_parts 73 = .ok (.aload_n 0, 1) := zy_b35mm_12.2.1
theorem dX8_parts_74 : decode cX8_parts 74 = .ok (.getfield 94, 3) := zy_b35mm_12.2.2.1
theorem dX8_parts_77 : decode cX8_parts 77 = .ok (.iload_n 2, 1) := zy_b35mm_12.2.2.2.1
theorem dX8_parts_78 : decode cX8_parts 78 = .ok (.iload_n 3, 1) := zy_b35mm_12.2.2.2.2.1
theorem dX8_parts_79 : decode cX8_parts 79 = .ok (.isub, 1) := zy_b35mm_12.2.2.2.2.2.1
theorem dX8_parts_80 : decode cX8_parts 80 = .ok (.iaload, 1) := zy_b35mm_12.2.2.2.2.2.2.1
theorem dX8_parts_81 : decode cX8_parts 81 = .ok (.iconst 1, 1) := zy_b35mm_12.2.2.2.2.2.2.2
theorem zy_b35mm_13 : decode cX8_parts 82 = .ok (.iadd, 1) ∧ decode cX8_parts 83 = .ok (.istore 4, 2) ∧ decode cX8_parts 85 = .ok (.aload_n 0, 1) ∧ decode cX8_parts 86 = .ok (.getfield 94, 3) ∧ decode cX8_parts 89 = .ok (.iload_n 2, 1) ∧ decode cX8_parts 90 = .ok (.iload 4, 2) ∧ decode cX8_parts 92 = .ok (.aload_n 0, 1) ∧ decode cX8_parts 93 = .ok (.getfield 94, 3) := by decide +kernel
theorem dX8_parts_82 : decode cX8_parts 82 = .ok (.iadd, 1) := zy_b35mm_13.1
theorem dX8_parts_83 : decode cX8_parts 83 = .ok (.istore 4, 2) := zy_b35mm_13.2.1
theorem dX8_parts_85 : decode cX8_parts 85 = .ok (.aload_n 0, 1) := zy_b35mm_13.2.2.1
theorem dX8_parts_86 : decode cX8_parts 86 = .ok (.getfield 94, 3) := zy_b35mm_13.2.2.2.1
theorem dX8_parts_89 : decode cX8_parts 89 = .ok (.iload_n 2, 1) := zy_b35mm_13.2.2.2.2.1
theorem dX8_parts_90 : decode cX8_parts 90 = .ok (.iload 4, 2) := zy_b35mm_13.2.2.2.2.2.1
theorem dX8_parts_92 : decode cX8_parts 92 = .ok (.aload_n 0, 1) := zy_b35mm_13.2.2.2.2.2.2.1
theorem dX8_parts_93 : decode cX8_parts 93 = .ok (.getfield 94, 3) := zy_b35mm_13.2.2.2.2.2.2.2
theorem zy_b35mm_14 : decode cX8_parts 96 = .ok (.iload_n 2, 1) ∧ decode cX8_parts 97 = .ok (.iaload, 1) ∧ decode cX8_parts 98 = .ok (.if_icmp .le 8, 3) ∧ decode cX8_parts 101 = .ok (.iload 4, 2) ∧ decode cX8_parts 103 = .ok (.goto 9, 3) ∧ decode cX8_parts 106 = .ok (.aload_n 0, 1) ∧ decode cX8_parts 107 = .ok (.getfield 94, 3) ∧ decode cX8_parts 110 = .ok (.iload_n 2, 1) := by decide +kernel
theorem dX8_parts_96 : decode cX8_parts 96 = .ok (.iload_n 2, 1) := zy_b35mm_14.1
theorem dX8_parts_97 : decode cX8_parts 97 = .ok (.iaload, 1) := zy_b35mm_14.2.1
theorem dX8_parts_98 : decode cX8_parts 98 = .ok (.if_icmp .le 8, 3) := zy_b35mm_14.2.2.1
theorem dX8_parts_101 : decode cX8_parts 101 = .ok (.iload 4, 2) := zy_b35mm_14.2.2.2.1
theorem dX8_parts_103 : decode cX8_parts 103 = .ok (.goto 9, 3) := zy_b35mm_14.2.2.2.2.1
theorem dX8_parts_106 : decode cX8_parts 106 = .ok (.aload_n 0, 1) := zy_b35mm_14.2.2.2.2.2.1
theorem dX8_parts_107 : decode cX8_parts 107 = .ok (.getfield 94, 3) := zy_b35mm_14.2.2.2.2.2.2.1
theorem dX8_parts_110 : decode cX8_parts 110 = .ok (.iload_n 2, 1) := zy_b35mm_14.2.2.2.2.2.2.2
theorem zy_b35mm_15 : decode cX8_parts 111 = .ok (.iaload, 1) ∧ decode cX8_parts 112 = .ok (.iastore, 1) ∧ decode cX8_parts 113 = .ok (.iinc 3 1, 3) ∧ decode cX8_parts 116 = .ok (.goto (-93), 3) ∧ decode cX8_parts 119 = .ok (.iinc 2 1, 3) ∧ decode cX8_parts 122 = .ok (.goto (-113), 3) ∧ decode cX8_parts 125 = .ok (.return_, 1) := by decide +kernel
theorem dX8_parts_111 : decode cX8_parts 111 = .ok (.iaload, 1) := zy_b35mm_15.1
theorem dX8_parts_112 : decode cX8_parts 112 = .ok (.iastore, 1) := zy_b35mm_15.2.1
theorem dX8_parts_113 : decode cX8_parts 113 = .ok (.iinc 3 1, 3) := zy_b35mm_15.2.2.1
theorem dX8_parts_116 : decode cX8_parts 116 = .ok (.goto (-93), 3) := zy_b35mm_15.2.2.2.1
theorem dX8_parts_119 : decode cX8_parts 119 = .ok (.iinc 2 1, 3) := zy_b35mm_15.2.2.2.2.1
theorem dX8_parts_122 : decode cX8_parts 122 = .ok (.goto (-113), 3) := zy_b35mm_15.2.2.2.2.2.1
theorem dX8_parts_125 : decode cX8_parts 125 = .ok (.return_, 1) := zy_b35mm_15.2.2.2.2.2.2
set_option maxHeartbeats 4000000 in
set_option maxRecDepth 100000 in
theorem m_net2 (l : Launch) (dC : Nat → ClassId) (dI : Nat → Nat → Nat) (b : Nat → Nat) (gg : Nat → Int32) (mt : Nat) (mc : Nat) (mh : Nat) (mf : Nat) (md : Nat) (pn : Nat) (cI : ClassId) (mo : Nat → Int32) (mr : Nat → Int32) (my : Nat → Int32) (mu : Nat → Int32) (bu : Int) (hou : Nat) (sz : Nat) (hmd : md ≤ 300) (hru : zz_rg mu md 0 bu) (hbu : 0 ≤ bu ∧ bu ≤ 3100000) (hou8 : hou < 8) : Met l yX8_net (zz_w yX8_net cX8_net 4 (some .int)) ({ frames := 0, cells := 0, slots := 0, locals := 0 }) (va_Pc [.ref (b 0), .int (nI hou)] (zz_B (dC, dI) sz [(b 0, .inr (8, [.ref (b 1), .int (nI mt), .int (gg 2), .int (gg 3), .int (gg 4), .int (gg 5), .int (gg 6), .int (gg 7), .int (gg 8), .int (gg 9), .ref (b 11), .ref (b 12), .ref (b 13), .int (nI mc), .int (nI mh), .ref (b 16), .ref (b 17), .ref (b 18), .ref (b 19), .ref (b 20), .ref (b 21), .ref (b 22), .ref (b 23), .ref (b 24), .int (nI mf), .ref (b 26), .ref (b 27), .ref (b 28), .ref (b 29), .ref (b 30), .ref (b 31), .ref (b 32), .int (gg 32), .int (nI md), .ref (b 35), .ref (b 36), .ref (b 37), .ref (b 38), .ref (b 39), .ref (b 40), .int (nI pn), .ref (b 42), .ref (b 43), .ref (b 44), .int (gg 44), .ref (b 46), .ref (b 47), .int (gg 47), .ref (b 49)])), (b 35, .inl (cI, 300, .inl mo)), (b 36, .inl (cI, 300, .inl mr)), (b 37, .inl (cI, 300, .inl my)), (b 38, .inl (cI, 300, .inl mu))] [(cI, .int)])) (va_Qi (fun (r : Int32) (_ : Unit) => r.toInt = zz_nt mo mr mu hou md) (fun _ _ => True) (va_A [] sz)) 0 0 (va_A [] sz) := by
  refine Met.ofW (cc := cX8_net) (maxL := 4) (ret := (some .int)) (by decide) rfl ?_
  intro p e s m args below meth c s₁ B hml hv
  obtain ⟨rfl, hsz, hP, hK, hD0, hN⟩ := hv
  have hx := B.exec
  have hb := B.bytes
  have hr := B.returns
  have hts := atoms_spec (ws := zz_w yX8_net cX8_net 4 (some .int)) B.pre
  have hw : ∀ w ∈ zz_all, w.before _ s = true := fun w h => hts w (List.mem_cons_of_mem _ h)
  have hown : s.vm.findClass RX8 = some m.cls := findClass_of_methodNamed B.named
  have hlocks := B.notSynchronized
  subst hsz
  have hD := hD0
  generalize hAe : va_A [] s.heap.size = A
  have hA : ∀ q : Nat, s.heap.size ≤ q → A q := fun q h => by rw [← hAe]; exact Or.inr h
  have hS : va_S A s.heap s.heap [] := va_S.rf
  have hP : va_P (dC, dI) vwCl [(b 0, .inr (8, [.ref (b 1), .int (nI mt), .int (gg 2), .int (gg 3), .int (gg 4), .int (gg 5), .int (gg 6), .int (gg 7), .int (gg 8), .int (gg 9), .ref (b 11), .ref (b 12), .ref (b 13), .int (nI mc), .int (nI mh), .ref (b 16), .ref (b 17), .ref (b 18), .ref (b 19), .ref (b 20), .ref (b 21), .ref (b 22), .ref (b 23), .ref (b 24), .int (nI mf), .ref (b 26), .ref (b 27), .ref (b 28), .ref (b 29), .ref (b 30), .ref (b 31), .ref (b 32), .int (gg 32), .int (nI md), .ref (b 35), .ref (b 36), .ref (b 37), .ref (b 38), .ref (b 39), .ref (b 40), .int (nI pn), .ref (b 42), .ref (b 43), .ref (b 44), .int (gg 44), .ref (b 46), .ref (b 47), .int (gg 47), .ref (b 49)])), (b 35, .inl (cI, 300, .inl mo)), (b 36, .inl (cI, 300, .inl mr)), (b 37, .inl (cI, 300, .inl my)), (b 38, .inl (cI, 300, .inl mu))] s.heap := hP
  have hl := lv_entry ([.ref (b 0), .int (nI hou)]) (n := 4) (Nat.le_of_ble_eq_true rfl)
  rw [lg_entry_eq]
  generalize (lg_sl ([.ref (b 0), .int (nI hou)]) ++ List.replicate (4 - (lg_sl ([.ref (b 0), .int (nI hou)])).length) Slot.unset).toArray = ls at hl ⊢
  have hl : lv_has ls 4 [(0, .ref (b 0)), (1, .int (nI hou))] := hl
  refine lv_iconst (v := 0) hx hb dX8_net_0 (by decide) ?_
  refine lv_istore_n (lv' := [(2, .int 0), (0, .ref (b 0)), (1, .int (nI hou))]) hx hb dX8_net_1 rfl hl (by decide) rfl (fun ls hl => ?_)
  refine lv_iconst (v := 0) hx hb dX8_net_2 (by decide) ?_
  refine lv_istore_n (lv' := [(3, .int 0), (2, .int 0), (0, .ref (b 0)), (1, .int (nI hou))]) hx hb dX8_net_3 rfl hl (by decide) rfl (fun ls hl => ?_)
  refine zz_loopS (fun (u : (Nat) × (Int32)) => match u with | (j, y) => [(b 0, .inr (8, [.ref (b 1), .int (nI mt), .int (gg 2), .int (gg 3), .int (gg 4), .int (gg 5), .int (gg 6), .int (gg 7), .int (gg 8), .int (gg 9), .ref (b 11), .ref (b 12), .ref (b 13), .int (nI mc), .int (nI mh), .ref (b 16), .ref (b 17), .ref (b 18), .ref (b 19), .ref (b 20), .ref (b 21), .ref (b 22), .ref (b 23), .ref (b 24), .int (nI mf), .ref (b 26), .ref (b 27), .ref (b 28), .ref (b 29), .ref (b 30), .ref (b 31), .ref (b 32), .int (gg 32), .int (nI md), .ref (b 35), .ref (b 36), .ref (b 37), .ref (b 38), .ref (b 39), .ref (b 40), .int (nI pn), .ref (b 42), .ref (b 43), .ref (b 44), .int (gg 44), .ref (b 46), .ref (b 47), .int (gg 47), .ref (b 49)])), (b 35, .inl (cI, 300, .inl mo)), (b 36, .inl (cI, 300, .inl mr)), (b 37, .inl (cI, 300, .inl my)), (b 38, .inl (cI, 300, .inl mu))]) (fun (u : (Nat) × (Int32)) => match u with | (j, y) => [(0, .ref (b 0)), (1, .int (nI hou)), (2, .int y), (3, .int (nI j))]) (fun (u : (Nat) × (Int32)) => match u with | (j, y) => j ≤ md ∧ y.toInt = zz_nt mo mr mu hou j) (fun (u : (Nat) × (Int32)) => match u with | (j, y) => md - j) (fun u hI H locs ls hP hD hS hl ih_4 => ?_) (0, 0) ⟨by omega, by rfl⟩ _ _ _ (hP.sub [0, 1, 2, 3, 4] rfl) (hD.sub [0, 1, 2, 3, 4] (by decide) rfl) hS (lv_sub hl [2, 3, 1, 0] rfl)
  obtain ⟨j, y⟩ := u
  obtain ⟨hP, hD⟩ := zz_ty (D := (dC, dI)) (cl := vwCl) (A := (fun _ => True)) (H := H) [(b 0, .inr (8, [.ref (b 1), .int (nI mt), .int (gg 2), .int (gg 3), .int (gg 4), .int (gg 5), .int (gg 6), .int (gg 7), .int (gg 8), .int (gg 9), .ref (b 11), .ref (b 12), .ref (b 13), .int (nI mc), .int (nI mh), .ref (b 16), .ref (b 17), .ref (b 18), .ref (b 19), .ref (b 20), .ref (b 21), .ref (b 22), .ref (b 23), .ref (b 24), .int (nI mf), .ref (b 26), .ref (b 27), .ref (b 28), .ref (b 29), .ref (b 30), .ref (b 31), .ref (b 32), .int (gg 32), .int (nI md), .ref (b 35), .ref (b 36), .ref (b 37), .ref (b 38), .ref (b 39), .ref (b 40), .int (nI pn), .ref (b 42), .ref (b 43), .ref (b 44), .int (gg 44), .ref (b 46), .ref (b 47), .int (gg 47), .ref (b 49)])), (b 35, .inl (cI, 300, .inl mo)), (b 36, .inl (cI, 300, .inl mr)), (b 37, .inl (cI, 300, .inl my)), (b 38, .inl (cI, 300, .inl mu))] hP hD rfl
  have hl : lv_has ls 4 [(0, .ref (b 0)), (1, .int (nI hou)), (2, .int y), (3, .int (nI j))] := hl
  have hI : j ≤ md ∧ y.toInt = zz_nt mo mr mu hou j := hI
  obtain ⟨ij, iy⟩ := hI
  refine lv_iload_n hx hb dX8_net_4 rfl (lv_at hl 3 rfl) ?_
  refine lv_aload_n hx hb dX8_net_5 rfl (lv_at hl 0 rfl) ?_
  refine va_get (D := (dC, dI)) (ci := 8) (v := .int (nI md)) (C := RX8) (T := TX8) (N := 49) hx hb hw zz_inX8 hown hK hP 0 rfl rfl 33 (by decide) (hw _ tw_206) (fun _ h9 => h9) rfl dX8_net_6 ?_
  refine lv_icmp_ge (tgt := 64) hx hb dX8_net_9 (by decide) (fun c_1 => ?_) (fun c_1 => ?_)
  · have zc_1 := c_1
    rw [Int32.le_iff_toInt_le] at zc_1
    try rw [zz_toInt j (by omega)] at zc_1
    try rw [zz_toInt md (by omega)] at zc_1
    refine lv_iload_n hx hb dX8_net_64 rfl (lv_at hl 2 rfl) ?_
    exact W.iret (v := y) hx hb hr (fun t ht hW => ⟨⟨y, (), rfl, (by rw [show md = j from by omega]; exact iy), trivial⟩, hS.F ht⟩) hS.2.2 dX8_net_65
  · have zc_1 := c_1
    rw [Int32.le_iff_toInt_le] at zc_1
    try rw [zz_toInt j (by omega)] at zc_1
    try rw [zz_toInt md (by omega)] at zc_1
    refine lv_iload_n hx hb dX8_net_12 rfl (lv_at hl 2 rfl) ?_
    refine lv_aload_n hx hb dX8_net_13 rfl (lv_at hl 0 rfl) ?_
    refine va_get (D := (dC, dI)) (ci := 8) (v := .ref (b 36)) (C := RX8) (T := TX8) (N := 49) hx hb hw zz_inX8 hown hK hP 0 rfl rfl 35 (by decide) (hw _ tw_208) (fun _ h9 => h9) rfl dX8_net_14 ?_
    refine lv_iload_n hx hb dX8_net_17 rfl (lv_at hl 3 rfl) ?_
    refine va_iald hx hb hK hP 2 0 rfl rfl (vp_in_iff.mpr (by rw [zz_toInt j (by omega)]; constructor <;> omega)) dX8_net_18 ?_
    refine zz_seti (mr j) (congrArg mr (zz_cl (by omega))) ?_
    refine lv_iload_n hx hb dX8_net_19 rfl (lv_at hl 1 rfl) ?_
    refine lv_icmp_ne (tgt := 32) hx hb dX8_net_20 (by decide) (fun c_2 => ?_) (fun c_2 => ?_)
    · have zc_2 := c_2
      rw [← Int32.toInt_inj] at zc_2
      try rw [zz_toInt hou (by omega)] at zc_2
      refine lv_iconst (v := 0) hx hb dX8_net_32 (by decide) ?_
      refine lv_iadd hx hb dX8_net_33 ?_
      refine lv_istore_n (lv' := [(2, .int (y + 0)), (0, .ref (b 0)), (1, .int (nI hou)), (3, .int (nI j))]) hx hb dX8_net_34 rfl hl (by decide) rfl (fun ls hl => ?_)
      refine lv_iload_n hx hb dX8_net_35 rfl (lv_at hl 0 rfl) ?_
      refine lv_aload_n hx hb dX8_net_36 rfl (lv_at hl 1 rfl) ?_
      refine va_get (D := (dC, dI)) (ci := 8) (v := .ref (b 35)) (C := RX8) (T := TX8) (N := 49) hx hb hw zz_inX8 hown hK hP 0 rfl rfl 34 (by decide) (hw _ tw_207) (fun _ h9 => h9) rfl dX8_net_37 ?_
      refine lv_iload_n hx hb dX8_net_40 rfl (lv_at hl 3 rfl) ?_
      refine va_iald hx hb hK hP 1 0 rfl rfl (vp_in_iff.mpr (by rw [zz_toInt j (by omega)]; constructor <;> omega)) dX8_net_41 ?_
      refine zz_seti (mo j) (congrArg mo (zz_cl (by omega))) ?_
      refine lv_iload_n hx hb dX8_net_42 rfl (lv_at hl 2 rfl) ?_
      refine lv_icmp_ne (tgt := 55) hx hb dX8_net_43 (by decide) (fun c_3 => ?_) (fun c_3 => ?_)
      · have zc_3 := c_3
        rw [← Int32.toInt_inj] at zc_3
        try rw [zz_toInt hou (by omega)] at zc_3
        refine lv_iconst (v := 0) hx hb dX8_net_55 (by decide) ?_
        refine lv_isub hx hb dX8_net_56 ?_
        refine lv_istore_n (lv' := [(2, .int ((y + 0) - 0)), (0, .ref (b 0)), (1, .int (nI hou)), (3, .int (nI j))]) hx hb dX8_net_57 rfl hl (by decide) rfl (fun ls hl => ?_)
        refine lv_iinc (v := (nI (j + 1))) (lv' := [(3, .int (nI (j + 1))), (2, .int ((y + 0) - 0)), (0, .ref (b 0)), (1, .int (nI hou))]) hx hb dX8_net_58 hl (k := 3) rfl (nI_1 _) (by decide) rfl (fun ls hl => ?_)
        refine lv_goto (tgt := 4) hx hb dX8_net_61 (by decide) ?_
        exact ih_4 ((j + 1), ((y + 0) - 0)) ⟨by omega, zz_nt_step hru hbu.2 (by omega) (by omega) iy (by rw [if_neg c_2]; decide) (by rw [if_neg c_3]; decide)⟩ (show md - (j + 1) < md - j from by omega) _ _ _ (hP.sub [0, 1, 2, 3, 4] rfl) (hD.sub [0, 1, 2, 3, 4] (by decide) rfl) hS (lv_sub hl [2, 3, 1, 0] rfl)
      · have zc_3 := c_3
        rw [← Int32.toInt_inj] at zc_3
        try rw [zz_toInt hou (by omega)] at zc_3
        refine lv_aload_n hx hb dX8_net_46 rfl (lv_at hl 1 rfl) ?_
        refine va_get (D := (dC, dI)) (ci := 8) (v := .ref (b 38)) (C := RX8) (T := TX8) (N := 49) hx hb hw zz_inX8 hown hK hP 0 rfl rfl 37 (by decide) (hw _ tw_210) (fun _ h9 => h9) rfl dX8_net_47 ?_
        refine lv_iload_n hx hb dX8_net_50 rfl (lv_at hl 3 rfl) ?_
        refine va_iald hx hb hK hP 4 0 rfl rfl (vp_in_iff.mpr (by rw [zz_toInt j (by omega)]; constructor <;> omega)) dX8_net_51 ?_
        refine zz_seti (mu j) (congrArg mu (zz_cl (by omega))) ?_
        refine lv_goto (tgt := 56) hx hb dX8_net_52 (by decide) ?_
        refine lv_isub hx hb dX8_net_56 ?_
        refine lv_istore_n (lv' := [(2, .int ((y + 0) - (mu j))), (0, .ref (b 0)), (1, .int (nI hou)), (3, .int (nI j))]) hx hb dX8_net_57 rfl hl (by decide) rfl (fun ls hl => ?_)
        refine lv_iinc (v := (nI (j + 1))) (lv' := [(3, .int (nI (j + 1))), (2, .int ((y + 0) - (mu j))), (0, .ref (b 0)), (1, .int (nI hou))]) hx hb dX8_net_58 hl (k := 3) rfl (nI_1 _) (by decide) rfl (fun ls hl => ?_)
        refine lv_goto (tgt := 4) hx hb dX8_net_61 (by decide) ?_
        exact ih_4 ((j + 1), ((y + 0) - (mu j))) ⟨by omega, zz_nt_step hru hbu.2 (by omega) (by omega) iy (by rw [if_neg c_2]; decide) (if_pos c_3).symm⟩ (show md - (j + 1) < md - j from by omega) _ _ _ (hP.sub [0, 1, 2, 3, 4] rfl) (hD.sub [0, 1, 2, 3, 4] (by decide) rfl) hS (lv_sub hl [2, 3, 1, 0] rfl)
    · have zc_2 := c_2
      rw [← Int32.toInt_inj] at zc_2
      try rw [zz_toInt hou (by omega)] at zc_2
      refine lv_aload_n hx hb dX8_net_23 rfl (lv_at hl 0 rfl) ?_
      refine va_get (D := (dC, dI)) (ci := 8) (v := .ref (b 38)) (C := RX8) (T := TX8) (N := 49) hx hb hw zz_inX8 hown hK hP 0 rfl rfl 37 (by decide) (hw _ tw_210) (fun _ h9 => h9) rfl dX8_net_24 ?_
      refine lv_iload_n hx hb dX8_net_27 rfl (lv_at hl 3 rfl) ?_
      refine va_iald hx hb hK hP 4 0 rfl rfl (vp_in_iff.mpr (by rw [zz_toInt j (by omega)]; constructor <;> omega)) dX8_net_28 ?_
      refine zz_seti (mu j) (congrArg mu (zz_cl (by omega))) ?_
      refine lv_goto (tgt := 33) hx hb dX8_net_29 (by decide) ?_
      refine lv_iadd hx hb dX8_net_33 ?_
      refine lv_istore_n (lv' := [(2, .int (y + (mu j))), (0, .ref (b 0)), (1, .int (nI hou)), (3, .int (nI j))]) hx hb dX8_net_34 rfl hl (by decide) rfl (fun ls hl => ?_)
      refine lv_iload_n hx hb dX8_net_35 rfl (lv_at hl 0 rfl) ?_
      refine lv_aload_n hx hb dX8_net_36 rfl (lv_at hl 1 rfl) ?_
      refine va_get (D := (dC, dI)) (ci := 8) (v := .ref (b 35)) (C := RX8) (T := TX8) (N := 49) hx hb hw zz_inX8 hown hK hP 0 rfl rfl 34 (by decide) (hw _ tw_207) (fun _ h9 => h9) rfl dX8_net_37 ?_
      refine lv_iload_n hx hb dX8_net_40 rfl (lv_at hl 3 rfl) ?_
      refine va_iald hx hb hK hP 1 0 rfl rfl (vp_in_iff.mpr (by rw [zz_toInt j (by omega)]; constructor <;> omega)) dX8_net_41 ?_
      refine zz_seti (mo j) (congrArg mo (zz_cl (by omega))) ?_
      refine lv_iload_n hx hb dX8_net_42 rfl (lv_at hl 2 rfl) ?_
      refine lv_icmp_ne (tgt := 55) hx hb dX8_net_43 (by decide) (fun c_4 => ?_) (fun c_4 => ?_)
      · have zc_4 := c_4
        rw [← Int32.toInt_inj] at zc_4
        try rw [zz_toInt hou (by omega)] at zc_4
        refine lv_iconst (v := 0) hx hb dX8_net_55 (by decide) ?_
        refine lv_isub hx hb dX8_net_56 ?_
        refine lv_istore_n (lv' := [(2, .int ((y + (mu j)) - 0)), (0, .ref (b 0)), (1, .int (nI hou)), (3, .int (nI j))]) hx hb dX8_net_57 rfl hl (by decide) rfl (fun ls hl => ?_)
        refine lv_iinc (v := (nI (j + 1))) (lv' := [(3, .int (nI (j + 1))), (2, .int ((y + (mu j)) - 0)), (0, .ref (b 0)), (1, .int (nI hou))]) hx hb dX8_net_58 hl (k := 3) rfl (nI_1 _) (by decide) rfl (fun ls hl => ?_)
        refine lv_goto (tgt := 4) hx hb dX8_net_61 (by decide) ?_
        exact ih_4 ((j + 1), ((y + (mu j)) - 0)) ⟨by omega, zz_nt_step hru hbu.2 (by omega) (by omega) iy (if_pos c_2).symm (by rw [if_neg c_4]; decide)⟩ (show md - (j + 1) < md - j from by omega) _ _ _ (hP.sub [0, 1, 2, 3, 4] rfl) (hD.sub [0, 1, 2, 3, 4] (by decide) rfl) hS (lv_sub hl [2, 3, 1, 0] rfl)
      · have zc_4 := c_4
        rw [← Int32.toInt_inj] at zc_4
        try rw [zz_toInt hou (by omega)] at zc_4
        refine lv_aload_n hx hb dX8_net_46 rfl (lv_at hl 1 rfl) ?_
        refine va_get (D := (dC, dI)) (ci := 8) (v := .ref (b 38)) (C := RX8) (T := TX8) (N := 49) hx hb hw zz_inX8 hown hK hP 0 rfl rfl 37 (by decide) (hw _ tw_210) (fun _ h9 => h9) rfl dX8_net_47 ?_
        refine lv_iload_n hx hb dX8_net_50 rfl (lv_at hl 3 rfl) ?_
        refine va_iald hx hb hK hP 4 0 rfl rfl (vp_in_iff.mpr (by rw [zz_toInt j (by omega)]; constructor <;> omega)) dX8_net_51 ?_
        refine zz_seti (mu j) (congrArg mu (zz_cl (by omega))) ?_
        refine lv_goto (tgt := 56) hx hb dX8_net_52 (by decide) ?_
        refine lv_isub hx hb dX8_net_56 ?_
        refine lv_istore_n (lv' := [(2, .int ((y + (mu j)) - (mu j))), (0, .ref (b 0)), (1, .int (nI hou)), (3, .int (nI j))]) hx hb dX8_net_57 rfl hl (by decide) rfl (fun ls hl => ?_)
        refine lv_iinc (v := (nI (j + 1))) (lv' := [(3, .int (nI (j + 1))), (2, .int ((y + (mu j)) - (mu j))), (0, .ref (b 0)), (1, .int (nI hou))]) hx hb dX8_net_58 hl (k := 3) rfl (nI_1 _) (by decide) rfl (fun ls hl => ?_)
        refine lv_goto (tgt := 4) hx hb dX8_net_61 (by decide) ?_
        exact ih_4 ((j + 1), ((y + (mu j)) - (mu j))) ⟨by omega, zz_nt_step hru hbu.2 (by omega) (by omega) iy (if_pos c_2).symm (if_pos c_4).symm⟩ (show md - (j + 1) < md - j from by omega) _ _ _ (hP.sub [0, 1, 2, 3, 4] rfl) (hD.sub [0, 1, 2, 3, 4] (by decide) rfl) hS (lv_sub hl [2, 3, 1, 0] rfl)
set_option maxHeartbeats 4000000 in
set_option maxRecDepth 100000 in
theorem m_sumOf (l : Launch) (dC : Nat → ClassId) (dI : Nat → Nat → Nat) (b : Nat → Nat) (gg : Nat → Int32) (mt : Nat) (mc : Nat) (mh : Nat) (mf : Nat) (md : Nat) (pn : Nat) (cI : ClassId) (nz : Nat → Int32) (sx : Nat) (sz : Nat) (hmh : mh ≤ 8) (hsx : sx < 256) : Met l yX8_sumOf (zz_w yX8_sumOf cX8_sumOf 4 (some .int)) ({ frames := 0, cells := 0, slots := 0, locals := 0 }) (va_Pc [.ref (b 0), .int (nI sx)] (zz_B (dC, dI) sz [(b 0, .inr (8, [.ref (b 1), .int (nI mt), .int (gg 2), .int (gg 3), .int (gg 4), .int (gg 5), .int (gg 6), .int (gg 7), .int (gg 8), .int (gg 9), .ref (b 11), .ref (b 12), .ref (b 13), .int (nI mc), .int (nI mh), .ref (b 16), .ref (b 17), .ref (b 18), .ref (b 19), .ref (b 20), .ref (b 21), .ref (b 22), .ref (b 23), .ref (b 24), .int (nI mf), .ref (b 26), .ref (b 27), .ref (b 28), .ref (b 29), .ref (b 30), .ref (b 31), .ref (b 32), .int (gg 32), .int (nI md), .ref (b 35), .ref (b 36), .ref (b 37), .ref (b 38), .ref (b 39), .ref (b 40), .int (nI pn), .ref (b 42), .ref (b 43), .ref (b 44), .int (gg 44), .ref (b 46), .ref (b 47), .int (gg 47), .ref (b 49)])), (b 39, .inl (cI, 8, .inl nz))] [(cI, .int)])) (va_Qi (fun (r : Int32) (_ : Unit) => r = Int32.ofInt (zz_is nz sx mh)) (fun _ _ => True) (va_A [] sz)) 0 0 (va_A [] sz) := by
  refine Met.ofW (cc := cX8_sumOf) (maxL := 4) (ret := (some .int)) (by decide) rfl ?_
  intro p e s m args below meth c s₁ B hml hv
  obtain ⟨rfl, hsz, hP, hK, hD0, hN⟩ := hv
  have hx := B.exec
  have hb := B.bytes
  have hr := B.returns
  have hts := atoms_spec (ws := zz_w yX8_sumOf cX8_sumOf 4 (some .int)) B.pre
  have hw : ∀ w ∈ zz_all, w.before _ s = true := fun w h => hts w (List.mem_cons_of_mem _ h)
  have hown : s.vm.findClass RX8 = some m.cls := findClass_of_methodNamed B.named
  have hlocks := B.notSynchronized
  subst hsz
  have hD := hD0
  generalize hAe : va_A [] s.heap.size = A
  have hA : ∀ q : Nat, s.heap.size ≤ q → A q := fun q h => by rw [← hAe]; exact Or.inr h
  have hS : va_S A s.heap s.heap [] := va_S.rf
  have hP : va_P (dC, dI) vwCl [(b 0, .inr (8, [.ref (b 1), .int (nI mt), .int (gg 2), .int (gg 3), .int (gg 4), .int (gg 5), .int (gg 6), .int (gg 7), .int (gg 8), .int (gg 9), .ref (b 11), .ref (b 12), .ref (b 13), .int (nI mc), .int (nI mh), .ref (b 16), .ref (b 17), .ref (b 18), .ref (b 19), .ref (b 20), .ref (b 21), .ref (b 22), .ref (b 23), .ref (b 24), .int (nI mf), .ref (b 26), .ref (b 27), .ref (b 28), .ref (b 29), .ref (b 30), .ref (b 31), .ref (b 32), .int (gg 32), .int (nI md), .ref (b 35), .ref (b 36), .ref (b 37), .ref (b 38), .ref (b 39), .ref (b 40), .int (nI pn), .ref (b 42), .ref (b 43), .ref (b 44), .int (gg 44), .ref (b 46), .ref (b 47), .int (gg 47), .ref (b 49)])), (b 39, .inl (cI, 8, .inl nz))] s.heap := hP
  have hl := lv_entry ([.ref (b 0), .int (nI sx)]) (n := 4) (Nat.le_of_ble_eq_true rfl)
  rw [lg_entry_eq]
  generalize (lg_sl ([.ref (b 0), .int (nI sx)]) ++ List.replicate (4 - (lg_sl ([.ref (b 0), .int (nI sx)])).length) Slot.unset).toArray = ls at hl ⊢
  have hl : lv_has ls 4 [(0, .ref (b 0)), (1, .int (nI sx))] := hl
  refine lv_iconst (v := 0) hx hb dX8_sumOf_0 (by decide) ?_
  refine lv_istore_n (lv' := [(2, .int 0), (0, .ref (b 0)), (1, .int (nI sx))]) hx hb dX8_sumOf_1 rfl hl (by decide) rfl (fun ls hl => ?_)
  refine lv_iconst (v := 0) hx hb dX8_sumOf_2 (by decide) ?_
  refine lv_istore_n (lv' := [(3, .int 0), (2, .int 0), (0, .ref (b 0)), (1, .int (nI sx))]) hx hb dX8_sumOf_3 rfl hl (by decide) rfl (fun ls hl => ?_)
  refine zz_loopS (fun (u : (Nat) × (Int32)) => match u with | (j, y) => [(b 0, .inr (8, [.ref (b 1), .int (nI mt), .int (gg 2), .int (gg 3), .int (gg 4), .int (gg 5), .int (gg 6), .int (gg 7), .int (gg 8), .int (gg 9), .ref (b 11), .ref (b 12), .ref (b 13), .int (nI mc), .int (nI mh), .ref (b 16), .ref (b 17), .ref (b 18), .ref (b 19), .ref (b 20), .ref (b 21), .ref (b 22), .ref (b 23), .ref (b 24), .int (nI mf), .ref (b 26), .ref (b 27), .ref (b 28), .ref (b 29), .ref (b 30), .ref (b 31), .ref (b 32), .int (gg 32), .int (nI md), .ref (b 35), .ref (b 36), .ref (b 37), .ref (b 38), .ref (b 39), .ref (b 40), .int (nI pn), .ref (b 42), .ref (b 43), .ref (b 44), .int (gg 44), .ref (b 46), .ref (b 47), .int (gg 47), .ref (b 49)])), (b 39, .inl (cI, 8, .inl nz))]) (fun (u : (Nat) × (Int32)) => match u with | (j, y) => [(0, .ref (b 0)), (1, .int (nI sx)), (2, .int y), (3, .int (nI j))]) (fun (u : (Nat) × (Int32)) => match u with | (j, y) => j ≤ mh ∧ y = Int32.ofInt (zz_is nz sx j)) (fun (u : (Nat) × (Int32)) => match u with | (j, y) => mh - j) (fun u hI H locs ls hP hD hS hl ih_4 => ?_) (0, 0) ⟨by omega, zz_oi_0⟩ _ _ _ (hP.sub [0, 1] rfl) (hD.sub [0, 1] (by decide) rfl) hS (lv_sub hl [2, 3, 1, 0] rfl)
  obtain ⟨j, y⟩ := u
  obtain ⟨hP, hD⟩ := zz_ty (D := (dC, dI)) (cl := vwCl) (A := (fun _ => True)) (H := H) [(b 0, .inr (8, [.ref (b 1), .int (nI mt), .int (gg 2), .int (gg 3), .int (gg 4), .int (gg 5), .int (gg 6), .int (gg 7), .int (gg 8), .int (gg 9), .ref (b 11), .ref (b 12), .ref (b 13), .int (nI mc), .int (nI mh), .ref (b 16), .ref (b 17), .ref (b 18), .ref (b 19), .ref (b 20), .ref (b 21), .ref (b 22), .ref (b 23), .ref (b 24), .int (nI mf), .ref (b 26), .ref (b 27), .ref (b 28), .ref (b 29), .ref (b 30), .ref (b 31), .ref (b 32), .int (gg 32), .int (nI md), .ref (b 35), .ref (b 36), .ref (b 37), .ref (b 38), .ref (b 39), .ref (b 40), .int (nI pn), .ref (b 42), .ref (b 43), .ref (b 44), .int (gg 44), .ref (b 46), .ref (b 47), .int (gg 47), .ref (b 49)])), (b 39, .inl (cI, 8, .inl nz))] hP hD rfl
  have hl : lv_has ls 4 [(0, .ref (b 0)), (1, .int (nI sx)), (2, .int y), (3, .int (nI j))] := hl
  have hI : j ≤ mh ∧ y = Int32.ofInt (zz_is nz sx j) := hI
  obtain ⟨ij, iy⟩ := hI
  refine lv_iload_n hx hb dX8_sumOf_4 rfl (lv_at hl 3 rfl) ?_
  refine lv_aload_n hx hb dX8_sumOf_5 rfl (lv_at hl 0 rfl) ?_
  refine va_get (D := (dC, dI)) (ci := 8) (v := .int (nI mh)) (C := RX8) (T := TX8) (N := 49) hx hb hw zz_inX8 hown hK hP 0 rfl rfl 14 (by decide) (hw _ tw_182) (fun _ h9 => h9) rfl dX8_sumOf_6 ?_
  refine lv_icmp_ge (tgt := 40) hx hb dX8_sumOf_9 (by decide) (fun c_1 => ?_) (fun c_1 => ?_)
  · have zc_1 := c_1
    rw [Int32.le_iff_toInt_le] at zc_1
    try rw [zz_toInt j (by omega)] at zc_1
    try rw [zz_toInt mh (by omega)] at zc_1
    refine lv_iload_n hx hb dX8_sumOf_40 rfl (lv_at hl 2 rfl) ?_
    exact W.iret (v := y) hx hb hr (fun t ht hW => ⟨⟨y, (), rfl, (by rw [show mh = j from by omega]; exact iy), trivial⟩, hS.F ht⟩) hS.2.2 dX8_sumOf_41
  · have zc_1 := c_1
    rw [Int32.le_iff_toInt_le] at zc_1
    try rw [zz_toInt j (by omega)] at zc_1
    try rw [zz_toInt mh (by omega)] at zc_1
    refine lv_iload_n hx hb dX8_sumOf_12 rfl (lv_at hl 2 rfl) ?_
    refine lv_iload_n hx hb dX8_sumOf_13 rfl (lv_at hl 1 rfl) ?_
    refine lv_iload_n hx hb dX8_sumOf_14 rfl (lv_at hl 3 rfl) ?_
    refine lv_ishr hx hb dX8_sumOf_15 ?_
    refine lv_iconst (v := 1) hx hb dX8_sumOf_16 (by decide) ?_
    refine lv_iand hx hb dX8_sumOf_17 ?_
    rcases zz_bitc sx (by omega) j (by omega) with ⟨hb_2, eb_2⟩ | ⟨hb_2, eb_2⟩
    · refine zz_seti 1 eb_2 ?_
      refine lv_iconst (v := 1) hx hb dX8_sumOf_18 (by decide) ?_
      refine lv_icmp_ne (tgt := 31) hx hb dX8_sumOf_19 (by decide) (fun c_9 => absurd c_9 (by decide)) (fun _ => ?_)
      refine lv_aload_n hx hb dX8_sumOf_22 rfl (lv_at hl 0 rfl) ?_
      refine va_get (D := (dC, dI)) (ci := 8) (v := .ref (b 39)) (C := RX8) (T := TX8) (N := 49) hx hb hw zz_inX8 hown hK hP 0 rfl rfl 38 (by decide) (hw _ tw_415) (fun _ h9 => h9) rfl dX8_sumOf_23 ?_
      refine lv_iload_n hx hb dX8_sumOf_26 rfl (lv_at hl 3 rfl) ?_
      refine va_iald hx hb hK hP 1 0 rfl rfl (vp_in_iff.mpr (by rw [zz_toInt j (by omega)]; constructor <;> omega)) dX8_sumOf_27 ?_
      refine zz_seti (nz j) (congrArg nz (zz_cl (by omega))) ?_
      refine lv_goto (tgt := 32) hx hb dX8_sumOf_28 (by decide) ?_
      refine lv_iadd hx hb dX8_sumOf_32 ?_
      refine lv_istore_n (lv' := [(2, .int (y + (nz j))), (0, .ref (b 0)), (1, .int (nI sx)), (3, .int (nI j))]) hx hb dX8_sumOf_33 rfl hl (by decide) rfl (fun ls hl => ?_)
      refine lv_iinc (v := (nI (j + 1))) (lv' := [(3, .int (nI (j + 1))), (2, .int (y + (nz j))), (0, .ref (b 0)), (1, .int (nI sx))]) hx hb dX8_sumOf_34 hl (k := 3) rfl (nI_1 _) (by decide) rfl (fun ls hl => ?_)
      refine lv_goto (tgt := 4) hx hb dX8_sumOf_37 (by decide) ?_
      exact ih_4 ((j + 1), (y + (nz j))) ⟨by omega, (by rw [iy, zz_is, if_pos hb_2]; exact zz_oi_add)⟩ (show mh - (j + 1) < mh - j from by omega) _ _ _ (hP.sub [0, 1] rfl) (hD.sub [0, 1] (by decide) rfl) hS (lv_sub hl [2, 3, 1, 0] rfl)
    · refine zz_seti 0 eb_2 ?_
      refine lv_iconst (v := 1) hx hb dX8_sumOf_18 (by decide) ?_
      refine lv_icmp_ne (tgt := 31) hx hb dX8_sumOf_19 (by decide) (fun _ => ?_) (fun c_9 => absurd c_9 (by decide))
      refine lv_iconst (v := 0) hx hb dX8_sumOf_31 (by decide) ?_
      refine lv_iadd hx hb dX8_sumOf_32 ?_
      refine lv_istore_n (lv' := [(2, .int (y + 0)), (0, .ref (b 0)), (1, .int (nI sx)), (3, .int (nI j))]) hx hb dX8_sumOf_33 rfl hl (by decide) rfl (fun ls hl => ?_)
      refine lv_iinc (v := (nI (j + 1))) (lv' := [(3, .int (nI (j + 1))), (2, .int (y + 0)), (0, .ref (b 0)), (1, .int (nI sx))]) hx hb dX8_sumOf_34 hl (k := 3) rfl (nI_1 _) (by decide) rfl (fun ls hl => ?_)
      refine lv_goto (tgt := 4) hx hb dX8_sumOf_37 (by decide) ?_
      exact ih_4 ((j + 1), (y + 0)) ⟨by omega, (by rw [iy, zz_is, if_neg (by rw [hb_2]; decide), Int.add_zero]; exact Int32.add_zero _)⟩ (show mh - (j + 1) < mh - j from by omega) _ _ _ (hP.sub [0, 1] rfl) (hD.sub [0, 1] (by decide) rfl) hS (lv_sub hl [2, 3, 1, 0] rfl)
set_option maxHeartbeats 4000000 in
set_option maxRecDepth 100000 in
theorem m_least (l : Launch) (dC : Nat → ClassId) (dI : Nat → Nat → Nat) (sx : Nat) (sz : Nat) (hsx : sx < 256) (h1x : 1 ≤ sx) : Met l yX8_least (zz_w yX8_least cX8_least 2 (some .int)) ({ frames := 0, cells := 0, slots := 0, locals := 0 }) (va_Pc [.int (nI sx)] (zz_B (dC, dI) sz [] [])) (va_Qi (fun (r : Int32) (_ : Unit) => r = nI (zz_ls sx)) (fun _ _ => True) (va_A [] sz)) 0 0 (va_A [] sz) := by
  refine Met.ofW (cc := cX8_least) (maxL := 2) (ret := (some .int)) (by decide) rfl ?_
  intro p e s m args below meth c s₁ B hml hv
  obtain ⟨rfl, hsz, hP, hK, hD0, hN⟩ := hv
  have hx := B.exec
  have hb := B.bytes
  have hr := B.returns
  have hts := atoms_spec (ws := zz_w yX8_least cX8_least 2 (some .int)) B.pre
  have hw : ∀ w ∈ zz_all, w.before _ s = true := fun w h => hts w (List.mem_cons_of_mem _ h)
  have hown : s.vm.findClass RX8 = some m.cls := findClass_of_methodNamed B.named
  have hlocks := B.notSynchronized
  subst hsz
  have hD := hD0
  generalize hAe : va_A [] s.heap.size = A
  have hA : ∀ q : Nat, s.heap.size ≤ q → A q := fun q h => by rw [← hAe]; exact Or.inr h
  have hS : va_S A s.heap s.heap [] := va_S.rf
  have hP : va_P (dC, dI) vwCl [] s.heap := hP
  have hl := lv_entry ([.int (nI sx)]) (n := 2) (Nat.le_of_ble_eq_true rfl)
  rw [lg_entry_eq]
  generalize (lg_sl ([.int (nI sx)]) ++ List.replicate (2 - (lg_sl ([.int (nI sx)])).length) Slot.unset).toArray = ls at hl ⊢
  have hl : lv_has ls 2 [(0, .int (nI sx))] := hl
  refine lv_iconst (v := 0) hx hb dX8_least_0 (by decide) ?_
  refine lv_istore_n (lv' := [(1, .int 0), (0, .int (nI sx))]) hx hb dX8_least_1 rfl hl (by decide) rfl (fun ls hl => ?_)
  refine zz_loopS (fun (k : (Nat)) => []) (fun (k : (Nat)) => [(0, .int (nI sx)), (1, .int (nI k))]) (fun (k : (Nat)) => k ≤ 7 ∧ ∀ i : Nat, i < k → sx.testBit i = false) (fun (k : (Nat)) => 8 - k) (fun u hI H locs ls hP hD hS hl ih_2 => ?_) 0 ⟨by omega, fun i h => absurd h (by omega)⟩ _ _ _ (hP.sub [] rfl) (hD.sub [] (by decide) rfl) hS (lv_sub hl [1, 0] rfl)
  obtain ⟨k, rfl⟩ : ∃ z, z = u := ⟨_, rfl⟩
  obtain ⟨hP, hD⟩ := zz_ty (D := (dC, dI)) (cl := vwCl) (A := (fun _ => True)) (H := H) [] hP hD rfl
  have hl : lv_has ls 2 [(0, .int (nI sx)), (1, .int (nI k))] := hl
  have hI : k ≤ 7 ∧ ∀ i : Nat, i < k → sx.testBit i = false := hI
  obtain ⟨ik, ib⟩ := hI
  refine lv_iload_n hx hb dX8_least_2 rfl (lv_at hl 0 rfl) ?_
  refine lv_iload_n hx hb dX8_least_3 rfl (lv_at hl 1 rfl) ?_
  refine lv_ishr hx hb dX8_least_4 ?_
  refine lv_iconst (v := 1) hx hb dX8_least_5 (by decide) ?_
  refine lv_iand hx hb dX8_least_6 ?_
  rcases zz_bitc sx (by omega) k (by omega) with ⟨hb_1, eb_1⟩ | ⟨hb_1, eb_1⟩
  · refine zz_seti 1 eb_1 ?_
    refine lv_if_ne (tgt := 16) hx hb dX8_least_7 (by decide) (fun _ => ?_) (fun c_9 => absurd c_9 (by decide))
    refine lv_iload_n hx hb dX8_least_16 rfl (lv_at hl 1 rfl) ?_
    exact W.iret (v := (nI k)) hx hb hr (fun t ht hW => ⟨⟨(nI k), (), rfl, (by rw [zz_ls_eq (by omega) ib hb_1]), trivial⟩, hS.F ht⟩) hS.2.2 dX8_least_17
  · refine zz_seti 0 eb_1 ?_
    refine lv_if_ne (tgt := 16) hx hb dX8_least_7 (by decide) (fun c_9 => absurd c_9 (by decide)) (fun _ => ?_)
    refine lv_iinc (v := (nI (k + 1))) (lv' := [(1, .int (nI (k + 1))), (0, .int (nI sx))]) hx hb dX8_least_10 hl (k := 1) rfl (nI_1 _) (by decide) rfl (fun ls hl => ?_)
    refine lv_goto (tgt := 2) hx hb dX8_least_13 (by decide) ?_
    exact ih_2 (k + 1) ⟨zz_ls_7 hsx h1x ik (zz_ls_ext ib hb_1), zz_ls_ext ib hb_1⟩ (show 8 - (k + 1) < 8 - k from by omega) _ _ _ (hP.sub [] rfl) (hD.sub [] (by decide) rfl) hS (lv_sub hl [1, 0] rfl)
set_option maxHeartbeats 4000000 in
set_option maxRecDepth 100000 in
theorem m_parts (l : Launch) (dC : Nat → ClassId) (dI : Nat → Nat → Nat) (b : Nat → Nat) (gg : Nat → Int32) (mt : Nat) (mc : Nat) (mh : Nat) (mf : Nat) (md : Nat) (pn : Nat) (cI : ClassId) (nz : Nat → Int32) (gr : Nat → Int32) (sx : Nat) (sz : Nat) (hmh : mh ≤ 8) (hsx : sx < 256) : Met l yX8_parts (zz_w yX8_parts cX8_parts 5 none) ({ frames := 1, cells := 0, slots := 0, locals := 23 }) (va_Pc [.ref (b 0), .int (nI sx)] (zz_B (dC, dI) sz [(b 0, .inr (8, [.ref (b 1), .int (nI mt), .int (gg 2), .int (gg 3), .int (gg 4), .int (gg 5), .int (gg 6), .int (gg 7), .int (gg 8), .int (gg 9), .ref (b 11), .ref (b 12), .ref (b 13), .int (nI mc), .int (nI mh), .ref (b 16), .ref (b 17), .ref (b 18), .ref (b 19), .ref (b 20), .ref (b 21), .ref (b 22), .ref (b 23), .ref (b 24), .int (nI mf), .ref (b 26), .ref (b 27), .ref (b 28), .ref (b 29), .ref (b 30), .ref (b 31), .ref (b 32), .int (gg 32), .int (nI md), .ref (b 35), .ref (b 36), .ref (b 37), .ref (b 38), .ref (b 39), .ref (b 40), .int (nI pn), .ref (b 42), .ref (b 43), .ref (b 44), .int (gg 44), .ref (b 46), .ref (b 47), .int (gg 47), .ref (b 49)])), (b 39, .inl (cI, 8, .inl nz)), (b 40, .inl (cI, 256, .inl gr))] [(cI, .int)])) (va_Qv (fun (g2 : Nat → Int32) => zz_gp nz g2 mh sx (sx + 1)) (fun (u0 : Nat → Int32) (t : State) => va_P (dC, dI) vwCl [(b 0, .inr (8, [.ref (b 1), .int (nI mt), .int (gg 2), .int (gg 3), .int (gg 4), .int (gg 5), .int (gg 6), .int (gg 7), .int (gg 8), .int (gg 9), .ref (b 11), .ref (b 12), .ref (b 13), .int (nI mc), .int (nI mh), .ref (b 16), .ref (b 17), .ref (b 18), .ref (b 19), .ref (b 20), .ref (b 21), .ref (b 22), .ref (b 23), .ref (b 24), .int (nI mf), .ref (b 26), .ref (b 27), .ref (b 28), .ref (b 29), .ref (b 30), .ref (b 31), .ref (b 32), .int (gg 32), .int (nI md), .ref (b 35), .ref (b 36), .ref (b 37), .ref (b 38), .ref (b 39), .ref (b 40), .int (nI pn), .ref (b 42), .ref (b 43), .ref (b 44), .int (gg 44), .ref (b 46), .ref (b 47), .int (gg 47), .ref (b 49)])), (b 39, .inl (cI, 8, .inl nz)), (b 40, .inl (cI, 256, .inl u0))] t.heap ∧ va_K (dC, dI) vwCl [(cI, .int)] t ∧ va_D (va_A [(b 0, .inr (8, [.ref (b 1), .int (nI mt), .int (gg 2), .int (gg 3), .int (gg 4), .int (gg 5), .int (gg 6), .int (gg 7), .int (gg 8), .int (gg 9), .ref (b 11), .ref (b 12), .ref (b 13), .int (nI mc), .int (nI mh), .ref (b 16), .ref (b 17), .ref (b 18), .ref (b 19), .ref (b 20), .ref (b 21), .ref (b 22), .ref (b 23), .ref (b 24), .int (nI mf), .ref (b 26), .ref (b 27), .ref (b 28), .ref (b 29), .ref (b 30), .ref (b 31), .ref (b 32), .int (gg 32), .int (nI md), .ref (b 35), .ref (b 36), .ref (b 37), .ref (b 38), .ref (b 39), .ref (b 40), .int (nI pn), .ref (b 42), .ref (b 43), .ref (b 44), .int (gg 44), .ref (b 46), .ref (b 47), .int (gg 47), .ref (b 49)])), (b 39, .inl (cI, 8, .inl nz)), (b 40, .inl (cI, 256, .inl gr))] sz) [(b 0, .inr (8, [.ref (b 1), .int (nI mt), .int (gg 2), .int (gg 3), .int (gg 4), .int (gg 5), .int (gg 6), .int (gg 7), .int (gg 8), .int (gg 9), .ref (b 11), .ref (b 12), .ref (b 13), .int (nI mc), .int (nI mh), .ref (b 16), .ref (b 17), .ref (b 18), .ref (b 19), .ref (b 20), .ref (b 21), .ref (b 22), .ref (b 23), .ref (b 24), .int (nI mf), .ref (b 26), .ref (b 27), .ref (b 28), .ref (b 29), .ref (b 30), .ref (b 31), .ref (b 32), .int (gg 32), .int (nI md), .ref (b 35), .ref (b 36), .ref (b 37), .ref (b 38), .ref (b 39), .ref (b 40), .int (nI pn), .ref (b 42), .ref (b 43), .ref (b 44), .int (gg 44), .ref (b 46), .ref (b 47), .int (gg 47), .ref (b 49)])), (b 39, .inl (cI, 8, .inl nz)), (b 40, .inl (cI, 256, .inl u0))]) (va_A [(b 0, .inr (8, [.ref (b 1), .int (nI mt), .int (gg 2), .int (gg 3), .int (gg 4), .int (gg 5), .int (gg 6), .int (gg 7), .int (gg 8), .int (gg 9), .ref (b 11), .ref (b 12), .ref (b 13), .int (nI mc), .int (nI mh), .ref (b 16), .ref (b 17), .ref (b 18), .ref (b 19), .ref (b 20), .ref (b 21), .ref (b 22), .ref (b 23), .ref (b 24), .int (nI mf), .ref (b 26), .ref (b 27), .ref (b 28), .ref (b 29), .ref (b 30), .ref (b 31), .ref (b 32), .int (gg 32), .int (nI md), .ref (b 35), .ref (b 36), .ref (b 37), .ref (b 38), .ref (b 39), .ref (b 40), .int (nI pn), .ref (b 42), .ref (b 43), .ref (b 44), .int (gg 44), .ref (b 46), .ref (b 47), .int (gg 47), .ref (b 49)])), (b 39, .inl (cI, 8, .inl nz)), (b 40, .inl (cI, 256, .inl gr))] sz)) 0 0 (va_A [(b 0, .inr (8, [.ref (b 1), .int (nI mt), .int (gg 2), .int (gg 3), .int (gg 4), .int (gg 5), .int (gg 6), .int (gg 7), .int (gg 8), .int (gg 9), .ref (b 11), .ref (b 12), .ref (b 13), .int (nI mc), .int (nI mh), .ref (b 16), .ref (b 17), .ref (b 18), .ref (b 19), .ref (b 20), .ref (b 21), .ref (b 22), .ref (b 23), .ref (b 24), .int (nI mf), .ref (b 26), .ref (b 27), .ref (b 28), .ref (b 29), .ref (b 30), .ref (b 31), .ref (b 32), .int (gg 32), .int (nI md), .ref (b 35), .ref (b 36), .ref (b 37), .ref (b 38), .ref (b 39), .ref (b 40), .int (nI pn), .ref (b 42), .ref (b 43), .ref (b 44), .int (gg 44), .ref (b 46), .ref (b 47), .int (gg 47), .ref (b 49)])), (b 39, .inl (cI, 8, .inl nz)), (b 40, .inl (cI, 256, .inl gr))] sz) := by
  refine Met.ofW (cc := cX8_parts) (maxL := 5) (ret := none) (by decide) rfl ?_
  intro p e s m args below meth c s₁ B hml hv
  obtain ⟨rfl, hsz, hP, hK, hD0, hN⟩ := hv
  have hx := B.exec
  have hb := B.bytes
  have hr := B.returns
  have hts := atoms_spec (ws := zz_w yX8_parts cX8_parts 5 none) B.pre
  have hw : ∀ w ∈ zz_all, w.before _ s = true := fun w h => hts w (List.mem_cons_of_mem _ h)
  have hown : s.vm.findClass RX8 = some m.cls := findClass_of_methodNamed B.named
  have hlocks := B.notSynchronized
  subst hsz
  have hD := hD0.self (sz := s.heap.size)
  generalize hAe : va_A [(b 0, .inr (8, [.ref (b 1), .int (nI mt), .int (gg 2), .int (gg 3), .int (gg 4), .int (gg 5), .int (gg 6), .int (gg 7), .int (gg 8), .int (gg 9), .ref (b 11), .ref (b 12), .ref (b 13), .int (nI mc), .int (nI mh), .ref (b 16), .ref (b 17), .ref (b 18), .ref (b 19), .ref (b 20), .ref (b 21), .ref (b 22), .ref (b 23), .ref (b 24), .int (nI mf), .ref (b 26), .ref (b 27), .ref (b 28), .ref (b 29), .ref (b 30), .ref (b 31), .ref (b 32), .int (gg 32), .int (nI md), .ref (b 35), .ref (b 36), .ref (b 37), .ref (b 38), .ref (b 39), .ref (b 40), .int (nI pn), .ref (b 42), .ref (b 43), .ref (b 44), .int (gg 44), .ref (b 46), .ref (b 47), .int (gg 47), .ref (b 49)])), (b 39, .inl (cI, 8, .inl nz)), (b 40, .inl (cI, 256, .inl gr))] s.heap.size = A at hD ⊢
  have hA : ∀ q : Nat, s.heap.size ≤ q → A q := fun q h => by rw [← hAe]; exact Or.inr h
  have hS : va_S A s.heap s.heap [] := va_S.rf
  have hP : va_P (dC, dI) vwCl [(b 0, .inr (8, [.ref (b 1), .int (nI mt), .int (gg 2), .int (gg 3), .int (gg 4), .int (gg 5), .int (gg 6), .int (gg 7), .int (gg 8), .int (gg 9), .ref (b 11), .ref (b 12), .ref (b 13), .int (nI mc), .int (nI mh), .ref (b 16), .ref (b 17), .ref (b 18), .ref (b 19), .ref (b 20), .ref (b 21), .ref (b 22), .ref (b 23), .ref (b 24), .int (nI mf), .ref (b 26), .ref (b 27), .ref (b 28), .ref (b 29), .ref (b 30), .ref (b 31), .ref (b 32), .int (gg 32), .int (nI md), .ref (b 35), .ref (b 36), .ref (b 37), .ref (b 38), .ref (b 39), .ref (b 40), .int (nI pn), .ref (b 42), .ref (b 43), .ref (b 44), .int (gg 44), .ref (b 46), .ref (b 47), .int (gg 47), .ref (b 49)])), (b 39, .inl (cI, 8, .inl nz)), (b 40, .inl (cI, 256, .inl gr))] s.heap := hP
  have hl := lv_entry ([.ref (b 0), .int (nI sx)]) (n := 5) (Nat.le_of_ble_eq_true rfl)
  rw [lg_entry_eq]
  generalize (lg_sl ([.ref (b 0), .int (nI sx)]) ++ List.replicate (5 - (lg_sl ([.ref (b 0), .int (nI sx)])).length) Slot.unset).toArray = ls at hl ⊢
  have hl : lv_has ls 5 [(0, .ref (b 0)), (1, .int (nI sx))] := hl
  refine lv_aload_n hx hb dX8_parts_0 rfl (lv_at hl 0 rfl) ?_
  refine va_get (D := (dC, dI)) (ci := 8) (v := .ref (b 40)) (C := RX8) (T := TX8) (N := 49) hx hb hw zz_inX8 hown hK hP 0 rfl rfl 39 (by decide) (hw _ tw_416) (fun _ h9 => h9) rfl dX8_parts_1 ?_
  refine lv_iconst (v := 0) hx hb dX8_parts_4 (by decide) ?_
  refine lv_iconst (v := 0) hx hb dX8_parts_5 (by decide) ?_
  refine va_iast hx hb hK hP hD hS 2 0 rfl rfl (zz_vin (by decide)) dX8_parts_6 (fun H locs hP hD hS => ?_)
  obtain ⟨hP, hD⟩ := zz_ty (D := (dC, dI)) (cl := vwCl) (A := A) (H := H) [(b 0, .inr (8, [.ref (b 1), .int (nI mt), .int (gg 2), .int (gg 3), .int (gg 4), .int (gg 5), .int (gg 6), .int (gg 7), .int (gg 8), .int (gg 9), .ref (b 11), .ref (b 12), .ref (b 13), .int (nI mc), .int (nI mh), .ref (b 16), .ref (b 17), .ref (b 18), .ref (b 19), .ref (b 20), .ref (b 21), .ref (b 22), .ref (b 23), .ref (b 24), .int (nI mf), .ref (b 26), .ref (b 27), .ref (b 28), .ref (b 29), .ref (b 30), .ref (b 31), .ref (b 32), .int (gg 32), .int (nI md), .ref (b 35), .ref (b 36), .ref (b 37), .ref (b 38), .ref (b 39), .ref (b 40), .int (nI pn), .ref (b 42), .ref (b 43), .ref (b 44), .int (gg 44), .ref (b 46), .ref (b 47), .int (gg 47), .ref (b 49)])), (b 39, .inl (cI, 8, .inl nz)), (b 40, .inl (cI, 256, .inl (upd gr (Int32.toNatClampNeg 0) 0)))] hP hD rfl
  refine lv_iconst (v := 1) hx hb dX8_parts_7 (by decide) ?_
  refine lv_istore_n (lv' := [(2, .int 1), (0, .ref (b 0)), (1, .int (nI sx))]) hx hb dX8_parts_8 rfl hl (by decide) rfl (fun ls hl => ?_)
  refine zz_loopS (fun (u : (Nat) × (Nat → Int32)) => match u with | (xs, gx) => [(b 0, .inr (8, [.ref (b 1), .int (nI mt), .int (gg 2), .int (gg 3), .int (gg 4), .int (gg 5), .int (gg 6), .int (gg 7), .int (gg 8), .int (gg 9), .ref (b 11), .ref (b 12), .ref (b 13), .int (nI mc), .int (nI mh), .ref (b 16), .ref (b 17), .ref (b 18), .ref (b 19), .ref (b 20), .ref (b 21), .ref (b 22), .ref (b 23), .ref (b 24), .int (nI mf), .ref (b 26), .ref (b 27), .ref (b 28), .ref (b 29), .ref (b 30), .ref (b 31), .ref (b 32), .int (gg 32), .int (nI md), .ref (b 35), .ref (b 36), .ref (b 37), .ref (b 38), .ref (b 39), .ref (b 40), .int (nI pn), .ref (b 42), .ref (b 43), .ref (b 44), .int (gg 44), .ref (b 46), .ref (b 47), .int (gg 47), .ref (b 49)])), (b 39, .inl (cI, 8, .inl nz)), (b 40, .inl (cI, 256, .inl gx))]) (fun (u : (Nat) × (Nat → Int32)) => match u with | (xs, gx) => [(0, .ref (b 0)), (1, .int (nI sx)), (2, .int (nI xs))]) (fun (u : (Nat) × (Nat → Int32)) => match u with | (xs, gx) => 1 ≤ xs ∧ xs ≤ sx + 1 ∧ zz_gp nz gx mh sx xs) (fun (u : (Nat) × (Nat → Int32)) => match u with | (xs, gx) => sx + 1 - xs) (fun u hI H locs ls hP hD hS hl ih_9 => ?_) (1, (upd gr (Int32.toNatClampNeg 0) 0)) ⟨by omega, by omega, zz_gp_1⟩ _ _ _ (hP.sub [0, 1, 2] rfl) (hD.sub [0, 1, 2] (by decide) rfl) hS (lv_sub hl [1, 2, 0] rfl)
  obtain ⟨xs, gx⟩ := u
  obtain ⟨hP, hD⟩ := zz_ty (D := (dC, dI)) (cl := vwCl) (A := A) (H := H) [(b 0, .inr (8, [.ref (b 1), .int (nI mt), .int (gg 2), .int (gg 3), .int (gg 4), .int (gg 5), .int (gg 6), .int (gg 7), .int (gg 8), .int (gg 9), .ref (b 11), .ref (b 12), .ref (b 13), .int (nI mc), .int (nI mh), .ref (b 16), .ref (b 17), .ref (b 18), .ref (b 19), .ref (b 20), .ref (b 21), .ref (b 22), .ref (b 23), .ref (b 24), .int (nI mf), .ref (b 26), .ref (b 27), .ref (b 28), .ref (b 29), .ref (b 30), .ref (b 31), .ref (b 32), .int (gg 32), .int (nI md), .ref (b 35), .ref (b 36), .ref (b 37), .ref (b 38), .ref (b 39), .ref (b 40), .int (nI pn), .ref (b 42), .ref (b 43), .ref (b 44), .int (gg 44), .ref (b 46), .ref (b 47), .int (gg 47), .ref (b 49)])), (b 39, .inl (cI, 8, .inl nz)), (b 40, .inl (cI, 256, .inl gx))] hP hD rfl
  have hl : lv_has ls 5 [(0, .ref (b 0)), (1, .int (nI sx)), (2, .int (nI xs))] := hl
  have hI : 1 ≤ xs ∧ xs ≤ sx + 1 ∧ zz_gp nz gx mh sx xs := hI
  obtain ⟨ix1, ix2, ig⟩ := hI
  refine lv_iload_n hx hb dX8_parts_9 rfl (lv_at hl 2 rfl) ?_
  refine lv_iload_n hx hb dX8_parts_10 rfl (lv_at hl 1 rfl) ?_
  refine lv_icmp_gt (tgt := 125) hx hb dX8_parts_11 (by decide) (fun c_1 => ?_) (fun c_1 => ?_)
  · have zc_1 := c_1
    rw [Int32.lt_iff_toInt_lt] at zc_1
    try rw [zz_toInt xs (by omega)] at zc_1
    try rw [zz_toInt sx (by omega)] at zc_1
    obtain ⟨hP9, hD9⟩ := zz_sub2 (ws' := [(b 0, .inr (8, [.ref (b 1), .int (nI mt), .int (gg 2), .int (gg 3), .int (gg 4), .int (gg 5), .int (gg 6), .int (gg 7), .int (gg 8), .int (gg 9), .ref (b 11), .ref (b 12), .ref (b 13), .int (nI mc), .int (nI mh), .ref (b 16), .ref (b 17), .ref (b 18), .ref (b 19), .ref (b 20), .ref (b 21), .ref (b 22), .ref (b 23), .ref (b 24), .int (nI mf), .ref (b 26), .ref (b 27), .ref (b 28), .ref (b 29), .ref (b 30), .ref (b 31), .ref (b 32), .int (gg 32), .int (nI md), .ref (b 35), .ref (b 36), .ref (b 37), .ref (b 38), .ref (b 39), .ref (b 40), .int (nI pn), .ref (b 42), .ref (b 43), .ref (b 44), .int (gg 44), .ref (b 46), .ref (b 47), .int (gg 47), .ref (b 49)])), (b 39, .inl (cI, 8, .inl nz)), (b 40, .inl (cI, 256, .inl gx))]) hP hD [0, 1, 2] (by decide) rfl
    have hK9 := hK.sub (tys' := [(cI, .int)]) [0] rfl
    exact W.vret hx hb hr (fun t ht hW => ⟨⟨(gx), rfl, (by rw [show sx + 1 = xs from by omega]; exact ig), by rw [ht]; exact hP9, va_K.moved hW.alike hK9, hD9⟩, hS.F ht⟩) hS.2.2 dX8_parts_125
  · have zc_1 := c_1
    rw [Int32.lt_iff_toInt_lt] at zc_1
    try rw [zz_toInt xs (by omega)] at zc_1
    try rw [zz_toInt sx (by omega)] at zc_1
    refine lv_aload_n hx hb dX8_parts_14 rfl (lv_at hl 0 rfl) ?_
    refine va_get (D := (dC, dI)) (ci := 8) (v := .ref (b 40)) (C := RX8) (T := TX8) (N := 49) hx hb hw zz_inX8 hown hK hP 0 rfl rfl 39 (by decide) (hw _ tw_416) (fun _ h9 => h9) rfl dX8_parts_15 ?_
    refine lv_iload_n hx hb dX8_parts_18 rfl (lv_at hl 2 rfl) ?_
    refine lv_iconst (v := (-1)) hx hb dX8_parts_19 (by decide) ?_
    refine va_iast hx hb hK hP hD hS 2 0 rfl rfl (vp_in_iff.mpr (by rw [zz_toInt xs (by omega)]; constructor <;> omega)) dX8_parts_20 (fun H locs hP hD hS => ?_)
    obtain ⟨hP, hD⟩ := zz_ty (D := (dC, dI)) (cl := vwCl) (A := A) (H := H) [(b 0, .inr (8, [.ref (b 1), .int (nI mt), .int (gg 2), .int (gg 3), .int (gg 4), .int (gg 5), .int (gg 6), .int (gg 7), .int (gg 8), .int (gg 9), .ref (b 11), .ref (b 12), .ref (b 13), .int (nI mc), .int (nI mh), .ref (b 16), .ref (b 17), .ref (b 18), .ref (b 19), .ref (b 20), .ref (b 21), .ref (b 22), .ref (b 23), .ref (b 24), .int (nI mf), .ref (b 26), .ref (b 27), .ref (b 28), .ref (b 29), .ref (b 30), .ref (b 31), .ref (b 32), .int (gg 32), .int (nI md), .ref (b 35), .ref (b 36), .ref (b 37), .ref (b 38), .ref (b 39), .ref (b 40), .int (nI pn), .ref (b 42), .ref (b 43), .ref (b 44), .int (gg 44), .ref (b 46), .ref (b 47), .int (gg 47), .ref (b 49)])), (b 39, .inl (cI, 8, .inl nz)), (b 40, .inl (cI, 256, .inl (upd gx (Int32.toNatClampNeg (nI xs)) (-1))))] hP hD rfl
    obtain ⟨g1, eg1⟩ : ∃ z : Nat → Int32, z = (upd gx (Int32.toNatClampNeg (nI xs)) (-1)) := ⟨_, rfl⟩
    have hP : va_P (dC, dI) vwCl [(b 0, .inr (8, [.ref (b 1), .int (nI mt), .int (gg 2), .int (gg 3), .int (gg 4), .int (gg 5), .int (gg 6), .int (gg 7), .int (gg 8), .int (gg 9), .ref (b 11), .ref (b 12), .ref (b 13), .int (nI mc), .int (nI mh), .ref (b 16), .ref (b 17), .ref (b 18), .ref (b 19), .ref (b 20), .ref (b 21), .ref (b 22), .ref (b 23), .ref (b 24), .int (nI mf), .ref (b 26), .ref (b 27), .ref (b 28), .ref (b 29), .ref (b 30), .ref (b 31), .ref (b 32), .int (gg 32), .int (nI md), .ref (b 35), .ref (b 36), .ref (b 37), .ref (b 38), .ref (b 39), .ref (b 40), .int (nI pn), .ref (b 42), .ref (b 43), .ref (b 44), .int (gg 44), .ref (b 46), .ref (b 47), .int (gg 47), .ref (b 49)])), (b 39, .inl (cI, 8, .inl nz)), (b 40, .inl (cI, 256, .inl g1))] H := by rw [eg1]; exact hP
    have hD : va_D A [(b 0, .inr (8, [.ref (b 1), .int (nI mt), .int (gg 2), .int (gg 3), .int (gg 4), .int (gg 5), .int (gg 6), .int (gg 7), .int (gg 8), .int (gg 9), .ref (b 11), .ref (b 12), .ref (b 13), .int (nI mc), .int (nI mh), .ref (b 16), .ref (b 17), .ref (b 18), .ref (b 19), .ref (b 20), .ref (b 21), .ref (b 22), .ref (b 23), .ref (b 24), .int (nI mf), .ref (b 26), .ref (b 27), .ref (b 28), .ref (b 29), .ref (b 30), .ref (b 31), .ref (b 32), .int (gg 32), .int (nI md), .ref (b 35), .ref (b 36), .ref (b 37), .ref (b 38), .ref (b 39), .ref (b 40), .int (nI pn), .ref (b 42), .ref (b 43), .ref (b 44), .int (gg 44), .ref (b 46), .ref (b 47), .int (gg 47), .ref (b 49)])), (b 39, .inl (cI, 8, .inl nz)), (b 40, .inl (cI, 256, .inl g1))] := by rw [eg1]; exact hD
    rw [zz_cl (by omega)] at eg1
    have hg1 : zz_gp nz g1 mh sx xs := by rw [eg1]; exact zz_gp_upd ig (by omega)
    have hi1 : zz_gi nz g1 mh xs 1 := by rw [eg1]; exact zz_gi_0
    refine lv_iconst (v := 1) hx hb dX8_parts_21 (by decide) ?_
    refine lv_istore_n (lv' := [(3, .int 1), (0, .ref (b 0)), (1, .int (nI sx)), (2, .int (nI xs))]) hx hb dX8_parts_22 rfl hl (by decide) rfl (fun ls hl => ?_)
    refine zz_loopS (fun (u : (Nat) × (Nat → Int32)) => match u with | (pt, gi) => [(b 0, .inr (8, [.ref (b 1), .int (nI mt), .int (gg 2), .int (gg 3), .int (gg 4), .int (gg 5), .int (gg 6), .int (gg 7), .int (gg 8), .int (gg 9), .ref (b 11), .ref (b 12), .ref (b 13), .int (nI mc), .int (nI mh), .ref (b 16), .ref (b 17), .ref (b 18), .ref (b 19), .ref (b 20), .ref (b 21), .ref (b 22), .ref (b 23), .ref (b 24), .int (nI mf), .ref (b 26), .ref (b 27), .ref (b 28), .ref (b 29), .ref (b 30), .ref (b 31), .ref (b 32), .int (gg 32), .int (nI md), .ref (b 35), .ref (b 36), .ref (b 37), .ref (b 38), .ref (b 39), .ref (b 40), .int (nI pn), .ref (b 42), .ref (b 43), .ref (b 44), .int (gg 44), .ref (b 46), .ref (b 47), .int (gg 47), .ref (b 49)])), (b 39, .inl (cI, 8, .inl nz)), (b 40, .inl (cI, 256, .inl gi))]) (fun (u : (Nat) × (Nat → Int32)) => match u with | (pt, gi) => [(0, .ref (b 0)), (1, .int (nI sx)), (2, .int (nI xs)), (3, .int (nI pt))]) (fun (u : (Nat) × (Nat → Int32)) => match u with | (pt, gi) => 1 ≤ pt ∧ pt ≤ xs + 1 ∧ zz_gp nz gi mh sx xs ∧ zz_gi nz gi mh xs pt) (fun (u : (Nat) × (Nat → Int32)) => match u with | (pt, gi) => xs + 1 - pt) (fun u hI H locs ls hP hD hS hl ih_23 => ?_) (1, g1) ⟨by omega, by omega, hg1, hi1⟩ _ _ _ (hP.sub [0, 1, 2] rfl) (hD.sub [0, 1, 2] (by decide) rfl) hS (lv_sub hl [1, 2, 3, 0] rfl)
    obtain ⟨pt, gi⟩ := u
    obtain ⟨hP, hD⟩ := zz_ty (D := (dC, dI)) (cl := vwCl) (A := A) (H := H) [(b 0, .inr (8, [.ref (b 1), .int (nI mt), .int (gg 2), .int (gg 3), .int (gg 4), .int (gg 5), .int (gg 6), .int (gg 7), .int (gg 8), .int (gg 9), .ref (b 11), .ref (b 12), .ref (b 13), .int (nI mc), .int (nI mh), .ref (b 16), .ref (b 17), .ref (b 18), .ref (b 19), .ref (b 20), .ref (b 21), .ref (b 22), .ref (b 23), .ref (b 24), .int (nI mf), .ref (b 26), .ref (b 27), .ref (b 28), .ref (b 29), .ref (b 30), .ref (b 31), .ref (b 32), .int (gg 32), .int (nI md), .ref (b 35), .ref (b 36), .ref (b 37), .ref (b 38), .ref (b 39), .ref (b 40), .int (nI pn), .ref (b 42), .ref (b 43), .ref (b 44), .int (gg 44), .ref (b 46), .ref (b 47), .int (gg 47), .ref (b 49)])), (b 39, .inl (cI, 8, .inl nz)), (b 40, .inl (cI, 256, .inl gi))] hP hD rfl
    have hl : lv_has ls 5 [(0, .ref (b 0)), (1, .int (nI sx)), (2, .int (nI xs)), (3, .int (nI pt))] := hl
    have hI : 1 ≤ pt ∧ pt ≤ xs + 1 ∧ zz_gp nz gi mh sx xs ∧ zz_gi nz gi mh xs pt := hI
    obtain ⟨ip1, ip2, ig2, ii2⟩ := hI
    refine lv_iload_n hx hb dX8_parts_23 rfl (lv_at hl 3 rfl) ?_
    refine lv_iload_n hx hb dX8_parts_24 rfl (lv_at hl 2 rfl) ?_
    refine lv_icmp_gt (tgt := 119) hx hb dX8_parts_25 (by decide) (fun c_2 => ?_) (fun c_2 => ?_)
    · have zc_2 := c_2
      rw [Int32.lt_iff_toInt_lt] at zc_2
      try rw [zz_toInt pt (by omega)] at zc_2
      try rw [zz_toInt xs (by omega)] at zc_2
      refine lv_iinc (v := (nI (xs + 1))) (lv' := [(2, .int (nI (xs + 1))), (0, .ref (b 0)), (1, .int (nI sx)), (3, .int (nI pt))]) hx hb dX8_parts_119 hl (k := 2) rfl (nI_1 _) (by decide) rfl (fun ls hl => ?_)
      refine lv_goto (tgt := 9) hx hb dX8_parts_122 (by decide) ?_
      exact ih_9 ((xs + 1), gi) ⟨by omega, by omega, zz_gp_next ig2 (by omega) ii2 (Or.inl (by omega))⟩ (show sx + 1 - (xs + 1) < sx + 1 - xs from by omega) _ _ _ (hP.sub [0, 1, 2] rfl) (hD.sub [0, 1, 2] (by decide) rfl) hS (lv_sub hl [1, 2, 0] rfl)
    · have zc_2 := c_2
      rw [Int32.lt_iff_toInt_lt] at zc_2
      try rw [zz_toInt pt (by omega)] at zc_2
      try rw [zz_toInt xs (by omega)] at zc_2
      refine lv_iload_n hx hb dX8_parts_28 rfl (lv_at hl 2 rfl) ?_
      refine lv_iload_n hx hb dX8_parts_29 rfl (lv_at hl 1 rfl) ?_
      refine lv_iand hx hb dX8_parts_30 ?_
      refine zz_seti (nI (xs &&& sx)) (zz_andN (by omega) (by omega)) ?_
      have hand_3 := Nat.and_le_left (n := xs) (m := sx)
      refine lv_iload_n hx hb dX8_parts_31 rfl (lv_at hl 2 rfl) ?_
      refine lv_icmp_ne (tgt := 119) hx hb dX8_parts_32 (by decide) (fun c_4 => ?_) (fun c_4 => ?_)
      · have zc_4 := c_4
        rw [← Int32.toInt_inj] at zc_4
        try rw [zz_toInt (xs &&& sx) (by omega)] at zc_4
        try rw [zz_toInt xs (by omega)] at zc_4
        refine lv_iinc (v := (nI (xs + 1))) (lv' := [(2, .int (nI (xs + 1))), (0, .ref (b 0)), (1, .int (nI sx)), (3, .int (nI pt))]) hx hb dX8_parts_119 hl (k := 2) rfl (nI_1 _) (by decide) rfl (fun ls hl => ?_)
        refine lv_goto (tgt := 9) hx hb dX8_parts_122 (by decide) ?_
        exact ih_9 ((xs + 1), gi) ⟨by omega, by omega, zz_gp_next ig2 (by omega) ii2 (Or.inr (by omega))⟩ (show sx + 1 - (xs + 1) < sx + 1 - xs from by omega) _ _ _ (hP.sub [0, 1, 2] rfl) (hD.sub [0, 1, 2] (by decide) rfl) hS (lv_sub hl [1, 2, 0] rfl)
      · have zc_4 := c_4
        rw [← Int32.toInt_inj] at zc_4
        try rw [zz_toInt (xs &&& sx) (by omega)] at zc_4
        try rw [zz_toInt xs (by omega)] at zc_4
        refine lv_iload_n hx hb dX8_parts_35 rfl (lv_at hl 3 rfl) ?_
        refine lv_iload_n hx hb dX8_parts_36 rfl (lv_at hl 2 rfl) ?_
        refine lv_iand hx hb dX8_parts_37 ?_
        refine zz_seti (nI (pt &&& xs)) (zz_andN (by omega) (by omega)) ?_
        have hand_5 := Nat.and_le_left (n := pt) (m := xs)
        refine lv_iload_n hx hb dX8_parts_38 rfl (lv_at hl 3 rfl) ?_
        refine lv_icmp_ne (tgt := 113) hx hb dX8_parts_39 (by decide) (fun c_6 => ?_) (fun c_6 => ?_)
        · have zc_6 := c_6
          rw [← Int32.toInt_inj] at zc_6
          try rw [zz_toInt (pt &&& xs) (by omega)] at zc_6
          try rw [zz_toInt pt (by omega)] at zc_6
          refine lv_iinc (v := (nI (pt + 1))) (lv' := [(3, .int (nI (pt + 1))), (0, .ref (b 0)), (1, .int (nI sx)), (2, .int (nI xs))]) hx hb dX8_parts_113 hl (k := 3) rfl (nI_1 _) (by decide) rfl (fun ls hl => ?_)
          refine lv_goto (tgt := 23) hx hb dX8_parts_116 (by decide) ?_
          exact ih_23 ((pt + 1), gi) ⟨by omega, by omega, ig2, zz_gi_no ii2 (fun h9 => absurd h9.2.2.1 (by omega))⟩ (show xs + 1 - (pt + 1) < xs + 1 - pt from by omega) _ _ _ (hP.sub [0, 1, 2] rfl) (hD.sub [0, 1, 2] (by decide) rfl) hS (lv_sub hl [1, 2, 3, 0] rfl)
        · have zc_6 := c_6
          rw [← Int32.toInt_inj] at zc_6
          try rw [zz_toInt (pt &&& xs) (by omega)] at zc_6
          try rw [zz_toInt pt (by omega)] at zc_6
          refine lv_iload_n hx hb dX8_parts_42 rfl (lv_at hl 3 rfl) ?_
          refine lv_iload_n hx hb dX8_parts_43 rfl (lv_at hl 2 rfl) ?_
          obtain ⟨hPc, hDc⟩ := zz_sub2 (ws' := []) hP hD [] (by decide) rfl
          have hKc := hK.sub (tys' := []) [] rfl
          have hFc := zz_free0 hS hA
          refine va_calli (va_runS (As := [.int (nI xs)]) (rest := [.int (nI pt)]) ⟨hx, hb, hml, hown, hw⟩ (m_least l dC dI xs H.size (by omega) (by omega)) ⟨callB_of 1 hw (zz_good tw_417) rfl rfl rfl (hw _ tw_184) (hw _ tw_418) (by decide +kernel) ⟨Nat.le_of_ble_eq_true rfl, Nat.le_of_ble_eq_true rfl⟩, (hw _ tw_419)⟩ ⟨zz_blind, zz_pre hPc hKc hDc hN⟩ rfl rfl hl.1 rfl (lv_room (Nat.le_of_ble_eq_true rfl)) dX8_parts_44 ⟨Nat.le_of_ble_eq_true rfl, Nat.le_of_ble_eq_true rfl⟩) hS (fun q _ h => hFc q h) hFc (fun r_7 u_7 t H1 locs ht hvm e_7 hB hz1 hk1 hS => ?_)
          try dsimp only at e_7
          have hP := zz_keep hP hk1
          clear hk1 hB ht hvm
          generalize H1 = H at hP hS ⊢
          refine zz_seti (nI (zz_ls xs)) e_7 ?_
          refine lv_ishr hx hb dX8_parts_47 ?_
          refine lv_iconst (v := 1) hx hb dX8_parts_48 (by decide) ?_
          refine lv_iand hx hb dX8_parts_49 ?_
          rcases zz_bitc pt (by omega) (zz_ls xs) (zz_ls_in xs (by omega) (by omega)).2 with ⟨hb_8, eb_8⟩ | ⟨hb_8, eb_8⟩
          · refine zz_seti 1 eb_8 ?_
            refine lv_iconst (v := 1) hx hb dX8_parts_50 (by decide) ?_
            refine lv_icmp_ne (tgt := 113) hx hb dX8_parts_51 (by decide) (fun c_9 => absurd c_9 (by decide)) (fun _ => ?_)
            refine lv_aload_n hx hb dX8_parts_54 rfl (lv_at hl 0 rfl) ?_
            refine lv_iload_n hx hb dX8_parts_55 rfl (lv_at hl 3 rfl) ?_
            obtain ⟨hPc, hDc⟩ := zz_sub2 (ws' := [(b 0, .inr (8, [.ref (b 1), .int (nI mt), .int (gg 2), .int (gg 3), .int (gg 4), .int (gg 5), .int (gg 6), .int (gg 7), .int (gg 8), .int (gg 9), .ref (b 11), .ref (b 12), .ref (b 13), .int (nI mc), .int (nI mh), .ref (b 16), .ref (b 17), .ref (b 18), .ref (b 19), .ref (b 20), .ref (b 21), .ref (b 22), .ref (b 23), .ref (b 24), .int (nI mf), .ref (b 26), .ref (b 27), .ref (b 28), .ref (b 29), .ref (b 30), .ref (b 31), .ref (b 32), .int (gg 32), .int (nI md), .ref (b 35), .ref (b 36), .ref (b 37), .ref (b 38), .ref (b 39), .ref (b 40), .int (nI pn), .ref (b 42), .ref (b 43), .ref (b 44), .int (gg 44), .ref (b 46), .ref (b 47), .int (gg 47), .ref (b 49)])), (b 39, .inl (cI, 8, .inl nz))]) hP hD [0, 1] (by decide) rfl
            have hKc := hK.sub (tys' := [(cI, .int)]) [0] rfl
            have hFc := zz_free0 hS hA
            refine va_calli (va_runV (As := [.int (nI pt)]) (rest := []) ⟨hx, hb, hml, hown, hw⟩ (m_sumOf l dC dI b gg mt mc mh mf md pn cI nz pt H.size (by omega) (by omega)) ⟨callB_of 1 hw (zz_good tw_420) rfl rfl rfl (hw _ tw_184) (hw _ tw_421) (by decide +kernel) ⟨Nat.le_of_ble_eq_true rfl, Nat.le_of_ble_eq_true rfl⟩, (hw _ tw_422), (hw _ tw_423)⟩ ⟨zz_blind, va_recv hKc hPc (ci := 8) (q0 := 0) rfl rfl, zz_pre hPc hKc hDc hN⟩ rfl rfl hl.1 rfl (lv_room (Nat.le_of_ble_eq_true rfl)) dX8_parts_56 ⟨Nat.le_of_ble_eq_true rfl, Nat.le_of_ble_eq_true rfl⟩) hS (fun q _ h => hFc q h) hFc (fun r_9 u_9 t H1 locs ht hvm e_9 hB hz1 hk1 hS => ?_)
            try dsimp only at e_9
            have hP := zz_keep hP hk1
            clear hk1 hB ht hvm
            generalize H1 = H at hP hS ⊢
            refine lv_if_ne (tgt := 113) hx hb dX8_parts_59 (by decide) (fun c_10 => ?_) (fun c_10 => ?_)
            · have zc_10 := c_10
              rw [← Int32.toInt_inj] at zc_10
              try rw [show (0 : Int32).toInt = 0 from by decide] at zc_10
              refine lv_iinc (v := (nI (pt + 1))) (lv' := [(3, .int (nI (pt + 1))), (0, .ref (b 0)), (1, .int (nI sx)), (2, .int (nI xs))]) hx hb dX8_parts_113 hl (k := 3) rfl (nI_1 _) (by decide) rfl (fun ls hl => ?_)
              refine lv_goto (tgt := 23) hx hb dX8_parts_116 (by decide) ?_
              exact ih_23 ((pt + 1), gi) ⟨by omega, by omega, ig2, zz_gi_no ii2 (fun h9 => absurd h9.2.2.2.2.1 (fun z => c_10 (e_9.trans z)))⟩ (show xs + 1 - (pt + 1) < xs + 1 - pt from by omega) _ _ _ (hP.sub [0, 1, 2] rfl) (hD.sub [0, 1, 2] (by decide) rfl) hS (lv_sub hl [1, 2, 3, 0] rfl)
            · have zc_10 := c_10
              rw [← Int32.toInt_inj] at zc_10
              try rw [show (0 : Int32).toInt = 0 from by decide] at zc_10
              refine lv_aload_n hx hb dX8_parts_62 rfl (lv_at hl 0 rfl) ?_
              refine va_get (D := (dC, dI)) (ci := 8) (v := .ref (b 40)) (C := RX8) (T := TX8) (N := 49) hx hb hw zz_inX8 hown hK hP 0 rfl rfl 39 (by decide) (hw _ tw_416) (fun _ h9 => h9) rfl dX8_parts_63 ?_
              refine lv_iload_n hx hb dX8_parts_66 rfl (lv_at hl 2 rfl) ?_
              refine lv_iload_n hx hb dX8_parts_67 rfl (lv_at hl 3 rfl) ?_
              refine lv_isub hx hb dX8_parts_68 ?_
              refine zz_seti (nI (xs - pt)) (pk_sub (by omega)) ?_
              refine va_iald hx hb hK hP 2 0 rfl rfl (vp_in_iff.mpr (by rw [zz_toInt (xs - pt) (by omega)]; constructor <;> omega)) dX8_parts_69 ?_
              refine zz_seti (gi (xs - pt)) (congrArg gi (zz_cl (by omega))) ?_
              refine lv_if_lt (tgt := 113) hx hb dX8_parts_70 (by decide) (fun c_11 => ?_) (fun c_11 => ?_)
              · have zc_11 := c_11
                rw [Int32.lt_iff_toInt_lt] at zc_11
                try rw [show (0 : Int32).toInt = 0 from by decide] at zc_11
                refine lv_iinc (v := (nI (pt + 1))) (lv' := [(3, .int (nI (pt + 1))), (0, .ref (b 0)), (1, .int (nI sx)), (2, .int (nI xs))]) hx hb dX8_parts_113 hl (k := 3) rfl (nI_1 _) (by decide) rfl (fun ls hl => ?_)
                refine lv_goto (tgt := 23) hx hb dX8_parts_116 (by decide) ?_
                exact ih_23 ((pt + 1), gi) ⟨by omega, by omega, ig2, zz_gi_no ii2 (fun h9 => absurd h9.2.2.2.2.2 (by omega))⟩ (show xs + 1 - (pt + 1) < xs + 1 - pt from by omega) _ _ _ (hP.sub [0, 1, 2] rfl) (hD.sub [0, 1, 2] (by decide) rfl) hS (lv_sub hl [1, 2, 3, 0] rfl)
              · have zc_11 := c_11
                rw [Int32.lt_iff_toInt_lt] at zc_11
                try rw [show (0 : Int32).toInt = 0 from by decide] at zc_11
                refine lv_aload_n hx hb dX8_parts_73 rfl (lv_at hl 0 rfl) ?_
                refine va_get (D := (dC, dI)) (ci := 8) (v := .ref (b 40)) (C := RX8) (T := TX8) (N := 49) hx hb hw zz_inX8 hown hK hP 0 rfl rfl 39 (by decide) (hw _ tw_416) (fun _ h9 => h9) rfl dX8_parts_74 ?_
                refine lv_iload_n hx hb dX8_parts_77 rfl (lv_at hl 2 rfl) ?_
                refine lv_iload_n hx hb dX8_parts_78 rfl (lv_at hl 3 rfl) ?_
                refine lv_isub hx hb dX8_parts_79 ?_
                refine zz_seti (nI (xs - pt)) (pk_sub (by omega)) ?_
                refine va_iald hx hb hK hP 2 0 rfl rfl (vp_in_iff.mpr (by rw [zz_toInt (xs - pt) (by omega)]; constructor <;> omega)) dX8_parts_80 ?_
                refine zz_seti (gi (xs - pt)) (congrArg gi (zz_cl (by omega))) ?_
                refine lv_iconst (v := 1) hx hb dX8_parts_81 (by decide) ?_
                refine lv_iadd hx hb dX8_parts_82 ?_
                refine lv_istore (lv' := [(4, .int ((gi (xs - pt)) + 1)), (0, .ref (b 0)), (1, .int (nI sx)), (2, .int (nI xs)), (3, .int (nI pt))]) hx hb dX8_parts_83 hl (by decide) rfl (fun ls hl => ?_)
                refine lv_aload_n hx hb dX8_parts_85 rfl (lv_at hl 1 rfl) ?_
                refine va_get (D := (dC, dI)) (ci := 8) (v := .ref (b 40)) (C := RX8) (T := TX8) (N := 49) hx hb hw zz_inX8 hown hK hP 0 rfl rfl 39 (by decide) (hw _ tw_416) (fun _ h9 => h9) rfl dX8_parts_86 ?_
                refine lv_iload_n hx hb dX8_parts_89 rfl (lv_at hl 3 rfl) ?_
                refine lv_iload hx hb dX8_parts_90 (lv_at hl 0 rfl) ?_
                refine lv_aload_n hx hb dX8_parts_92 rfl (lv_at hl 1 rfl) ?_
                refine va_get (D := (dC, dI)) (ci := 8) (v := .ref (b 40)) (C := RX8) (T := TX8) (N := 49) hx hb hw zz_inX8 hown hK hP 0 rfl rfl 39 (by decide) (hw _ tw_416) (fun _ h9 => h9) rfl dX8_parts_93 ?_
                refine lv_iload_n hx hb dX8_parts_96 rfl (lv_at hl 3 rfl) ?_
                refine va_iald hx hb hK hP 2 0 rfl rfl (vp_in_iff.mpr (by rw [zz_toInt xs (by omega)]; constructor <;> omega)) dX8_parts_97 ?_
                refine zz_seti (gi xs) (congrArg gi (zz_cl (by omega))) ?_
                refine lv_icmp_le (tgt := 106) hx hb dX8_parts_98 (by decide) (fun c_12 => ?_) (fun c_12 => ?_)
                · have zc_12 := c_12
                  rw [Int32.le_iff_toInt_le] at zc_12
                  refine lv_aload_n hx hb dX8_parts_106 rfl (lv_at hl 1 rfl) ?_
                  refine va_get (D := (dC, dI)) (ci := 8) (v := .ref (b 40)) (C := RX8) (T := TX8) (N := 49) hx hb hw zz_inX8 hown hK hP 0 rfl rfl 39 (by decide) (hw _ tw_416) (fun _ h9 => h9) rfl dX8_parts_107 ?_
                  refine lv_iload_n hx hb dX8_parts_110 rfl (lv_at hl 3 rfl) ?_
                  refine va_iald hx hb hK hP 2 0 rfl rfl (vp_in_iff.mpr (by rw [zz_toInt xs (by omega)]; constructor <;> omega)) dX8_parts_111 ?_
                  refine zz_seti (gi xs) (congrArg gi (zz_cl (by omega))) ?_
                  refine va_iast hx hb hK hP hD hS 2 0 rfl rfl (vp_in_iff.mpr (by rw [zz_toInt xs (by omega)]; constructor <;> omega)) dX8_parts_112 (fun H locs hP hD hS => ?_)
                  obtain ⟨hP, hD⟩ := zz_ty (D := (dC, dI)) (cl := vwCl) (A := A) (H := H) [(b 0, .inr (8, [.ref (b 1), .int (nI mt), .int (gg 2), .int (gg 3), .int (gg 4), .int (gg 5), .int (gg 6), .int (gg 7), .int (gg 8), .int (gg 9), .ref (b 11), .ref (b 12), .ref (b 13), .int (nI mc), .int (nI mh), .ref (b 16), .ref (b 17), .ref (b 18), .ref (b 19), .ref (b 20), .ref (b 21), .ref (b 22), .ref (b 23), .ref (b 24), .int (nI mf), .ref (b 26), .ref (b 27), .ref (b 28), .ref (b 29), .ref (b 30), .ref (b 31), .ref (b 32), .int (gg 32), .int (nI md), .ref (b 35), .ref (b 36), .ref (b 37), .ref (b 38), .ref (b 39), .ref (b 40), .int (nI pn), .ref (b 42), .ref (b 43), .ref (b 44), .int (gg 44), .ref (b 46), .ref (b 47), .int (gg 47), .ref (b 49)])), (b 39, .inl (cI, 8, .inl nz)), (b 40, .inl (cI, 256, .inl (upd gi (Int32.toNatClampNeg (nI xs)) (gi xs))))] hP hD rfl
                  refine lv_iinc (v := (nI (pt + 1))) (lv' := [(3, .int (nI (pt + 1))), (4, .int ((gi (xs - pt)) + 1)), (0, .ref (b 0)), (1, .int (nI sx)), (2, .int (nI xs))]) hx hb dX8_parts_113 hl (k := 4) rfl (nI_1 _) (by decide) rfl (fun ls hl => ?_)
                  refine lv_goto (tgt := 23) hx hb dX8_parts_116 (by decide) ?_
                  exact ih_23 ((pt + 1), (upd gi (Int32.toNatClampNeg (nI xs)) (gi xs))) ⟨by omega, by omega, zz_gp_updC ig2 (by omega) (by omega), zz_gi_keepC ii2 (by omega) ⟨by omega, by omega, by omega, hb_8, e_9.symm.trans c_10, by omega⟩ (ig2.2.1 _ (by omega)).2 (by omega) (by omega)⟩ (show xs + 1 - (pt + 1) < xs + 1 - pt from by omega) _ _ _ (hP.sub [0, 1, 2] rfl) (hD.sub [0, 1, 2] (by decide) rfl) hS (lv_sub hl [2, 3, 4, 0] rfl)
                · have zc_12 := c_12
                  rw [Int32.le_iff_toInt_le] at zc_12
                  refine lv_iload hx hb dX8_parts_101 (lv_at hl 0 rfl) ?_
                  refine lv_goto (tgt := 112) hx hb dX8_parts_103 (by decide) ?_
                  refine va_iast hx hb hK hP hD hS 2 0 rfl rfl (vp_in_iff.mpr (by rw [zz_toInt xs (by omega)]; constructor <;> omega)) dX8_parts_112 (fun H locs hP hD hS => ?_)
                  obtain ⟨hP, hD⟩ := zz_ty (D := (dC, dI)) (cl := vwCl) (A := A) (H := H) [(b 0, .inr (8, [.ref (b 1), .int (nI mt), .int (gg 2), .int (gg 3), .int (gg 4), .int (gg 5), .int (gg 6), .int (gg 7), .int (gg 8), .int (gg 9), .ref (b 11), .ref (b 12), .ref (b 13), .int (nI mc), .int (nI mh), .ref (b 16), .ref (b 17), .ref (b 18), .ref (b 19), .ref (b 20), .ref (b 21), .ref (b 22), .ref (b 23), .ref (b 24), .int (nI mf), .ref (b 26), .ref (b 27), .ref (b 28), .ref (b 29), .ref (b 30), .ref (b 31), .ref (b 32), .int (gg 32), .int (nI md), .ref (b 35), .ref (b 36), .ref (b 37), .ref (b 38), .ref (b 39), .ref (b 40), .int (nI pn), .ref (b 42), .ref (b 43), .ref (b 44), .int (gg 44), .ref (b 46), .ref (b 47), .int (gg 47), .ref (b 49)])), (b 39, .inl (cI, 8, .inl nz)), (b 40, .inl (cI, 256, .inl (upd gi (Int32.toNatClampNeg (nI xs)) ((gi (xs - pt)) + 1))))] hP hD rfl
                  refine lv_iinc (v := (nI (pt + 1))) (lv' := [(3, .int (nI (pt + 1))), (4, .int ((gi (xs - pt)) + 1)), (0, .ref (b 0)), (1, .int (nI sx)), (2, .int (nI xs))]) hx hb dX8_parts_113 hl (k := 4) rfl (nI_1 _) (by decide) rfl (fun ls hl => ?_)
                  refine lv_goto (tgt := 23) hx hb dX8_parts_116 (by decide) ?_
                  exact ih_23 ((pt + 1), (upd gi (Int32.toNatClampNeg (nI xs)) ((gi (xs - pt)) + 1))) ⟨by omega, by omega, zz_gp_updC ig2 (by omega) (by omega), zz_gi_newC (by omega) ⟨by omega, by omega, by omega, hb_8, e_9.symm.trans c_10, by omega⟩ (ig2.2.1 _ (by omega)).2 (by omega)⟩ (show xs + 1 - (pt + 1) < xs + 1 - pt from by omega) _ _ _ (hP.sub [0, 1, 2] rfl) (hD.sub [0, 1, 2] (by decide) rfl) hS (lv_sub hl [2, 3, 4, 0] rfl)
          · refine zz_seti 0 eb_8 ?_
            refine lv_iconst (v := 1) hx hb dX8_parts_50 (by decide) ?_
            refine lv_icmp_ne (tgt := 113) hx hb dX8_parts_51 (by decide) (fun _ => ?_) (fun c_9 => absurd c_9 (by decide))
            refine lv_iinc (v := (nI (pt + 1))) (lv' := [(3, .int (nI (pt + 1))), (0, .ref (b 0)), (1, .int (nI sx)), (2, .int (nI xs))]) hx hb dX8_parts_113 hl (k := 3) rfl (nI_1 _) (by decide) rfl (fun ls hl => ?_)
            refine lv_goto (tgt := 23) hx hb dX8_parts_116 (by decide) ?_
            exact ih_23 ((pt + 1), gi) ⟨by omega, by omega, ig2, zz_gi_no ii2 (fun h9 => absurd h9.2.2.2.1 (by rw [hb_8]; decide))⟩ (show xs + 1 - (pt + 1) < xs + 1 - pt from by omega) _ _ _ (hP.sub [0, 1, 2] rfl) (hD.sub [0, 1, 2] (by decide) rfl) hS (lv_sub hl [1, 2, 3, 0] rfl)
