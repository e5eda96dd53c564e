theorem tw_102 : Cond.fieldLink RX2 18 "HandsReturned$Evening" "unsettled" "[I" ∈ zz_all := zz_m1 191 rfl rfl
theorem tw_103 : Cond.fieldLink RX2 21 "HandsReturned$Evening" "netOfSet" "[I" ∈ zz_all := zz_m1 192 rfl rfl
theorem tw_104 : Cond.fieldLink RX2 24 "HandsReturned$Evening" "groupsOfSet" "[I" ∈ zz_all := zz_m1 193 rfl rfl
theorem tw_105 : Cond.fieldLink RX2 60 "HandsReturned$Evening" "count" "I" ∈ zz_all := zz_m1 200 rfl rfl
theorem tw_106 : Cond.code yX2_leastInGroup cX2_leastInGroup 4 (some .int) ∈ zz_all := zz_m3 107 rfl rfl
theorem tw_107 : Cond.initialized RX2 ∈ zz_all := zz_m1 8 rfl rfl
theorem tw_108 : Cond.methodLink RX2 78 yX2_leastInGroup ∈ zz_all := zz_m3 104 rfl rfl
theorem tw_109 : Cond.instanceMethod yX2_leastInGroup ∈ zz_all := zz_m3 106 rfl rfl
theorem tw_110 : Cond.selects RX2 yX2_leastInGroup yX2_leastInGroup ∈ zz_all := zz_ms 29 rfl rfl
theorem tw_111 : Cond.methodLink RX2 81 Lib.Math.min.name ∈ zz_all := zz_m3 108 rfl rfl
theorem tw_112 : Cond.fieldLink RX2 27 "HandsReturned$Evening" "payers" "[I" ∈ zz_all := zz_m1 194 rfl rfl
theorem tw_113 : Cond.fieldLink RX2 30 "HandsReturned$Evening" "payees" "[I" ∈ zz_all := zz_m1 196 rfl rfl
theorem tw_114 : Cond.fieldLink RX2 33 "HandsReturned$Evening" "units" "[I" ∈ zz_all := zz_m1 198 rfl rfl
theorem tw_115 : Cond.fieldLink RX2 9 "HandsReturned$Evening" "nets" "[I" ∈ zz_all := zz_m1 189 rfl rfl
theorem tw_116 : Cond.methodLink RX2 72 Lib.Math.max.name ∈ zz_all := zz_m3 95 rfl rfl
theorem tw_117 : Cond.code yX2_countGroups cX2_countGroups 5 none ∈ zz_all := zz_m3 94 rfl rfl
theorem tw_118 : Cond.methodLink RX2 61 yX2_countGroups ∈ zz_all := zz_m3 91 rfl rfl
theorem tw_119 : Cond.instanceMethod yX2_countGroups ∈ zz_all := zz_m3 93 rfl rfl
theorem tw_120 : Cond.selects RX2 yX2_countGroups yX2_countGroups ∈ zz_all := zz_ms 26 rfl rfl
theorem tw_121 : Cond.code yX2_leastGroup cX2_leastGroup 5 (some .int) ∈ zz_all := zz_m3 99 rfl rfl
theorem tw_122 : Cond.methodLink RX2 64 yX2_leastGroup ∈ zz_all := zz_m3 96 rfl rfl
theorem tw_123 : Cond.instanceMethod yX2_leastGroup ∈ zz_all := zz_m3 98 rfl rfl
theorem tw_124 : Cond.selects RX2 yX2_leastGroup yX2_leastGroup ∈ zz_all := zz_ms 27 rfl rfl
theorem tw_125 : Cond.code yX2_payWithin cX2_payWithin 6 none ∈ zz_all := zz_m3 103 rfl rfl
theorem tw_126 : Cond.methodLink RX2 68 yX2_payWithin ∈ zz_all := zz_m3 100 rfl rfl
theorem tw_127 : Cond.instanceMethod yX2_payWithin ∈ zz_all := zz_m3 102 rfl rfl
theorem tw_128 : Cond.selects RX2 yX2_payWithin yX2_payWithin ∈ zz_all := zz_ms 28 rfl rfl
theorem zy_b10evening_0 : decode cX2_leastInGroup 0 = .ok (.iconst 0, 1) ∧ decode cX2_leastInGroup 1 = .ok (.istore_n 3, 1) ∧ decode cX2_leastInGroup 2 = .ok (.iload_n 3, 1) ∧ decode cX2_leastInGroup 3 = .ok (.bipush 8, 2) ∧ decode cX2_leastInGroup 5 = .ok (.if_icmp .ge 30, 3) ∧ decode cX2_leastInGroup 8 = .ok (.iload_n 1, 1) ∧ decode cX2_leastInGroup 9 = .ok (.iconst 1, 1) ∧ decode cX2_leastInGroup 10 = .ok (.iload_n 3, 1) := by decide +kernel
theorem dX2_leastInGroup_0 : decode cX2_leastInGroup 0 = .ok (.iconst 0, 1) := zy_b10evening_0.1
theorem dX2_leastInGroup_1 : decode cX2_leastInGroup 1 = .ok (.istore_n 3, 1) := zy_b10evening_0.2.1
theorem dX2_leastInGroup_2 : decode cX2_leastInGroup 2 = .ok (.iload_n 3, 1) := zy_b10evening_0.2.2.1
theorem dX2_leastInGroup_3 : decode cX2_leastInGroup 3 = .ok (.bipush 8, 2) := zy_b10evening_0.2.2.2.1
theorem dX2_leastInGroup_5 : decode cX2_leastInGroup 5 = .ok (.if_icmp .ge 30, 3) := zy_b10evening_0.2.2.2.2.1
theorem dX2_leastInGroup_8 : decode cX2_leastInGroup 8 = .ok (.iload_n 1, 1) := zy_b10evening_0.2.2.2.2.2.1
theorem dX2_leastInGroup_9 : decode cX2_leastInGroup 9 = .ok (.iconst 1, 1) := zy_b10evening_0.2.2.2.2.2.2.1
theorem dX2_leastInGroup_10 : decode cX2_leastInGroup 10 = .ok (.iload_n 3, 1) := zy_b10evening_0.2.2.2.2.2.2.2
theorem zy_b10evening_1 : decode cX2_leastInGroup 11 = .ok (.ishl, 1) ∧ decode cX2_leastInGroup 12 = .ok (.iand, 1) ∧ decode cX2_leastInGroup 13 = .ok (.ifCond .eq 16, 3) ∧ decode cX2_leastInGroup 16 = .ok (.aload_n 0, 1) ∧ decode cX2_leastInGroup 17 = .ok (.getfield 18, 3) ∧ decode cX2_leastInGroup 20 = .ok (.iload_n 3, 1) ∧ decode cX2_leastInGroup 21 = .ok (.iaload, 1) ∧ decode cX2_leastInGroup 22 = .ok (.iload_n 2, 1) := by decide +kernel
theorem dX2_leastInGroup_11 : decode cX2_leastInGroup 11 = .ok (.ishl, 1) := zy_b10evening_1.1
theorem dX2_leastInGroup_12 : decode cX2_leastInGroup 12 = .ok (.iand, 1) := zy_b10evening_1.2.1
theorem dX2_leastInGroup_13 : decode cX2_leastInGroup 13 = .ok (.ifCond .eq 16, 3) := zy_b10evening_1.2.2.1
theorem dX2_leastInGroup_16 : decode cX2_leastInGroup 16 = .ok (.aload_n 0, 1) := zy_b10evening_1.2.2.2.1
theorem dX2_leastInGroup_17 : decode cX2_leastInGroup 17 = .ok (.getfield 18, 3) := zy_b10evening_1.2.2.2.2.1
theorem dX2_leastInGroup_20 : decode cX2_leastInGroup 20 = .ok (.iload_n 3, 1) := zy_b10evening_1.2.2.2.2.2.1
theorem dX2_leastInGroup_21 : decode cX2_leastInGroup 21 = .ok (.iaload, 1) := zy_b10evening_1.2.2.2.2.2.2.1
theorem dX2_leastInGroup_22 : decode cX2_leastInGroup 22 = .ok (.iload_n 2, 1) := zy_b10evening_1.2.2.2.2.2.2.2
theorem zy_b10evening_2 : decode cX2_leastInGroup 23 = .ok (.imul, 1) ∧ decode cX2_leastInGroup 24 = .ok (.ifCond .le 5, 3) ∧ decode cX2_leastInGroup 27 = .ok (.iload_n 3, 1) ∧ decode cX2_leastInGroup 28 = .ok (.ireturn, 1) ∧ decode cX2_leastInGroup 29 = .ok (.iinc 3 1, 3) ∧ decode cX2_leastInGroup 32 = .ok (.goto (-30), 3) ∧ decode cX2_leastInGroup 35 = .ok (.iconst (-1), 1) ∧ decode cX2_leastInGroup 36 = .ok (.ireturn, 1) := by decide +kernel
theorem dX2_leastInGroup_23 : decode cX2_leastInGroup 23 = .ok (.imul, 1) := zy_b10evening_2.1
theorem dX2_leastInGroup_24 : decode cX2_leastInGroup 24 = .ok (.ifCond .le 5, 3) := zy_b10evening_2.2.1
theorem dX2_leastInGroup_27 : decode cX2_leastInGroup 27 = .ok (.iload_n 3, 1) := zy_b10evening_2.2.2.1
theorem dX2_leastInGroup_28 : decode cX2_leastInGroup 28 = .ok (.ireturn, 1) := zy_b10evening_2.2.2.2.1
theorem dX2_leastInGroup_29 : decode cX2_leastInGroup 29 = .ok (.iinc 3 1, 3) := zy_b10evening_2.2.2.2.2.1
theorem dX2_leastInGroup_32 : decode cX2_leastInGroup 32 = .ok (.goto (-30), 3) := zy_b10evening_2.2.2.2.2.2.1
theorem dX2_leastInGroup_35 : decode cX2_leastInGroup 35 = .ok (.iconst (-1), 1) := zy_b10evening_2.2.2.2.2.2.2.1
theorem dX2_leastInGroup_36 : decode cX2_leastInGroup 36 = .ok (.ireturn, 1) := zy_b10evening_2.2.2.2.2.2.2.2
theorem zy_b10evening_3 : decode cX2_leastGroup 0 = .ok (.iload_n 1, 1) ∧ decode cX2_leastGroup 1 = .ok (.iload_n 1, 1) ∧ decode cX2_leastGroup 2 = .ok (.ineg, 1) ∧ decode cX2_leastGroup 3 = .ok (.iand, 1) ∧ decode cX2_leastGroup 4 = .ok (.istore_n 2, 1) ∧ decode cX2_leastGroup 5 = .ok (.iload_n 2, 1) ∧ decode cX2_leastGroup 6 = .ok (.istore_n 3, 1) ∧ decode cX2_leastGroup 7 = .ok (.iload_n 3, 1) := by decide +kernel
theorem dX2_leastGroup_0 : decode cX2_leastGroup 0 = .ok (.iload_n 1, 1) := zy_b10evening_3.1
theorem dX2_leastGroup_1 : decode cX2_leastGroup 1 = .ok (.iload_n 1, 1) := zy_b10evening_3.2.1
theorem dX2_leastGroup_2 : decode cX2_leastGroup 2 = .ok (.ineg, 1) := zy_b10evening_3.2.2.1
theorem dX2_leastGroup_3 : decode cX2_leastGroup 3 = .ok (.iand, 1) := zy_b10evening_3.2.2.2.1
theorem dX2_leastGroup_4 : decode cX2_leastGroup 4 = .ok (.istore_n 2, 1) := zy_b10evening_3.2.2.2.2.1
theorem dX2_leastGroup_5 : decode cX2_leastGroup 5 = .ok (.iload_n 2, 1) := zy_b10evening_3.2.2.2.2.2.1
theorem dX2_leastGroup_6 : decode cX2_leastGroup 6 = .ok (.istore_n 3, 1) := zy_b10evening_3.2.2.2.2.2.2.1
theorem dX2_leastGroup_7 : decode cX2_leastGroup 7 = .ok (.iload_n 3, 1) := zy_b10evening_3.2.2.2.2.2.2.2
theorem zy_b10evening_4 : decode cX2_leastGroup 8 = .ok (.iload_n 1, 1) ∧ decode cX2_leastGroup 9 = .ok (.if_icmp .ge 72, 3) ∧ decode cX2_leastGroup 12 = .ok (.iload_n 3, 1) ∧ decode cX2_leastGroup 13 = .ok (.sipush 256, 3) ∧ decode cX2_leastGroup 16 = .ok (.if_icmp .ge 65, 3) ∧ decode cX2_leastGroup 19 = .ok (.iload_n 3, 1) ∧ decode cX2_leastGroup 20 = .ok (.iload_n 1, 1) ∧ decode cX2_leastGroup 21 = .ok (.iconst (-1), 1) := by decide +kernel
theorem dX2_leastGroup_8 : decode cX2_leastGroup 8 = .ok (.iload_n 1, 1) := zy_b10evening_4.1
theorem dX2_leastGroup_9 : decode cX2_leastGroup 9 = .ok (.if_icmp .ge 72, 3) := zy_b10evening_4.2.1
theorem dX2_leastGroup_12 : decode cX2_leastGroup 12 = .ok (.iload_n 3, 1) := zy_b10evening_4.2.2.1
theorem dX2_leastGroup_13 : decode cX2_leastGroup 13 = .ok (.sipush 256, 3) := zy_b10evening_4.2.2.2.1
theorem dX2_leastGroup_16 : decode cX2_leastGroup 16 = .ok (.if_icmp .ge 65, 3) := zy_b10evening_4.2.2.2.2.1
theorem dX2_leastGroup_19 : decode cX2_leastGroup 19 = .ok (.iload_n 3, 1) := zy_b10evening_4.2.2.2.2.2.1
theorem dX2_leastGroup_20 : decode cX2_leastGroup 20 = .ok (.iload_n 1, 1) := zy_b10evening_4.2.2.2.2.2.2.1
theorem dX2_leastGroup_21 : decode cX2_leastGroup 21 = .ok (.iconst (-1), 1) := zy_b10evening_4.2.2.2.2.2.2.2
theorem zy_b10evening_5 : decode cX2_leastGroup 22 = .ok (.ixor, 1) ∧ decode cX2_leastGroup 23 = .ok (.iand, 1) ∧ decode cX2_leastGroup 24 = .ok (.ifCond .ne 22, 3) ∧ decode cX2_leastGroup 27 = .ok (.iload_n 3, 1) ∧ decode cX2_leastGroup 28 = .ok (.iload_n 2, 1) ∧ decode cX2_leastGroup 29 = .ok (.iand, 1) ∧ decode cX2_leastGroup 30 = .ok (.ifCond .eq 16, 3) ∧ decode cX2_leastGroup 33 = .ok (.aload_n 0, 1) := by decide +kernel
theorem dX2_leastGroup_22 : decode cX2_leastGroup 22 = .ok (.ixor, 1) := zy_b10evening_5.1
theorem dX2_leastGroup_23 : decode cX2_leastGroup 23 = .ok (.iand, 1) := zy_b10evening_5.2.1
theorem dX2_leastGroup_24 : decode cX2_leastGroup 24 = .ok (.ifCond .ne 22, 3) := zy_b10evening_5.2.2.1
theorem dX2_leastGroup_27 : decode cX2_leastGroup 27 = .ok (.iload_n 3, 1) := zy_b10evening_5.2.2.2.1
theorem dX2_leastGroup_28 : decode cX2_leastGroup 28 = .ok (.iload_n 2, 1) := zy_b10evening_5.2.2.2.2.1
theorem dX2_leastGroup_29 : decode cX2_leastGroup 29 = .ok (.iand, 1) := zy_b10evening_5.2.2.2.2.2.1
theorem dX2_leastGroup_30 : decode cX2_leastGroup 30 = .ok (.ifCond .eq 16, 3) := zy_b10evening_5.2.2.2.2.2.2.1
theorem dX2_leastGroup_33 : decode cX2_leastGroup 33 = .ok (.aload_n 0, 1) := zy_b10evening_5.2.2.2.2.2.2.2
theorem zy_b10evening_6 : decode cX2_leastGroup 34 = .ok (.getfield 21, 3) ∧ decode cX2_leastGroup 37 = .ok (.iload_n 3, 1) ∧ decode cX2_leastGroup 38 = .ok (.iaload, 1) ∧ decode cX2_leastGroup 39 = .ok (.ifCond .ne 7, 3) ∧ decode cX2_leastGroup 42 = .ok (.iconst 1, 1) ∧ decode cX2_leastGroup 43 = .ok (.goto 4, 3) ∧ decode cX2_leastGroup 46 = .ok (.iconst 0, 1) ∧ decode cX2_leastGroup 47 = .ok (.istore 4, 2) := by decide +kernel
theorem dX2_leastGroup_34 : decode cX2_leastGroup 34 = .ok (.getfield 21, 3) := zy_b10evening_6.1
theorem dX2_leastGroup_37 : decode cX2_leastGroup 37 = .ok (.iload_n 3, 1) := zy_b10evening_6.2.1
theorem dX2_leastGroup_38 : decode cX2_leastGroup 38 = .ok (.iaload, 1) := zy_b10evening_6.2.2.1
theorem dX2_leastGroup_39 : decode cX2_leastGroup 39 = .ok (.ifCond .ne 7, 3) := zy_b10evening_6.2.2.2.1
theorem dX2_leastGroup_42 : decode cX2_leastGroup 42 = .ok (.iconst 1, 1) := zy_b10evening_6.2.2.2.2.1
theorem dX2_leastGroup_43 : decode cX2_leastGroup 43 = .ok (.goto 4, 3) := zy_b10evening_6.2.2.2.2.2.1
theorem dX2_leastGroup_46 : decode cX2_leastGroup 46 = .ok (.iconst 0, 1) := zy_b10evening_6.2.2.2.2.2.2.1
theorem dX2_leastGroup_47 : decode cX2_leastGroup 47 = .ok (.istore 4, 2) := zy_b10evening_6.2.2.2.2.2.2.2
theorem zy_b10evening_7 : decode cX2_leastGroup 49 = .ok (.iload 4, 2) ∧ decode cX2_leastGroup 51 = .ok (.ifCond .eq 24, 3) ∧ decode cX2_leastGroup 54 = .ok (.aload_n 0, 1) ∧ decode cX2_leastGroup 55 = .ok (.getfield 24, 3) ∧ decode cX2_leastGroup 58 = .ok (.iload_n 1, 1) ∧ decode cX2_leastGroup 59 = .ok (.iload_n 3, 1) ∧ decode cX2_leastGroup 60 = .ok (.ixor, 1) ∧ decode cX2_leastGroup 61 = .ok (.iaload, 1) := by decide +kernel
theorem dX2_leastGroup_49 : decode cX2_leastGroup 49 = .ok (.iload 4, 2) := zy_b10evening_7.1
theorem dX2_leastGroup_51 : decode cX2_leastGroup 51 = .ok (.ifCond .eq 24, 3) := zy_b10evening_7.2.1
theorem dX2_leastGroup_54 : decode cX2_leastGroup 54 = .ok (.aload_n 0, 1) := zy_b10evening_7.2.2.1
theorem dX2_leastGroup_55 : decode cX2_leastGroup 55 = .ok (.getfield 24, 3) := zy_b10evening_7.2.2.2.1
theorem dX2_leastGroup_58 : decode cX2_leastGroup 58 = .ok (.iload_n 1, 1) := zy_b10evening_7.2.2.2.2.1
theorem dX2_leastGroup_59 : decode cX2_leastGroup 59 = .ok (.iload_n 3, 1) := zy_b10evening_7.2.2.2.2.2.1
theorem dX2_leastGroup_60 : decode cX2_leastGroup 60 = .ok (.ixor, 1) := zy_b10evening_7.2.2.2.2.2.2.1
theorem dX2_leastGroup_61 : decode cX2_leastGroup 61 = .ok (.iaload, 1) := zy_b10evening_7.2.2.2.2.2.2.2
theorem zy_b10evening_8 : decode cX2_leastGroup 62 = .ok (.aload_n 0, 1) ∧ decode cX2_leastGroup 63 = .ok (.getfield 24, 3) ∧ decode cX2_leastGroup 66 = .ok (.iload_n 1, 1) ∧ decode cX2_leastGroup 67 = .ok (.iaload, 1) ∧ decode cX2_leastGroup 68 = .ok (.iconst 1, 1) ∧ decode cX2_leastGroup 69 = .ok (.isub, 1) ∧ decode cX2_leastGroup 70 = .ok (.if_icmp .ne 5, 3) ∧ decode cX2_leastGroup 73 = .ok (.iload_n 3, 1) := by decide +kernel
theorem dX2_leastGroup_62 : decode cX2_leastGroup 62 = .ok (.aload_n 0, 1) := zy_b10evening_8.1
theorem dX2_leastGroup_63 : decode cX2_leastGroup 63 = .ok (.getfield 24, 3) := zy_b10evening_8.2.1
theorem dX2_leastGroup_66 : decode cX2_leastGroup 66 = .ok (.iload_n 1, 1) := zy_b10evening_8.2.2.1
theorem dX2_leastGroup_67 : decode cX2_leastGroup 67 = .ok (.iaload, 1) := zy_b10evening_8.2.2.2.1
theorem dX2_leastGroup_68 : decode cX2_leastGroup 68 = .ok (.iconst 1, 1) := zy_b10evening_8.2.2.2.2.1
theorem dX2_leastGroup_69 : decode cX2_leastGroup 69 = .ok (.isub, 1) := zy_b10evening_8.2.2.2.2.2.1
theorem dX2_leastGroup_70 : decode cX2_leastGroup 70 = .ok (.if_icmp .ne 5, 3) := zy_b10evening_8.2.2.2.2.2.2.1
theorem dX2_leastGroup_73 : decode cX2_leastGroup 73 = .ok (.iload_n 3, 1) := zy_b10evening_8.2.2.2.2.2.2.2
theorem zy_b10evening_9 : decode cX2_leastGroup 74 = .ok (.ireturn, 1) ∧ decode cX2_leastGroup 75 = .ok (.iinc 3 1, 3) ∧ decode cX2_leastGroup 78 = .ok (.goto (-71), 3) ∧ decode cX2_leastGroup 81 = .ok (.iload_n 1, 1) ∧ decode cX2_leastGroup 82 = .ok (.ireturn, 1) := by decide +kernel
theorem dX2_leastGroup_74 : decode cX2_leastGroup 74 = .ok (.ireturn, 1) := zy_b10evening_9.1
theorem dX2_leastGroup_75 : decode cX2_leastGroup 75 = .ok (.iinc 3 1, 3) := zy_b10evening_9.2.1
theorem dX2_leastGroup_78 : decode cX2_leastGroup 78 = .ok (.goto (-71), 3) := zy_b10evening_9.2.2.1
theorem dX2_leastGroup_81 : decode cX2_leastGroup 81 = .ok (.iload_n 1, 1) := zy_b10evening_9.2.2.2.1
theorem dX2_leastGroup_82 : decode cX2_leastGroup 82 = .ok (.ireturn, 1) := zy_b10evening_9.2.2.2.2
theorem zy_b10evening_10 : decode cX2_payWithin 0 = .ok (.iconst 0, 1) ∧ decode cX2_payWithin 1 = .ok (.istore_n 2, 1) ∧ decode cX2_payWithin 2 = .ok (.iload_n 2, 1) ∧ decode cX2_payWithin 3 = .ok (.bipush 8, 2) ∧ decode cX2_payWithin 5 = .ok (.if_icmp .ge 129, 3) ∧ decode cX2_payWithin 8 = .ok (.aload_n 0, 1) ∧ decode cX2_payWithin 9 = .ok (.getfield 60, 3) ∧ decode cX2_payWithin 12 = .ok (.bipush 8, 2) := by decide +kernel
theorem dX2_payWithin_0 : decode cX2_payWithin 0 = .ok (.iconst 0, 1) := zy_b10evening_10.1
theorem dX2_payWithin_1 : decode cX2_payWithin 1 = .ok (.istore_n 2, 1) := zy_b10evening_10.2.1
theorem dX2_payWithin_2 : decode cX2_payWithin 2 = .ok (.iload_n 2, 1) := zy_b10evening_10.2.2.1
theorem dX2_payWithin_3 : decode cX2_payWithin 3 = .ok (.bipush 8, 2) := zy_b10evening_10.2.2.2.1
theorem dX2_payWithin_5 : decode cX2_payWithin 5 = .ok (.if_icmp .ge 129, 3) := zy_b10evening_10.2.2.2.2.1
theorem dX2_payWithin_8 : decode cX2_payWithin 8 = .ok (.aload_n 0, 1) := zy_b10evening_10.2.2.2.2.2.1
theorem dX2_payWithin_9 : decode cX2_payWithin 9 = .ok (.getfield 60, 3) := zy_b10evening_10.2.2.2.2.2.2.1
theorem dX2_payWithin_12 : decode cX2_payWithin 12 = .ok (.bipush 8, 2) := zy_b10evening_10.2.2.2.2.2.2.2
theorem zy_b10evening_11 : decode cX2_payWithin 14 = .ok (.if_icmp .ge 120, 3) ∧ decode cX2_payWithin 17 = .ok (.aload_n 0, 1) ∧ decode cX2_payWithin 18 = .ok (.iload_n 1, 1) ∧ decode cX2_payWithin 19 = .ok (.iconst (-1), 1) ∧ decode cX2_payWithin 20 = .ok (.invokevirtual 78, 3) ∧ decode cX2_payWithin 23 = .ok (.istore_n 3, 1) ∧ decode cX2_payWithin 24 = .ok (.aload_n 0, 1) ∧ decode cX2_payWithin 25 = .ok (.iload_n 1, 1) := by decide +kernel
theorem dX2_payWithin_14 : decode cX2_payWithin 14 = .ok (.if_icmp .ge 120, 3) := zy_b10evening_11.1
theorem dX2_payWithin_17 : decode cX2_payWithin 17 = .ok (.aload_n 0, 1) := zy_b10evening_11.2.1
theorem dX2_payWithin_18 : decode cX2_payWithin 18 = .ok (.iload_n 1, 1) := zy_b10evening_11.2.2.1
theorem dX2_payWithin_19 : decode cX2_payWithin 19 = .ok (.iconst (-1), 1) := zy_b10evening_11.2.2.2.1
theorem dX2_payWithin_20 : decode cX2_payWithin 20 = .ok (.invokevirtual 78, 3) := zy_b10evening_11.2.2.2.2.1
theorem dX2_payWithin_23 : decode cX2_payWithin 23 = .ok (.istore_n 3, 1) := zy_b10evening_11.2.2.2.2.2.1
theorem dX2_payWithin_24 : decode cX2_payWithin 24 = .ok (.aload_n 0, 1) := zy_b10evening_11.2.2.2.2.2.2.1
theorem dX2_payWithin_25 : decode cX2_payWithin 25 = .ok (.iload_n 1, 1) := zy_b10evening_11.2.2.2.2.2.2.2
theorem zy_b10evening_12 : decode cX2_payWithin 26 = .ok (.iconst 1, 1) ∧ decode cX2_payWithin 27 = .ok (.invokevirtual 78, 3) ∧ decode cX2_payWithin 30 = .ok (.istore 4, 2) ∧ decode cX2_payWithin 32 = .ok (.iload_n 3, 1) ∧ decode cX2_payWithin 33 = .ok (.iconst (-1), 1) ∧ decode cX2_payWithin 34 = .ok (.if_icmp .eq 9, 3) ∧ decode cX2_payWithin 37 = .ok (.iload 4, 2) ∧ decode cX2_payWithin 39 = .ok (.iconst (-1), 1) := by decide +kernel
theorem dX2_payWithin_26 : decode cX2_payWithin 26 = .ok (.iconst 1, 1) := zy_b10evening_12.1
theorem dX2_payWithin_27 : decode cX2_payWithin 27 = .ok (.invokevirtual 78, 3) := zy_b10evening_12.2.1
theorem dX2_payWithin_30 : decode cX2_payWithin 30 = .ok (.istore 4, 2) := zy_b10evening_12.2.2.1
theorem dX2_payWithin_32 : decode cX2_payWithin 32 = .ok (.iload_n 3, 1) := zy_b10evening_12.2.2.2.1
theorem dX2_payWithin_33 : decode cX2_payWithin 33 = .ok (.iconst (-1), 1) := zy_b10evening_12.2.2.2.2.1
theorem dX2_payWithin_34 : decode cX2_payWithin 34 = .ok (.if_icmp .eq 9, 3) := zy_b10evening_12.2.2.2.2.2.1
theorem dX2_payWithin_37 : decode cX2_payWithin 37 = .ok (.iload 4, 2) := zy_b10evening_12.2.2.2.2.2.2.1
theorem dX2_payWithin_39 : decode cX2_payWithin 39 = .ok (.iconst (-1), 1) := zy_b10evening_12.2.2.2.2.2.2.2
theorem zy_b10evening_13 : decode cX2_payWithin 40 = .ok (.if_icmp .ne 4, 3) ∧ decode cX2_payWithin 43 = .ok (.return_, 1) ∧ decode cX2_payWithin 44 = .ok (.aload_n 0, 1) ∧ decode cX2_payWithin 45 = .ok (.getfield 18, 3) ∧ decode cX2_payWithin 48 = .ok (.iload_n 3, 1) ∧ decode cX2_payWithin 49 = .ok (.iaload, 1) ∧ decode cX2_payWithin 50 = .ok (.ineg, 1) ∧ decode cX2_payWithin 51 = .ok (.aload_n 0, 1) := by decide +kernel
theorem dX2_payWithin_40 : decode cX2_payWithin 40 = .ok (.if_icmp .ne 4, 3) := zy_b10evening_13.1
theorem dX2_payWithin_43 : decode cX2_payWithin 43 = .ok (.return_, 1) := zy_b10evening_13.2.1
theorem dX2_payWithin_44 : decode cX2_payWithin 44 = .ok (.aload_n 0, 1) := zy_b10evening_13.2.2.1
theorem dX2_payWithin_45 : decode cX2_payWithin 45 = .ok (.getfield 18, 3) := zy_b10evening_13.2.2.2.1
theorem dX2_payWithin_48 : decode cX2_payWithin 48 = .ok (.iload_n 3, 1) := zy_b10evening_13.2.2.2.2.1
theorem dX2_payWithin_49 : decode cX2_payWithin 49 = .ok (.iaload, 1) := zy_b10evening_13.2.2.2.2.2.1
theorem dX2_payWithin_50 : decode cX2_payWithin 50 = .ok (.ineg, 1) := zy_b10evening_13.2.2.2.2.2.2.1
theorem dX2_payWithin_51 : decode cX2_payWithin 51 = .ok (.aload_n 0, 1) := zy_b10evening_13.2.2.2.2.2.2.2
theorem zy_b10evening_14 : decode cX2_payWithin 52 = .ok (.getfield 18, 3) ∧ decode cX2_payWithin 55 = .ok (.iload 4, 2) ∧ decode cX2_payWithin 57 = .ok (.iaload, 1) ∧ decode cX2_payWithin 58 = .ok (.invokestatic 81, 3) ∧ decode cX2_payWithin 61 = .ok (.istore 5, 2) ∧ decode cX2_payWithin 63 = .ok (.aload_n 0, 1) ∧ decode cX2_payWithin 64 = .ok (.getfield 18, 3) ∧ decode cX2_payWithin 67 = .ok (.iload_n 3, 1) := by decide +kernel
theorem dX2_payWithin_52 : decode cX2_payWithin 52 = .ok (.getfield 18, 3) := zy_b10evening_14.1
theorem dX2_payWithin_55 : decode cX2_payWithin 55 = .ok (.iload 4, 2) := zy_b10evening_14.2.1
theorem dX2_payWithin_57 : decode cX2_payWithin 57 = .ok (.iaload, 1) := zy_b10evening_14.2.2.1
theorem dX2_payWithin_58 : decode cX2_payWithin 58 = .ok (.invokestatic 81, 3) := zy_b10evening_14.2.2.2.1
theorem dX2_payWithin_61 : decode cX2_payWithin 61 = .ok (.istore 5, 2) := zy_b10evening_14.2.2.2.2.1
theorem dX2_payWithin_63 : decode cX2_payWithin 63 = .ok (.aload_n 0, 1) := zy_b10evening_14.2.2.2.2.2.1
theorem dX2_payWithin_64 : decode cX2_payWithin 64 = .ok (.getfield 18, 3) := zy_b10evening_14.2.2.2.2.2.2.1
theorem dX2_payWithin_67 : decode cX2_payWithin 67 = .ok (.iload_n 3, 1) := zy_b10evening_14.2.2.2.2.2.2.2
theorem zy_b10evening_15 : decode cX2_payWithin 68 = .ok (.dup2, 1) ∧ decode cX2_payWithin 69 = .ok (.iaload, 1) ∧ decode cX2_payWithin 70 = .ok (.iload 5, 2) ∧ decode cX2_payWithin 72 = .ok (.iadd, 1) ∧ decode cX2_payWithin 73 = .ok (.iastore, 1) ∧ decode cX2_payWithin 74 = .ok (.aload_n 0, 1) ∧ decode cX2_payWithin 75 = .ok (.getfield 18, 3) ∧ decode cX2_payWithin 78 = .ok (.iload 4, 2) := by decide +kernel
theorem dX2_payWithin_68 : decode cX2_payWithin 68 = .ok (.dup2, 1) := zy_b10evening_15.1
theorem dX2_payWithin_69 : decode cX2_payWithin 69 = .ok (.iaload, 1) := zy_b10evening_15.2.1
theorem dX2_payWithin_70 : decode cX2_payWithin 70 = .ok (.iload 5, 2) := zy_b10evening_15.2.2.1
theorem dX2_payWithin_72 : decode cX2_payWithin 72 = .ok (.iadd, 1) := zy_b10evening_15.2.2.2.1
theorem dX2_payWithin_73 : decode cX2_payWithin 73 = .ok (.iastore, 1) := zy_b10evening_15.2.2.2.2.1
theorem dX2_payWithin_74 : decode cX2_payWithin 74 = .ok (.aload_n 0, 1) := zy_b10evening_15.2.2.2.2.2.1
theorem dX2_payWithin_75 : decode cX2_payWithin 75 = .ok (.getfield 18, 3) := zy_b10evening_15.2.2.2.2.2.2.1
theorem dX2_payWithin_78 : decode cX2_payWithin 78 = .ok (.iload 4, 2) := zy_b10evening_15.2.2.2.2.2.2.2
theorem zy_b10evening_16 : decode cX2_payWithin 80 = .ok (.dup2, 1) ∧ decode cX2_payWithin 81 = .ok (.iaload, 1) ∧ decode cX2_payWithin 82 = .ok (.iload 5, 2) ∧ decode cX2_payWithin 84 = .ok (.isub, 1) ∧ decode cX2_payWithin 85 = .ok (.iastore, 1) ∧ decode cX2_payWithin 86 = .ok (.aload_n 0, 1) ∧ decode cX2_payWithin 87 = .ok (.getfield 27, 3) ∧ decode cX2_payWithin 90 = .ok (.aload_n 0, 1) := by decide +kernel
theorem dX2_payWithin_80 : decode cX2_payWithin 80 = .ok (.dup2, 1) := zy_b10evening_16.1
theorem dX2_payWithin_81 : decode cX2_payWithin 81 = .ok (.iaload, 1) := zy_b10evening_16.2.1
theorem dX2_payWithin_82 : decode cX2_payWithin 82 = .ok (.iload 5, 2) := zy_b10evening_16.2.2.1
theorem dX2_payWithin_84 : decode cX2_payWithin 84 = .ok (.isub, 1) := zy_b10evening_16.2.2.2.1
theorem dX2_payWithin_85 : decode cX2_payWithin 85 = .ok (.iastore, 1) := zy_b10evening_16.2.2.2.2.1
theorem dX2_payWithin_86 : decode cX2_payWithin 86 = .ok (.aload_n 0, 1) := zy_b10evening_16.2.2.2.2.2.1
theorem dX2_payWithin_87 : decode cX2_payWithin 87 = .ok (.getfield 27, 3) := zy_b10evening_16.2.2.2.2.2.2.1
theorem dX2_payWithin_90 : decode cX2_payWithin 90 = .ok (.aload_n 0, 1) := zy_b10evening_16.2.2.2.2.2.2.2
theorem zy_b10evening_17 : decode cX2_payWithin 91 = .ok (.getfield 60, 3) ∧ decode cX2_payWithin 94 = .ok (.iload_n 3, 1) ∧ decode cX2_payWithin 95 = .ok (.iastore, 1) ∧ decode cX2_payWithin 96 = .ok (.aload_n 0, 1) ∧ decode cX2_payWithin 97 = .ok (.getfield 30, 3) ∧ decode cX2_payWithin 100 = .ok (.aload_n 0, 1) ∧ decode cX2_payWithin 101 = .ok (.getfield 60, 3) ∧ decode cX2_payWithin 104 = .ok (.iload 4, 2) := by decide +kernel
theorem dX2_payWithin_91 : decode cX2_payWithin 91 = .ok (.getfield 60, 3) := zy_b10evening_17.1
theorem dX2_payWithin_94 : decode cX2_payWithin 94 = .ok (.iload_n 3, 1) := zy_b10evening_17.2.1
theorem dX2_payWithin_95 : decode cX2_payWithin 95 = .ok (.iastore, 1) := zy_b10evening_17.2.2.1
theorem dX2_payWithin_96 : decode cX2_payWithin 96 = .ok (.aload_n 0, 1) := zy_b10evening_17.2.2.2.1
theorem dX2_payWithin_97 : decode cX2_payWithin 97 = .ok (.getfield 30, 3) := zy_b10evening_17.2.2.2.2.1
theorem dX2_payWithin_100 : decode cX2_payWithin 100 = .ok (.aload_n 0, 1) := zy_b10evening_17.2.2.2.2.2.1
theorem dX2_payWithin_101 : decode cX2_payWithin 101 = .ok (.getfield 60, 3) := zy_b10evening_17.2.2.2.2.2.2.1
theorem dX2_payWithin_104 : decode cX2_payWithin 104 = .ok (.iload 4, 2) := zy_b10evening_17.2.2.2.2.2.2.2
theorem zy_b10evening_18 : decode cX2_payWithin 106 = .ok (.iastore, 1) ∧ decode cX2_payWithin 107 = .ok (.aload_n 0, 1) ∧ decode cX2_payWithin 108 = .ok (.getfield 33, 3) ∧ decode cX2_payWithin 111 = .ok (.aload_n 0, 1) ∧ decode cX2_payWithin 112 = .ok (.getfield 60, 3) ∧ decode cX2_payWithin 115 = .ok (.iload 5, 2) ∧ decode cX2_payWithin 117 = .ok (.iastore, 1) ∧ decode cX2_payWithin 118 = .ok (.aload_n 0, 1) := by decide +kernel
theorem dX2_payWithin_106 : decode cX2_payWithin 106 = .ok (.iastore, 1) := zy_b10evening_18.1
theorem dX2_payWithin_107 : decode cX2_payWithin 107 = .ok (.aload_n 0, 1) := zy_b10evening_18.2.1
theorem dX2_payWithin_108 : decode cX2_payWithin 108 = .ok (.getfield 33, 3) := zy_b10evening_18.2.2.1
theorem dX2_payWithin_111 : decode cX2_payWithin 111 = .ok (.aload_n 0, 1) := zy_b10evening_18.2.2.2.1
theorem dX2_payWithin_112 : decode cX2_payWithin 112 = .ok (.getfield 60, 3) := zy_b10evening_18.2.2.2.2.1
theorem dX2_payWithin_115 : decode cX2_payWithin 115 = .ok (.iload 5, 2) := zy_b10evening_18.2.2.2.2.2.1
theorem dX2_payWithin_117 : decode cX2_payWithin 117 = .ok (.iastore, 1) := zy_b10evening_18.2.2.2.2.2.2.1
theorem dX2_payWithin_118 : decode cX2_payWithin 118 = .ok (.aload_n 0, 1) := zy_b10evening_18.2.2.2.2.2.2.2
theorem zy_b10evening_19 : decode cX2_payWithin 119 = .ok (.dup, 1) ∧ decode cX2_payWithin 120 = .ok (.getfield 60, 3) ∧ decode cX2_payWithin 123 = .ok (.iconst 1, 1) ∧ decode cX2_payWithin 124 = .ok (.iadd, 1) ∧ decode cX2_payWithin 125 = .ok (.putfield 60, 3) ∧ decode cX2_payWithin 128 = .ok (.iinc 2 1, 3) ∧ decode cX2_payWithin 131 = .ok (.goto (-129), 3) ∧ decode cX2_payWithin 134 = .ok (.return_, 1) := by decide +kernel
theorem dX2_payWithin_119 : decode cX2_payWithin 119 = .ok (.dup, 1) := zy_b10evening_19.1
theorem dX2_payWithin_120 : decode cX2_payWithin 120 = .ok (.getfield 60, 3) := zy_b10evening_19.2.1
theorem dX2_payWithin_123 : decode cX2_payWithin 123 = .ok (.iconst 1, 1) := zy_b10evening_19.2.2.1
theorem dX2_payWithin_124 : decode cX2_payWithin 124 = .ok (.iadd, 1) := zy_b10evening_19.2.2.2.1
theorem dX2_payWithin_125 : decode cX2_payWithin 125 = .ok (.putfield 60, 3) := zy_b10evening_19.2.2.2.2.1
theorem dX2_payWithin_128 : decode cX2_payWithin 128 = .ok (.iinc 2 1, 3) := zy_b10evening_19.2.2.2.2.2.1
theorem dX2_payWithin_131 : decode cX2_payWithin 131 = .ok (.goto (-129), 3) := zy_b10evening_19.2.2.2.2.2.2.1
theorem dX2_payWithin_134 : decode cX2_payWithin 134 = .ok (.return_, 1) := zy_b10evening_19.2.2.2.2.2.2.2
theorem zy_b10evening_20 : decode cX2_countGroups 0 = .ok (.iconst 1, 1) ∧ decode cX2_countGroups 1 = .ok (.istore_n 1, 1) ∧ decode cX2_countGroups 2 = .ok (.iload_n 1, 1) ∧ decode cX2_countGroups 3 = .ok (.sipush 256, 3) ∧ decode cX2_countGroups 6 = .ok (.if_icmp .ge 88, 3) ∧ decode cX2_countGroups 9 = .ok (.iconst 0, 1) ∧ decode cX2_countGroups 10 = .ok (.istore_n 2, 1) ∧ decode cX2_countGroups 11 = .ok (.iconst 0, 1) := by decide +kernel
theorem dX2_countGroups_0 : decode cX2_countGroups 0 = .ok (.iconst 1, 1) := zy_b10evening_20.1
theorem dX2_countGroups_1 : decode cX2_countGroups 1 = .ok (.istore_n 1, 1) := zy_b10evening_20.2.1
theorem dX2_countGroups_2 : decode cX2_countGroups 2 = .ok (.iload_n 1, 1) := zy_b10evening_20.2.2.1
theorem dX2_countGroups_3 : decode cX2_countGroups 3 = .ok (.sipush 256, 3) := zy_b10evening_20.2.2.2.1
theorem dX2_countGroups_6 : decode cX2_countGroups 6 = .ok (.if_icmp .ge 88, 3) := zy_b10evening_20.2.2.2.2.1
theorem dX2_countGroups_9 : decode cX2_countGroups 9 = .ok (.iconst 0, 1) := zy_b10evening_20.2.2.2.2.2.1
theorem dX2_countGroups_10 : decode cX2_countGroups 10 = .ok (.istore_n 2, 1) := zy_b10evening_20.2.2.2.2.2.2.1
theorem dX2_countGroups_11 : decode cX2_countGroups 11 = .ok (.iconst 0, 1) := zy_b10evening_20.2.2.2.2.2.2.2
theorem zy_b10evening_21 : decode cX2_countGroups 12 = .ok (.istore_n 3, 1) ∧ decode cX2_countGroups 13 = .ok (.iconst 0, 1) ∧ decode cX2_countGroups 14 = .ok (.istore 4, 2) ∧ decode cX2_countGroups 16 = .ok (.iload 4, 2) ∧ decode cX2_countGroups 18 = .ok (.bipush 8, 2) ∧ decode cX2_countGroups 20 = .ok (.if_icmp .ge 44, 3) ∧ decode cX2_countGroups 23 = .ok (.iload_n 1, 1) ∧ decode cX2_countGroups 24 = .ok (.iconst 1, 1) := by decide +kernel
theorem dX2_countGroups_12 : decode cX2_countGroups 12 = .ok (.istore_n 3, 1) := zy_b10evening_21.1
theorem dX2_countGroups_13 : decode cX2_countGroups 13 = .ok (.iconst 0, 1) := zy_b10evening_21.2.1
theorem dX2_countGroups_14 : decode cX2_countGroups 14 = .ok (.istore 4, 2) := zy_b10evening_21.2.2.1
theorem dX2_countGroups_16 : decode cX2_countGroups 16 = .ok (.iload 4, 2) := zy_b10evening_21.2.2.2.1
theorem dX2_countGroups_18 : decode cX2_countGroups 18 = .ok (.bipush 8, 2) := zy_b10evening_21.2.2.2.2.1
theorem dX2_countGroups_20 : decode cX2_countGroups 20 = .ok (.if_icmp .ge 44, 3) := zy_b10evening_21.2.2.2.2.2.1
theorem dX2_countGroups_23 : decode cX2_countGroups 23 = .ok (.iload_n 1, 1) := zy_b10evening_21.2.2.2.2.2.2.1
theorem dX2_countGroups_24 : decode cX2_countGroups 24 = .ok (.iconst 1, 1) := zy_b10evening_21.2.2.2.2.2.2.2
theorem zy_b10evening_22 : decode cX2_countGroups 25 = .ok (.iload 4, 2) ∧ decode cX2_countGroups 27 = .ok (.ishl, 1) ∧ decode cX2_countGroups 28 = .ok (.iand, 1) ∧ decode cX2_countGroups 29 = .ok (.ifCond .eq 29, 3) ∧ decode cX2_countGroups 32 = .ok (.iload_n 2, 1) ∧ decode cX2_countGroups 33 = .ok (.aload_n 0, 1) ∧ decode cX2_countGroups 34 = .ok (.getfield 9, 3) ∧ decode cX2_countGroups 37 = .ok (.iload 4, 2) := by decide +kernel
theorem dX2_countGroups_25 : decode cX2_countGroups 25 = .ok (.iload 4, 2) := zy_b10evening_22.1
theorem dX2_countGroups_27 : decode cX2_countGroups 27 = .ok (.ishl, 1) := zy_b10evening_22.2.1
theorem dX2_countGroups_28 : decode cX2_countGroups 28 = .ok (.iand, 1) := zy_b10evening_22.2.2.1
theorem dX2_countGroups_29 : decode cX2_countGroups 29 = .ok (.ifCond .eq 29, 3) := zy_b10evening_22.2.2.2.1
theorem dX2_countGroups_32 : decode cX2_countGroups 32 = .ok (.iload_n 2, 1) := zy_b10evening_22.2.2.2.2.1
theorem dX2_countGroups_33 : decode cX2_countGroups 33 = .ok (.aload_n 0, 1) := zy_b10evening_22.2.2.2.2.2.1
theorem dX2_countGroups_34 : decode cX2_countGroups 34 = .ok (.getfield 9, 3) := zy_b10evening_22.2.2.2.2.2.2.1
theorem dX2_countGroups_37 : decode cX2_countGroups 37 = .ok (.iload 4, 2) := zy_b10evening_22.2.2.2.2.2.2.2
theorem zy_b10evening_23 : decode cX2_countGroups 39 = .ok (.iaload, 1) ∧ decode cX2_countGroups 40 = .ok (.iadd, 1) ∧ decode cX2_countGroups 41 = .ok (.istore_n 2, 1) ∧ decode cX2_countGroups 42 = .ok (.iload_n 3, 1) ∧ decode cX2_countGroups 43 = .ok (.aload_n 0, 1) ∧ decode cX2_countGroups 44 = .ok (.getfield 24, 3) ∧ decode cX2_countGroups 47 = .ok (.iload_n 1, 1) ∧ decode cX2_countGroups 48 = .ok (.iconst 1, 1) := by decide +kernel
theorem dX2_countGroups_39 : decode cX2_countGroups 39 = .ok (.iaload, 1) := zy_b10evening_23.1
theorem dX2_countGroups_40 : decode cX2_countGroups 40 = .ok (.iadd, 1) := zy_b10evening_23.2.1
theorem dX2_countGroups_41 : decode cX2_countGroups 41 = .ok (.istore_n 2, 1) := zy_b10evening_23.2.2.1
theorem dX2_countGroups_42 : decode cX2_countGroups 42 = .ok (.iload_n 3, 1) := zy_b10evening_23.2.2.2.1
theorem dX2_countGroups_43 : decode cX2_countGroups 43 = .ok (.aload_n 0, 1) := zy_b10evening_23.2.2.2.2.1
theorem dX2_countGroups_44 : decode cX2_countGroups 44 = .ok (.getfield 24, 3) := zy_b10evening_23.2.2.2.2.2.1
theorem dX2_countGroups_47 : decode cX2_countGroups 47 = .ok (.iload_n 1, 1) := zy_b10evening_23.2.2.2.2.2.2.1
theorem dX2_countGroups_48 : decode cX2_countGroups 48 = .ok (.iconst 1, 1) := zy_b10evening_23.2.2.2.2.2.2.2
theorem zy_b10evening_24 : decode cX2_countGroups 49 = .ok (.iload 4, 2) ∧ decode cX2_countGroups 51 = .ok (.ishl, 1) ∧ decode cX2_countGroups 52 = .ok (.ixor, 1) ∧ decode cX2_countGroups 53 = .ok (.iaload, 1) ∧ decode cX2_countGroups 54 = .ok (.invokestatic 72, 3) ∧ decode cX2_countGroups 57 = .ok (.istore_n 3, 1) ∧ decode cX2_countGroups 58 = .ok (.iinc 4 1, 3) ∧ decode cX2_countGroups 61 = .ok (.goto (-45), 3) := by decide +kernel
theorem dX2_countGroups_49 : decode cX2_countGroups 49 = .ok (.iload 4, 2) := zy_b10evening_24.1
theorem dX2_countGroups_51 : decode cX2_countGroups 51 = .ok (.ishl, 1) := zy_b10evening_24.2.1
theorem dX2_countGroups_52 : decode cX2_countGroups 52 = .ok (.ixor, 1) := zy_b10evening_24.2.2.1
theorem dX2_countGroups_53 : decode cX2_countGroups 53 = .ok (.iaload, 1) := zy_b10evening_24.2.2.2.1
theorem dX2_countGroups_54 : decode cX2_countGroups 54 = .ok (.invokestatic 72, 3) := zy_b10evening_24.2.2.2.2.1
theorem dX2_countGroups_57 : decode cX2_countGroups 57 = .ok (.istore_n 3, 1) := zy_b10evening_24.2.2.2.2.2.1
theorem dX2_countGroups_58 : decode cX2_countGroups 58 = .ok (.iinc 4 1, 3) := zy_b10evening_24.2.2.2.2.2.2.1
theorem dX2_countGroups_61 : decode cX2_countGroups 61 = .ok (.goto (-45), 3) := zy_b10evening_24.2.2.2.2.2.2.2
theorem zy_b10evening_25 : decode cX2_countGroups 64 = .ok (.aload_n 0, 1) ∧ decode cX2_countGroups 65 = .ok (.getfield 21, 3) ∧ decode cX2_countGroups 68 = .ok (.iload_n 1, 1) ∧ decode cX2_countGroups 69 = .ok (.iload_n 2, 1) ∧ decode cX2_countGroups 70 = .ok (.iastore, 1) ∧ decode cX2_countGroups 71 = .ok (.aload_n 0, 1) ∧ decode cX2_countGroups 72 = .ok (.getfield 24, 3) ∧ decode cX2_countGroups 75 = .ok (.iload_n 1, 1) := by decide +kernel
theorem dX2_countGroups_64 : decode cX2_countGroups 64 = .ok (.aload_n 0, 1) := zy_b10evening_25.1
theorem dX2_countGroups_65 : decode cX2_countGroups 65 = .ok (.getfield 21, 3) := zy_b10evening_25.2.1
theorem dX2_countGroups_68 : decode cX2_countGroups 68 = .ok (.iload_n 1, 1) := zy_b10evening_25.2.2.1
theorem dX2_countGroups_69 : decode cX2_countGroups 69 = .ok (.iload_n 2, 1) := zy_b10evening_25.2.2.2.1
theorem dX2_countGroups_70 : decode cX2_countGroups 70 = .ok (.iastore, 1) := zy_b10evening_25.2.2.2.2.1
theorem dX2_countGroups_71 : decode cX2_countGroups 71 = .ok (.aload_n 0, 1) := zy_b10evening_25.2.2.2.2.2.1
theorem dX2_countGroups_72 : decode cX2_countGroups 72 = .ok (.getfield 24, 3) := zy_b10evening_25.2.2.2.2.2.2.1
theorem dX2_countGroups_75 : decode cX2_countGroups 75 = .ok (.iload_n 1, 1) := zy_b10evening_25.2.2.2.2.2.2.2
theorem zy_b10evening_26 : decode cX2_countGroups 76 = .ok (.iload_n 2, 1) ∧ decode cX2_countGroups 77 = .ok (.ifCond .ne 9, 3) ∧ decode cX2_countGroups 80 = .ok (.iload_n 3, 1) ∧ decode cX2_countGroups 81 = .ok (.iconst 1, 1) ∧ decode cX2_countGroups 82 = .ok (.iadd, 1) ∧ decode cX2_countGroups 83 = .ok (.goto 4, 3) ∧ decode cX2_countGroups 86 = .ok (.iload_n 3, 1) ∧ decode cX2_countGroups 87 = .ok (.iastore, 1) := by decide +kernel
theorem dX2_countGroups_76 : decode cX2_countGroups 76 = .ok (.iload_n 2, 1) := zy_b10evening_26.1
theorem dX2_countGroups_77 : decode cX2_countGroups 77 = .ok (.ifCond .ne 9, 3) := zy_b10evening_26.2.1
theorem dX2_countGroups_80 : decode cX2_countGroups 80 = .ok (.iload_n 3, 1) := zy_b10evening_26.2.2.1
theorem dX2_countGroups_81 : decode cX2_countGroups 81 = .ok (.iconst 1, 1) := zy_b10evening_26.2.2.2.1
theorem dX2_countGroups_82 : decode cX2_countGroups 82 = .ok (.iadd, 1) := zy_b10evening_26.2.2.2.2.1
theorem dX2_countGroups_83 : decode cX2_countGroups 83 = .ok (.goto 4, 3) := zy_b10evening_26.2.2.2.2.2.1
theorem dX2_countGroups_86 : decode cX2_countGroups 86 = .ok (.iload_n 3, 1) := zy_b10evening_26.2.2.2.2.2.2.1
theorem dX2_countGroups_87 : decode cX2_countGroups 87 = .ok (.iastore, 1) := zy_b10evening_26.2.2.2.2.2.2.2
theorem zy_b10evening_27 : decode cX2_countGroups 88 = .ok (.iinc 1 1, 3) ∧ decode cX2_countGroups 91 = .ok (.goto (-89), 3) ∧ decode cX2_countGroups 94 = .ok (.return_, 1) := by decide +kernel
theorem dX2_countGroups_88 : decode cX2_countGroups 88 = .ok (.iinc 1 1, 3) := zy_b10evening_27.1
theorem dX2_countGroups_91 : decode cX2_countGroups 91 = .ok (.goto (-89), 3) := zy_b10evening_27.2.1
theorem dX2_countGroups_94 : decode cX2_countGroups 94 = .ok (.return_, 1) := zy_b10evening_27.2.2
theorem zy_b10evening_28 : decode cX2_tell 0 = .ok (.aload_n 0, 1) ∧ decode cX2_tell 1 = .ok (.iconst 0, 1) ∧ decode cX2_tell 2 = .ok (.putfield 60, 3) ∧ decode cX2_tell 5 = .ok (.iconst 0, 1) ∧ decode cX2_tell 6 = .ok (.istore_n 1, 1) ∧ decode cX2_tell 7 = .ok (.iconst 0, 1) ∧ decode cX2_tell 8 = .ok (.istore_n 2, 1) ∧ decode cX2_tell 9 = .ok (.iload_n 2, 1) := by decide +kernel
theorem dX2_tell_0 : decode cX2_tell 0 = .ok (.aload_n 0, 1) := zy_b10evening_28.1
theorem dX2_tell_1 : decode cX2_tell 1 = .ok (.iconst 0, 1) := zy_b10evening_28.2.1
theorem dX2_tell_2 : decode cX2_tell 2 = .ok (.putfield 60, 3) := zy_b10evening_28.2.2.1
theorem dX2_tell_5 : decode cX2_tell 5 = .ok (.iconst 0, 1) := zy_b10evening_28.2.2.2.1
theorem dX2_tell_6 : decode cX2_tell 6 = .ok (.istore_n 1, 1) := zy_b10evening_28.2.2.2.2.1
theorem dX2_tell_7 : decode cX2_tell 7 = .ok (.iconst 0, 1) := zy_b10evening_28.2.2.2.2.2.1
theorem dX2_tell_8 : decode cX2_tell 8 = .ok (.istore_n 2, 1) := zy_b10evening_28.2.2.2.2.2.2.1
theorem dX2_tell_9 : decode cX2_tell 9 = .ok (.iload_n 2, 1) := zy_b10evening_28.2.2.2.2.2.2.2
theorem zy_b10evening_29 : decode cX2_tell 10 = .ok (.bipush 8, 2) ∧ decode cX2_tell 12 = .ok (.if_icmp .ge 36, 3) ∧ decode cX2_tell 15 = .ok (.aload_n 0, 1) ∧ decode cX2_tell 16 = .ok (.getfield 18, 3) ∧ decode cX2_tell 19 = .ok (.iload_n 2, 1) ∧ decode cX2_tell 20 = .ok (.aload_n 0, 1) ∧ decode cX2_tell 21 = .ok (.getfield 9, 3) ∧ decode cX2_tell 24 = .ok (.iload_n 2, 1) := by decide +kernel
theorem dX2_tell_10 : decode cX2_tell 10 = .ok (.bipush 8, 2) := zy_b10evening_29.1
theorem dX2_tell_12 : decode cX2_tell 12 = .ok (.if_icmp .ge 36, 3) := zy_b10evening_29.2.1
theorem dX2_tell_15 : decode cX2_tell 15 = .ok (.aload_n 0, 1) := zy_b10evening_29.2.2.1
theorem dX2_tell_16 : decode cX2_tell 16 = .ok (.getfield 18, 3) := zy_b10evening_29.2.2.2.1
theorem dX2_tell_19 : decode cX2_tell 19 = .ok (.iload_n 2, 1) := zy_b10evening_29.2.2.2.2.1
theorem dX2_tell_20 : decode cX2_tell 20 = .ok (.aload_n 0, 1) := zy_b10evening_29.2.2.2.2.2.1
theorem dX2_tell_21 : decode cX2_tell 21 = .ok (.getfield 9, 3) := zy_b10evening_29.2.2.2.2.2.2.1
theorem dX2_tell_24 : decode cX2_tell 24 = .ok (.iload_n 2, 1) := zy_b10evening_29.2.2.2.2.2.2.2
theorem zy_b10evening_30 : decode cX2_tell 25 = .ok (.iaload, 1) ∧ decode cX2_tell 26 = .ok (.iastore, 1) ∧ decode cX2_tell 27 = .ok (.aload_n 0, 1) ∧ decode cX2_tell 28 = .ok (.getfield 9, 3) ∧ decode cX2_tell 31 = .ok (.iload_n 2, 1) ∧ decode cX2_tell 32 = .ok (.iaload, 1) ∧ decode cX2_tell 33 = .ok (.ifCond .eq 9, 3) ∧ decode cX2_tell 36 = .ok (.iload_n 1, 1) := by decide +kernel
theorem dX2_tell_25 : decode cX2_tell 25 = .ok (.iaload, 1) := zy_b10evening_30.1
theorem dX2_tell_26 : decode cX2_tell 26 = .ok (.iastore, 1) := zy_b10evening_30.2.1
theorem dX2_tell_27 : decode cX2_tell 27 = .ok (.aload_n 0, 1) := zy_b10evening_30.2.2.1
theorem dX2_tell_28 : decode cX2_tell 28 = .ok (.getfield 9, 3) := zy_b10evening_30.2.2.2.1
theorem dX2_tell_31 : decode cX2_tell 31 = .ok (.iload_n 2, 1) := zy_b10evening_30.2.2.2.2.1
theorem dX2_tell_32 : decode cX2_tell 32 = .ok (.iaload, 1) := zy_b10evening_30.2.2.2.2.2.1
theorem dX2_tell_33 : decode cX2_tell 33 = .ok (.ifCond .eq 9, 3) := zy_b10evening_30.2.2.2.2.2.2.1
theorem dX2_tell_36 : decode cX2_tell 36 = .ok (.iload_n 1, 1) := zy_b10evening_30.2.2.2.2.2.2.2
theorem zy_b10evening_31 : decode cX2_tell 37 = .ok (.iconst 1, 1) ∧ decode cX2_tell 38 = .ok (.iload_n 2, 1) ∧ decode cX2_tell 39 = .ok (.ishl, 1) ∧ decode cX2_tell 40 = .ok (.ior, 1) ∧ decode cX2_tell 41 = .ok (.istore_n 1, 1) ∧ decode cX2_tell 42 = .ok (.iinc 2 1, 3) ∧ decode cX2_tell 45 = .ok (.goto (-36), 3) ∧ decode cX2_tell 48 = .ok (.aload_n 0, 1) := by decide +kernel
theorem dX2_tell_37 : decode cX2_tell 37 = .ok (.iconst 1, 1) := zy_b10evening_31.1
theorem dX2_tell_38 : decode cX2_tell 38 = .ok (.iload_n 2, 1) := zy_b10evening_31.2.1
theorem dX2_tell_39 : decode cX2_tell 39 = .ok (.ishl, 1) := zy_b10evening_31.2.2.1
theorem dX2_tell_40 : decode cX2_tell 40 = .ok (.ior, 1) := zy_b10evening_31.2.2.2.1
theorem dX2_tell_41 : decode cX2_tell 41 = .ok (.istore_n 1, 1) := zy_b10evening_31.2.2.2.2.1
theorem dX2_tell_42 : decode cX2_tell 42 = .ok (.iinc 2 1, 3) := zy_b10evening_31.2.2.2.2.2.1
theorem dX2_tell_45 : decode cX2_tell 45 = .ok (.goto (-36), 3) := zy_b10evening_31.2.2.2.2.2.2.1
theorem dX2_tell_48 : decode cX2_tell 48 = .ok (.aload_n 0, 1) := zy_b10evening_31.2.2.2.2.2.2.2
theorem zy_b10evening_32 : decode cX2_tell 49 = .ok (.invokevirtual 61, 3) ∧ decode cX2_tell 52 = .ok (.iconst 0, 1) ∧ decode cX2_tell 53 = .ok (.istore_n 2, 1) ∧ decode cX2_tell 54 = .ok (.iload_n 2, 1) ∧ decode cX2_tell 55 = .ok (.bipush 8, 2) ∧ decode cX2_tell 57 = .ok (.if_icmp .ge 30, 3) ∧ decode cX2_tell 60 = .ok (.iload_n 1, 1) ∧ decode cX2_tell 61 = .ok (.ifCond .eq 26, 3) := by decide +kernel
theorem dX2_tell_49 : decode cX2_tell 49 = .ok (.invokevirtual 61, 3) := zy_b10evening_32.1
theorem dX2_tell_52 : decode cX2_tell 52 = .ok (.iconst 0, 1) := zy_b10evening_32.2.1
theorem dX2_tell_53 : decode cX2_tell 53 = .ok (.istore_n 2, 1) := zy_b10evening_32.2.2.1
theorem dX2_tell_54 : decode cX2_tell 54 = .ok (.iload_n 2, 1) := zy_b10evening_32.2.2.2.1
theorem dX2_tell_55 : decode cX2_tell 55 = .ok (.bipush 8, 2) := zy_b10evening_32.2.2.2.2.1
theorem dX2_tell_57 : decode cX2_tell 57 = .ok (.if_icmp .ge 30, 3) := zy_b10evening_32.2.2.2.2.2.1
theorem dX2_tell_60 : decode cX2_tell 60 = .ok (.iload_n 1, 1) := zy_b10evening_32.2.2.2.2.2.2.1
theorem dX2_tell_61 : decode cX2_tell 61 = .ok (.ifCond .eq 26, 3) := zy_b10evening_32.2.2.2.2.2.2.2
theorem zy_b10evening_33 : decode cX2_tell 64 = .ok (.aload_n 0, 1) ∧ decode cX2_tell 65 = .ok (.iload_n 1, 1) ∧ decode cX2_tell 66 = .ok (.invokevirtual 64, 3) ∧ decode cX2_tell 69 = .ok (.istore_n 3, 1) ∧ decode cX2_tell 70 = .ok (.aload_n 0, 1) ∧ decode cX2_tell 71 = .ok (.iload_n 3, 1) ∧ decode cX2_tell 72 = .ok (.invokevirtual 68, 3) ∧ decode cX2_tell 75 = .ok (.iload_n 1, 1) := by decide +kernel
theorem dX2_tell_64 : decode cX2_tell 64 = .ok (.aload_n 0, 1) := zy_b10evening_33.1
theorem dX2_tell_65 : decode cX2_tell 65 = .ok (.iload_n 1, 1) := zy_b10evening_33.2.1
theorem dX2_tell_66 : decode cX2_tell 66 = .ok (.invokevirtual 64, 3) := zy_b10evening_33.2.2.1
theorem dX2_tell_69 : decode cX2_tell 69 = .ok (.istore_n 3, 1) := zy_b10evening_33.2.2.2.1
theorem dX2_tell_70 : decode cX2_tell 70 = .ok (.aload_n 0, 1) := zy_b10evening_33.2.2.2.2.1
theorem dX2_tell_71 : decode cX2_tell 71 = .ok (.iload_n 3, 1) := zy_b10evening_33.2.2.2.2.2.1
theorem dX2_tell_72 : decode cX2_tell 72 = .ok (.invokevirtual 68, 3) := zy_b10evening_33.2.2.2.2.2.2.1
theorem dX2_tell_75 : decode cX2_tell 75 = .ok (.iload_n 1, 1) := zy_b10evening_33.2.2.2.2.2.2.2
theorem zy_b10evening_34 : decode cX2_tell 76 = .ok (.iload_n 3, 1) ∧ decode cX2_tell 77 = .ok (.iconst (-1), 1) ∧ decode cX2_tell 78 = .ok (.ixor, 1) ∧ decode cX2_tell 79 = .ok (.iand, 1) ∧ decode cX2_tell 80 = .ok (.istore_n 1, 1) ∧ decode cX2_tell 81 = .ok (.iinc 2 1, 3) ∧ decode cX2_tell 84 = .ok (.goto (-30), 3) ∧ decode cX2_tell 87 = .ok (.return_, 1) := by decide +kernel
theorem dX2_tell_76 : decode cX2_tell 76 = .ok (.iload_n 3, 1) := zy_b10evening_34.1
theorem dX2_tell_77 : decode cX2_tell 77 = .ok (.iconst (-1), 1) := zy_b10evening_34.2.1
theorem dX2_tell_78 : decode cX2_tell 78 = .ok (.ixor, 1) := zy_b10evening_34.2.2.1
theorem dX2_tell_79 : decode cX2_tell 79 = .ok (.iand, 1) := zy_b10evening_34.2.2.2.1
theorem dX2_tell_80 : decode cX2_tell 80 = .ok (.istore_n 1, 1) := zy_b10evening_34.2.2.2.2.1
theorem dX2_tell_81 : decode cX2_tell 81 = .ok (.iinc 2 1, 3) := zy_b10evening_34.2.2.2.2.2.1
theorem dX2_tell_84 : decode cX2_tell 84 = .ok (.goto (-30), 3) := zy_b10evening_34.2.2.2.2.2.2.1
theorem dX2_tell_87 : decode cX2_tell 87 = .ok (.return_, 1) := zy_b10evening_34.2.2.2.2.2.2.2
theorem zz_and_nI {r : Nat} (hr : r < 2147483648) (y : Int32) : nI r &&& y = nI (r &&& y.toBitVec.toNat) := by
  apply Int32.toBitVec_inj.mp
  apply BitVec.eq_of_toNat_eq
  rw [Int32.toBitVec_and, BitVec.toNat_and, pk_tn (n := r) (by omega), pk_tn (by have := Nat.and_le_left (n := r) (m := y.toBitVec.toNat); omega)]
