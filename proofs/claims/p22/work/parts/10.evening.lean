theorem tw_102 : Cond.fieldLink RX2 18 "HandsReturned$Evening" "unsettled" "[I" ∈ zz_all := zz_m1 191 rfl rfl
theorem tw_103 : Cond.fieldLink RX2 21 "HandsReturned$Evening" "netOfSet" "[I" ∈ zz_all := zz_m1 192 rfl rfl
theorem tw_104 : Cond.fieldLink RX2 24 "HandsReturned$Evening" "groupsOfSet" "[I" ∈ zz_all := zz_m1 193 rfl rfl
theorem tw_105 : Cond.fieldLink RX2 60 "HandsReturned$Evening" "count" "I" ∈ zz_all := zz_m1 200 rfl rfl
theorem tw_106 : Cond.code yX2_leastInGroup cX2_leastInGroup 4 (some .int) ∈ zz_all := zz_m3 107 rfl rfl
theorem tw_107 : Cond.initialized RX2 ∈ zz_all := zz_m1 8 rfl rfl
theorem tw_108 : Cond.methodLink RX2 78 yX2_leastInGroup ∈ zz_all := zz_m3 104 rfl rfl
theorem tw_109 : Cond.instanceMethod yX2_leastInGroup ∈ zz_all := zz_m3 106 rfl rfl
theorem tw_110 : Cond.selects RX2 yX2_leastInGroup yX2_leastInGroup ∈ zz_all := zz_ms 29 rfl rfl
theorem tw_111 : Cond.methodLink RX2 81 Lib.Math.min.name ∈ zz_all := zz_m3 108 rfl rfl
theorem tw_112 : Cond.fieldLink RX2 27 "HandsReturned$Evening" "payers" "[I" ∈ zz_all := zz_m1 194 rfl rfl
theorem tw_113 : Cond.fieldLink RX2 30 "HandsReturned$Evening" "payees" "[I" ∈ zz_all := zz_m1 196 rfl rfl
theorem tw_114 : Cond.fieldLink RX2 33 "HandsReturned$Evening" "units" "[I" ∈ zz_all := zz_m1 198 rfl rfl
theorem tw_115 : Cond.fieldLink RX2 9 "HandsReturned$Evening" "nets" "[I" ∈ zz_all := zz_m1 189 rfl rfl
theorem tw_116 : Cond.methodLink RX2 72 Lib.Math.max.name ∈ zz_all := zz_m3 95 rfl rfl
theorem tw_117 : Cond.code yX2_countGroups cX2_countGroups 5 none ∈ zz_all := zz_m3 94 rfl rfl
theorem tw_118 : Cond.methodLink RX2 61 yX2_countGroups ∈ zz_all := zz_m3 91 rfl rfl
theorem tw_119 : Cond.instanceMethod yX2_countGroups ∈ zz_all := zz_m3 93 rfl rfl
theorem tw_120 : Cond.selects RX2 yX2_countGroups yX2_countGroups ∈ zz_all := zz_ms 26 rfl rfl
theorem tw_121 : Cond.code yX2_leastGroup cX2_leastGroup 5 (some .int) ∈ zz_all := zz_m3 99 rfl rfl
theorem tw_122 : Cond.methodLink RX2 64 yX2_leastGroup ∈ zz_all := zz_m3 96 rfl rfl
theorem tw_123 : Cond.instanceMethod yX2_leastGroup ∈ zz_all := zz_m3 98 rfl rfl
theorem tw_124 : Cond.selects RX2 yX2_leastGroup yX2_leastGroup ∈ zz_all := zz_ms 27 rfl rfl
theorem tw_125 : Cond.code yX2_payWithin cX2_payWithin 6 none ∈ zz_all := zz_m3 103 rfl rfl
theorem tw_126 : Cond.methodLink RX2 68 yX2_payWithin ∈ zz_all := zz_m3 100 rfl rfl
theorem tw_127 : Cond.instanceMethod yX2_payWithin ∈ zz_all := zz_m3 102 rfl rfl
theorem tw_128 : Cond.selects RX2 yX2_payWithin yX2_payWithin ∈ zz_all := zz_ms 28 rfl rfl
theorem zy_b10evening_0 : decode cX2_leastInGroup 0 = .ok (.iconst 0, 1) ∧ decode cX2_leastInGroup 1 = .ok (.istore_n 3, 1) ∧ decode cX2_leastInGroup 2 = .ok (.iload_n 3, 1) ∧ decode cX2_leastInGroup 3 = .ok (.bipush 8, 2) ∧ decode cX2_leastInGroup 5 = .ok (.if_icmp .ge 30, 3) ∧ decode cX2_leastInGroup 8 = .ok (.iload_n 1, 1) ∧ decode cX2_leastInGroup 9 = .ok (.iconst 1, 1) ∧ decode cX2_leastInGroup 10 = .ok (.iload_n 3, 1) := by decide +kernel
theorem dX2_leastInGroup_0 : decode cX2_leastInGroup 0 = .ok (.iconst 0, 1) := zy_b10evening_0.1
theorem dX2_leastInGroup_1 : decode cX2_leastInGroup 1 = .ok (.istore_n 3, 1) := zy_b10evening_0.2.1
theorem dX2_leastInGroup_2 : decode cX2_leastInGroup 2 = .ok (.iload_n 3, 1) := zy_b10evening_0.2.2.1
theorem dX2_leastInGroup_3 : decode cX2_leastInGroup 3 = .ok (.bipush 8, 2) := zy_b10evening_0.2.2.2.1
theorem dX2_leastInGroup_5 : decode cX2_leastInGroup 5 = .ok (.if_icmp .ge 30, 3) := zy_b10evening_0.2.2.2.2.1
theorem dX2_leastInGroup_8 : decode cX2_leastInGroup 8 = .ok (.iload_n 1, 1) := zy_b10evening_0.2.2.2.2.2.1
theorem dX2_leastInGroup_9 : decode cX2_leastInGroup 9 = .ok (.iconst 1, 1) := zy_b10evening_0.2.2.2.2.2.2.1
theorem dX2_leastInGroup_10 : decode cX2_leastInGroup 10 = .ok (.iload_n 3, 1) := zy_b10evening_0.2.2.2.2.2.2.2
theorem zy_b10evening_1 : decode cX2_leastInGroup 11 = .ok (.ishl, 1) ∧ decode cX2_leastInGroup 12 = .ok (.iand, 1) ∧ decode cX2_leastInGroup 13 = .ok (.ifCond .eq 16, 3) ∧ decode cX2_leastInGroup 16 = .ok (.aload_n 0, 1) ∧ decode cX2_leastInGroup 17 = .ok (.getfield 18, 3) ∧ decode cX2_leastInGroup 20 = .ok (.iload_n 3, 1) ∧ decode cX2_leastInGroup 21 = .ok (.iaload, 1) ∧ decode cX2_leastInGroup 22 = .ok (.iload_n 2, 1) := by decide +kernel
theorem dX2_leastInGroup_11 : decode cX2_leastInGroup 11 = .ok (.ishl, 1) := zy_b10evening_1.1
theorem dX2_leastInGroup_12 : decode cX2_leastInGroup 12 = .ok (.iand, 1) := zy_b10evening_1.2.1
theorem dX2_leastInGroup_13 : decode cX2_leastInGroup 13 = .ok (.ifCond .eq 16, 3) := zy_b10evening_1.2.2.1
theorem dX2_leastInGroup_16 : decode cX2_leastInGroup 16 = .ok (.aload_n 0, 1) := zy_b10evening_1.2.2.2.1
theorem dX2_leastInGroup_17 : decode cX2_leastInGroup 17 = .ok (.getfield 18, 3) := zy_b10evening_1.2.2.2.2.1
theorem dX2_leastInGroup_20 : decode cX2_leastInGroup 20 = .ok (.iload_n 3, 1) := zy_b10evening_1.2.2.2.2.2.1
theorem dX2_leastInGroup_21 : decode cX2_leastInGroup 21 = .ok (.iaload, 1) := zy_b10evening_1.2.2.2.2.2.2.1
theorem dX2_leastInGroup_22 : decode cX2_leastInGroup 22 = .ok (.iload_n 2, 1) := zy_b10evening_1.2.2.2.2.2.2.2
theorem zy_b10evening_2 : decode cX2_leastInGroup 23 = .ok (.imul, 1) ∧ decode cX2_leastInGroup 24 = .ok (.ifCond .le 5, 3) ∧ decode cX2_leastInGroup 27 = .ok (.iload_n 3, 1) ∧ decode cX2_leastInGroup 28 = .ok (.ireturn, 1) ∧ decode cX2_leastInGroup 29 = .ok (.iinc 3 1, 3) ∧ decode cX2_leastInGroup 32 = .ok (.goto (-30), 3) ∧ decode cX2_leastInGroup 35 = .ok (.iconst (-1), 1) ∧ decode cX2_leastInGroup 36 = .ok (.ireturn, 1) := by decide +kernel
theorem dX2_leastInGroup_23 : decode cX2_leastInGroup 23 = .ok (.imul, 1) := zy_b10evening_2.1
theorem dX2_leastInGroup_24 : decode cX2_leastInGroup 24 = .ok (.ifCond .le 5, 3) := zy_b10evening_2.2.1
theorem dX2_leastInGroup_27 : decode cX2_leastInGroup 27 = .ok (.iload_n 3, 1) := zy_b10evening_2.2.2.1
theorem dX2_leastInGroup_28 : decode cX2_leastInGroup 28 = .ok (.ireturn, 1) := zy_b10evening_2.2.2.2.1
theorem dX2_leastInGroup_29 : decode cX2_leastInGroup 29 = .ok (.iinc 3 1, 3) := zy_b10evening_2.2.2.2.2.1
theorem dX2_leastInGroup_32 : decode cX2_leastInGroup 32 = .ok (.goto (-30), 3) := zy_b10evening_2.2.2.2.2.2.1
theorem dX2_leastInGroup_35 : decode cX2_leastInGroup 35 = .ok (.iconst (-1), 1) := zy_b10evening_2.2.2.2.2.2.2.1
theorem dX2_leastInGroup_36 : decode cX2_leastInGroup 36 = .ok (.ireturn, 1) := zy_b10evening_2.2.2.2.2.2.2.2
theorem zy_b10evening_3 : decode cX2_leastGroup 0 = .ok (.iload_n 1, 1) ∧ decode cX2_leastGroup 1 = .ok (.iload_n 1, 1) ∧ decode cX2_leastGroup 2 = .ok (.ineg, 1) ∧ decode cX2_leastGroup 3 = .ok (.iand, 1) ∧ decode cX2_leastGroup 4 = .ok (.istore_n 2, 1) ∧ decode cX2_leastGroup 5 = .ok (.iload_n 2, 1) ∧ decode cX2_leastGroup 6 = .ok (.istore_n 3, 1) ∧ decode cX2_leastGroup 7 = .ok (.iload_n 3, 1) := by decide +kernel
theorem dX2_leastGroup_0 : decode cX2_leastGroup 0 = .ok (.iload_n 1, 1) := zy_b10evening_3.1
theorem dX2_leastGroup_1 : decode cX2_leastGroup 1 = .ok (.iload_n 1, 1) := zy_b10evening_3.2.1
theorem dX2_leastGroup_2 : decode cX2_leastGroup 2 = .ok (.ineg, 1) := zy_b10evening_3.2.2.1
theorem dX2_leastGroup_3 : decode cX2_leastGroup 3 = .ok (.iand, 1) := zy_b10evening_3.2.2.2.1
theorem dX2_leastGroup_4 : decode cX2_leastGroup 4 = .ok (.istore_n 2, 1) := zy_b10evening_3.2.2.2.2.1
theorem dX2_leastGroup_5 : decode cX2_leastGroup 5 = .ok (.iload_n 2, 1) := zy_b10evening_3.2.2.2.2.2.1
theorem dX2_leastGroup_6 : decode cX2_leastGroup 6 = .ok (.istore_n 3, 1) := zy_b10evening_3.2.2.2.2.2.2.1
theorem dX2_leastGroup_7 : decode cX2_leastGroup 7 = .ok (.iload_n 3, 1) := zy_b10evening_3.2.2.2.2.2.2.2
theorem zy_b10evening_4 : decode cX2_leastGroup 8 = .ok (.iload_n 1, 1) ∧ decode cX2_leastGroup 9 = .ok (.if_icmp .ge 72, 3) ∧ decode cX2_leastGroup 12 = .ok (.iload_n 3, 1) ∧ decode cX2_leastGroup 13 = .ok (.sipush 256, 3) ∧ decode cX2_leastGroup 16 = .ok (.if_icmp .ge 65, 3) ∧ decode cX2_leastGroup 19 = .ok (.iload_n 3, 1) ∧ decode cX2_leastGroup 20 = .ok (.iload_n 1, 1) ∧ decode cX2_leastGroup 21 = .ok (.iconst (-1), 1) := by decide +kernel
theorem dX2_leastGroup_8 : decode cX2_leastGroup 8 = .ok (.iload_n 1, 1) := zy_b10evening_4.1
theorem dX2_leastGroup_9 : decode cX2_leastGroup 9 = .ok (.if_icmp .ge 72, 3) := zy_b10evening_4.2.1
theorem dX2_leastGroup_12 : decode cX2_leastGroup 12 = .ok (.iload_n 3, 1) := zy_b10evening_4.2.2.1
theorem dX2_leastGroup_13 : decode cX2_leastGroup 13 = .ok (.sipush 256, 3) := zy_b10evening_4.2.2.2.1
theorem dX2_leastGroup_16 : decode cX2_leastGroup 16 = .ok (.if_icmp .ge 65, 3) := zy_b10evening_4.2.2.2.2.1
theorem dX2_leastGroup_19 : decode cX2_leastGroup 19 = .ok (.iload_n 3, 1) := zy_b10evening_4.2.2.2.2.2.1
theorem dX2_leastGroup_20 : decode cX2_leastGroup 20 = .ok (.iload_n 1, 1) := zy_b10evening_4.2.2.2.2.2.2.1
theorem dX2_leastGroup_21 : decode cX2_leastGroup 21 = .ok (.iconst (-1), 1) := zy_b10evening_4.2.2.2.2.2.2.2
theorem zy_b10evening_5 : decode cX2_leastGroup 22 = .ok (.ixor, 1) ∧ decode cX2_leastGroup 23 = .ok (.iand, 1) ∧ decode cX2_leastGroup 24 = .ok (.ifCond .ne 22, 3) ∧ decode cX2_leastGroup 27 = .ok (.iload_n 3, 1) ∧ decode cX2_leastGroup 28 = .ok (.iload_n 2, 1) ∧ decode cX2_leastGroup 29 = .ok (.iand, 1) ∧ decode cX2_leastGroup 30 = .ok (.ifCond .eq 16, 3) ∧ decode cX2_leastGroup 33 = .ok (.aload_n 0, 1) := by decide +kernel
theorem dX2_leastGroup_22 : decode cX2_leastGroup 22 = .ok (.ixor, 1) := zy_b10evening_5.1
theorem dX2_leastGroup_23 : decode cX2_leastGroup 23 = .ok (.iand, 1) := zy_b10evening_5.2.1
theorem dX2_leastGroup_24 : decode cX2_leastGroup 24 = .ok (.ifCond .ne 22, 3) := zy_b10evening_5.2.2.1
theorem dX2_leastGroup_27 : decode cX2_leastGroup 27 = .ok (.iload_n 3, 1) := zy_b10evening_5.2.2.2.1
theorem dX2_leastGroup_28 : decode cX2_leastGroup 28 = .ok (.iload_n 2, 1) := zy_b10evening_5.2.2.2.2.1
theorem dX2_leastGroup_29 : decode cX2_leastGroup 29 = .ok (.iand, 1) := zy_b10evening_5.2.2.2.2.2.1
theorem dX2_leastGroup_30 : decode cX2_leastGroup 30 = .ok (.ifCond .eq 16, 3) := zy_b10evening_5.2.2.2.2.2.2.1
theorem dX2_leastGroup_33 : decode cX2_leastGroup 33 = .ok (.aload_n 0, 1) := zy_b10evening_5.2.2.2.2.2.2.2
theorem zy_b10evening_6 : decode cX2_leastGroup 34 = .ok (.getfield 21, 3) ∧ decode cX2_leastGroup 37 = .ok (.iload_n 3, 1) ∧ decode cX2_leastGroup 38 = .ok (.iaload, 1) ∧ decode cX2_leastGroup 39 = .ok (.ifCond .ne 7, 3) ∧ decode cX2_leastGroup 42 = .ok (.iconst 1, 1) ∧ decode cX2_leastGroup 43 = .ok (.goto 4, 3) ∧ decode cX2_leastGroup 46 = .ok (.iconst 0, 1) ∧ decode cX2_leastGroup 47 = .ok (.istore 4, 2) := by decide +kernel
theorem dX2_leastGroup_34 : decode cX2_leastGroup 34 = .ok (.getfield 21, 3) := zy_b10evening_6.1
theorem dX2_leastGroup_37 : decode cX2_leastGroup 37 = .ok (.iload_n 3, 1) := zy_b10evening_6.2.1
theorem dX2_leastGroup_38 : decode cX2_leastGroup 38 = .ok (.iaload, 1) := zy_b10evening_6.2.2.1
theorem dX2_leastGroup_39 : decode cX2_leastGroup 39 = .ok (.ifCond .ne 7, 3) := zy_b10evening_6.2.2.2.1
theorem dX2_leastGroup_42 : decode cX2_leastGroup 42 = .ok (.iconst 1, 1) := zy_b10evening_6.2.2.2.2.1
theorem dX2_leastGroup_43 : decode cX2_leastGroup 43 = .ok (.goto 4, 3) := zy_b10evening_6.2.2.2.2.2.1
theorem dX2_leastGroup_46 : decode cX2_leastGroup 46 = .ok (.iconst 0, 1) := zy_b10evening_6.2.2.2.2.2.2.1
theorem dX2_leastGroup_47 : decode cX2_leastGroup 47 = .ok (.istore 4, 2) := zy_b10evening_6.2.2.2.2.2.2.2
theorem zy_b10evening_7 : decode cX2_leastGroup 49 = .ok (.iload 4, 2) ∧ decode cX2_leastGroup 51 = .ok (.ifCond .eq 24, 3) ∧ decode cX2_leastGroup 54 = .ok (.aload_n 0, 1) ∧ decode cX2_leastGroup 55 = .ok (.getfield 24, 3) ∧ decode cX2_leastGroup 58 = .ok (.iload_n 1, 1) ∧ decode cX2_leastGroup 59 = .ok (.iload_n 3, 1) ∧ decode cX2_leastGroup 60 = .ok (.ixor, 1) ∧ decode cX2_leastGroup 61 = .ok (.iaload, 1) := by decide +kernel
theorem dX2_leastGroup_49 : decode cX2_leastGroup 49 = .ok (.iload 4, 2) := zy_b10evening_7.1
theorem dX2_leastGroup_51 : decode cX2_leastGroup 51 = .ok (.ifCond .eq 24, 3) := zy_b10evening_7.2.1
theorem dX2_leastGroup_54 : decode cX2_leastGroup 54 = .ok (.aload_n 0, 1) := zy_b10evening_7.2.2.1
theorem dX2_leastGroup_55 : decode cX2_leastGroup 55 = .ok (.getfield 24, 3) := zy_b10evening_7.2.2.2.1
theorem dX2_leastGroup_58 : decode cX2_leastGroup 58 = .ok (.iload_n 1, 1) := zy_b10evening_7.2.2.2.2.1
theorem dX2_leastGroup_59 : decode cX2_leastGroup 59 = .ok (.iload_n 3, 1) := zy_b10evening_7.2.2.2.2.2.1
theorem dX2_leastGroup_60 : decode cX2_leastGroup 60 = .ok (.ixor, 1) := zy_b10evening_7.2.2.2.2.2.2.1
theorem dX2_leastGroup_61 : decode cX2_leastGroup 61 = .ok (.iaload, 1) := zy_b10evening_7.2.2.2.2.2.2.2
theorem zy_b10evening_8 : decode cX2_leastGroup 62 = .ok (.aload_n 0, 1) ∧ decode cX2_leastGroup 63 = .ok (.getfield 24, 3) ∧ decode cX2_leastGroup 66 = .ok (.iload_n 1, 1) ∧ decode cX2_leastGroup 67 = .ok (.iaload, 1) ∧ decode cX2_leastGroup 68 = .ok (.iconst 1, 1) ∧ decode cX2_leastGroup 69 = .ok (.isub, 1) ∧ decode cX2_leastGroup 70 = .ok (.if_icmp .ne 5, 3) ∧ decode cX2_leastGroup 73 = .ok (.iload_n 3, 1) := by decide +kernel
theorem dX2_leastGroup_62 : decode cX2_leastGroup 62 = .ok (.aload_n 0, 1) := zy_b10evening_8.1
theorem dX2_leastGroup_63 : decode cX2_leastGroup 63 = .ok (.getfield 24, 3) := zy_b10evening_8.2.1
theorem dX2_leastGroup_66 : decode cX2_leastGroup 66 = .ok (.iload_n 1, 1) := zy_b10evening_8.2.2.1
theorem dX2_leastGroup_67 : decode cX2_leastGroup 67 = .ok (.iaload, 1) := zy_b10evening_8.2.2.2.1
theorem dX2_leastGroup_68 : decode cX2_leastGroup 68 = .ok (.iconst 1, 1) := zy_b10evening_8.2.2.2.2.1
theorem dX2_leastGroup_69 : decode cX2_leastGroup 69 = .ok (.isub, 1) := zy_b10evening_8.2.2.2.2.2.1
theorem dX2_leastGroup_70 : decode cX2_leastGroup 70 = .ok (.if_icmp .ne 5, 3) := zy_b10evening_8.2.2.2.2.2.2.1
theorem dX2_leastGroup_73 : decode cX2_leastGroup 73 = .ok (.iload_n 3, 1) := zy_b10evening_8.2.2.2.2.2.2.2
theorem zy_b10evening_9 : decode cX2_leastGroup 74 = .ok (.ireturn, 1) ∧ decode cX2_leastGroup 75 = .ok (.iinc 3 1, 3) ∧ decode cX2_leastGroup 78 = .ok (.goto (-71), 3) ∧ decode cX2_leastGroup 81 = .ok (.iload_n 1, 1) ∧ decode cX2_leastGroup 82 = .ok (.ireturn, 1) := by decide +kernel
theorem dX2_leastGroup_74 : decode cX2_leastGroup 74 = .ok (.ireturn, 1) := zy_b10evening_9.1
theorem dX2_leastGroup_75 : decode cX2_leastGroup 75 = .ok (.iinc 3 1, 3) := zy_b10evening_9.2.1
theorem dX2_leastGroup_78 : decode cX2_leastGroup 78 = .ok (.goto (-71), 3) := zy_b10evening_9.2.2.1
theorem dX2_leastGroup_81 : decode cX2_leastGroup 81 = .ok (.iload_n 1, 1) := zy_b10evening_9.2.2.2.1
theorem dX2_leastGroup_82 : decode cX2_leastGroup 82 = .ok (.ireturn, 1) := zy_b10evening_9.2.2.2.2
theorem zy_b10evening_10 : decode cX2_payWithin 0 = .ok (.iconst 0, 1) ∧ decode cX2_payWithin 1 = .ok (.istore_n 2, 1) ∧ decode cX2_payWithin 2 = .ok (.iload_n 2, 1) ∧ decode cX2_payWithin 3 = .ok (.bipush 8, 2) ∧ decode cX2_payWithin 5 = .ok (.if_icmp .ge 129, 3) ∧ decode cX2_payWithin 8 = .ok (.aload_n 0, 1) ∧ decode cX2_payWithin 9 = .ok (.getfield 60, 3) ∧ decode cX2_payWithin 12 = .ok (.bipush 8, 2) := by decide +kernel
theorem dX2_payWithin_0 : decode cX2_payWithin 0 = .ok (.iconst 0, 1) := zy_b10evening_10.1
theorem dX2_payWithin_1 : decode cX2_payWithin 1 = .ok (.istore_n 2, 1) := zy_b10evening_10.2.1
theorem dX2_payWithin_2 : decode cX2_payWithin 2 = .ok (.iload_n 2, 1) := zy_b10evening_10.2.2.1
theorem dX2_payWithin_3 : decode cX2_payWithin 3 = .ok (.bipush 8, 2) := zy_b10evening_10.2.2.2.1
theorem dX2_payWithin_5 : decode cX2_payWithin 5 = .ok (.if_icmp .ge 129, 3) := zy_b10evening_10.2.2.2.2.1
theorem dX2_payWithin_8 : decode cX2_payWithin 8 = .ok (.aload_n 0, 1) := zy_b10evening_10.2.2.2.2.2.1
theorem dX2_payWithin_9 : decode cX2_payWithin 9 = .ok (.getfield 60, 3) := zy_b10evening_10.2.2.2.2.2.2.1
theorem dX2_payWithin_12 : decode cX2_payWithin 12 = .ok (.bipush 8, 2) := zy_b10evening_10.2.2.2.2.2.2.2
theorem zy_b10evening_11 : decode cX2_payWithin 14 = .ok (.if_icmp .ge 120, 3) ∧ decode cX2_payWithin 17 = .ok (.aload_n 0, 1) ∧ decode cX2_payWithin 18 = .ok (.iload_n 1, 1) ∧ decode cX2_payWithin 19 = .ok (.iconst (-1), 1) ∧ decode cX2_payWithin 20 = .ok (.invokevirtual 78, 3) ∧ decode cX2_payWithin 23 = .ok (.istore_n 3, 1) ∧ decode cX2_payWithin 24 = .ok (.aload_n 0, 1) ∧ decode cX2_payWithin 25 = .ok (.iload_n 1, 1) := by decide +kernel
theorem dX2_payWithin_14 : decode cX2_payWithin 14 = .ok (.if_icmp .ge 120, 3) := zy_b10evening_11.1
theorem dX2_payWithin_17 : decode cX2_payWithin 17 = .ok (.aload_n 0, 1) := zy_b10evening_11.2.1
theorem dX2_payWithin_18 : decode cX2_payWithin 18 = .ok (.iload_n 1, 1) := zy_b10evening_11.2.2.1
theorem dX2_payWithin_19 : decode cX2_payWithin 19 = .ok (.iconst (-1), 1) := zy_b10evening_11.2.2.2.1
theorem dX2_payWithin_20 : decode cX2_payWithin 20 = .ok (.invokevirtual 78, 3) := zy_b10evening_11.2.2.2.2.1
theorem dX2_payWithin_23 : decode cX2_payWithin 23 = .ok (.istore_n 3, 1) := zy_b10evening_11.2.2.2.2.2.1
theorem dX2_payWithin_24 : decode cX2_payWithin 24 = .ok (.aload_n 0, 1) := zy_b10evening_11.2.2.2.2.2.2.1
theorem dX2_payWithin_25 : decode cX2_payWithin 25 = .ok (.iload_n 1, 1) := zy_b10evening_11.2.2.2.2.2.2.2
theorem zy_b10evening_12 : decode cX2_payWithin 26 = .ok (.iconst 1, 1) ∧ decode cX2_payWithin 27 = .ok (.invokevirtual 78, 3) ∧ decode cX2_payWithin 30 = .ok (.istore 4, 2) ∧ decode cX2_payWithin 32 = .ok (.iload_n 3, 1) ∧ decode cX2_payWithin 33 = .ok (.iconst (-1), 1) ∧ decode cX2_payWithin 34 = .ok (.if_icmp .eq 9, 3) ∧ decode cX2_payWithin 37 = .ok (.iload 4, 2) ∧ decode cX2_payWithin 39 = .ok (.iconst (-1), 1) := by decide +kernel
theorem dX2_payWithin_26 : decode cX2_payWithin 26 = .ok (.iconst 1, 1) := zy_b10evening_12.1
theorem dX2_payWithin_27 : decode cX2_payWithin 27 = .ok (.invokevirtual 78, 3) := zy_b10evening_12.2.1
theorem dX2_payWithin_30 : decode cX2_payWithin 30 = .ok (.istore 4, 2) := zy_b10evening_12.2.2.1
theorem dX2_payWithin_32 : decode cX2_payWithin 32 = .ok (.iload_n 3, 1) := zy_b10evening_12.2.2.2.1
theorem dX2_payWithin_33 : decode cX2_payWithin 33 = .ok (.iconst (-1), 1) := zy_b10evening_12.2.2.2.2.1
theorem dX2_payWithin_34 : decode cX2_payWithin 34 = .ok (.if_icmp .eq 9, 3) := zy_b10evening_12.2.2.2.2.2.1
theorem dX2_payWithin_37 : decode cX2_payWithin 37 = .ok (.iload 4, 2) := zy_b10evening_12.2.2.2.2.2.2.1
theorem dX2_payWithin_39 : decode cX2_payWithin 39 = .ok (.iconst (-1), 1) := zy_b10evening_12.2.2.2.2.2.2.2
theorem zy_b10evening_13 : decode cX2_payWithin 40 = .ok (.if_icmp .ne 4, 3) ∧ decode cX2_payWithin 43 = .ok (.return_, 1) ∧ decode cX2_payWithin 44 = .ok (.aload_n 0, 1) ∧ decode cX2_payWithin 45 = .ok (.getfield 18, 3) ∧ decode cX2_payWithin 48 = .ok (.iload_n 3, 1) ∧ decode cX2_payWithin 49 = .ok (.iaload, 1) ∧ decode cX2_payWithin 50 = .ok (.ineg, 1) ∧ decode cX2_payWithin 51 = .ok (.aload_n 0, 1) := by decide +kernel
theorem dX2_payWithin_40 : decode cX2_payWithin 40 = .ok (.if_icmp .ne 4, 3) := zy_b10evening_13.1
theorem dX2_payWithin_43 : decode cX2_payWithin 43 = .ok (.return_, 1) := zy_b10evening_13.2.1
theorem dX2_payWithin_44 : decode cX2_payWithin 44 = .ok (.aload_n 0, 1) := zy_b10evening_13.2.2.1
theorem dX2_payWithin_45 : decode cX2_payWithin 45 = .ok (.getfield 18, 3) := zy_b10evening_13.2.2.2.1
theorem dX2_payWithin_48 : decode cX2_payWithin 48 = .ok (.iload_n 3, 1) := zy_b10evening_13.2.2.2.2.1
theorem dX2_payWithin_49 : decode cX2_payWithin 49 = .ok (.iaload, 1) := zy_b10evening_13.2.2.2.2.2.1
theorem dX2_payWithin_50 : decode cX2_payWithin 50 = .ok (.ineg, 1) := zy_b10evening_13.2.2.2.2.2.2.1
theorem dX2_payWithin_51 : decode cX2_payWithin 51 = .ok (.aload_n 0, 1) := zy_b10evening_13.2.2.2.2.2.2.2
theorem zy_b10evening_14 : decode cX2_payWithin 52 = .ok (.getfield 18, 3) ∧ decode cX2_payWithin 55 = .ok (.iload 4, 2) ∧ decode cX2_payWithin 57 = .ok (.iaload, 1) ∧ decode cX2_payWithin 58 = .ok (.invokestatic 81, 3) ∧ decode cX2_payWithin 61 = .ok (.istore 5, 2) ∧ decode cX2_payWithin 63 = .ok (.aload_n 0, 1) ∧ decode cX2_payWithin 64 = .ok (.getfield 18, 3) ∧ decode cX2_payWithin 67 = .ok (.iload_n 3, 1) := by decide +kernel
theorem dX2_payWithin_52 : decode cX2_payWithin 52 = .ok (.getfield 18, 3) := zy_b10evening_14.1
theorem dX2_payWithin_55 : decode cX2_payWithin 55 = .ok (.iload 4, 2) := zy_b10evening_14.2.1
theorem dX2_payWithin_57 : decode cX2_payWithin 57 = .ok (.iaload, 1) := zy_b10evening_14.2.2.1
theorem dX2_payWithin_58 : decode cX2_payWithin 58 = .ok (.invokestatic 81, 3) := zy_b10evening_14.2.2.2.1
theorem dX2_payWithin_61 : decode cX2_payWithin 61 = .ok (.istore 5, 2) := zy_b10evening_14.2.2.2.2.1
theorem dX2_payWithin_63 : decode cX2_payWithin 63 = .ok (.aload_n 0, 1) := zy_b10evening_14.2.2.2.2.2.1
theorem dX2_payWithin_64 : decode cX2_payWithin 64 = .ok (.getfield 18, 3) := zy_b10evening_14.2.2.2.2.2.2.1
theorem dX2_payWithin_67 : decode cX2_payWithin 67 = .ok (.iload_n 3, 1) := zy_b10evening_14.2.2.2.2.2.2.2
theorem zy_b10evening_15 : decode cX2_payWithin 68 = .ok (.dup2, 1) ∧ decode cX2_payWithin 69 = .ok (.iaload, 1) ∧ decode cX2_payWithin 70 = .ok (.iload 5, 2) ∧ decode cX2_payWithin 72 = .ok (.iadd, 1) ∧ decode cX2_payWithin 73 = .ok (.iastore, 1) ∧ decode cX2_payWithin 74 = .ok (.aload_n 0, 1) ∧ decode cX2_payWithin 75 = .ok (.getfield 18, 3) ∧ decode cX2_payWithin 78 = .ok (.iload 4, 2) := by decide +kernel
theorem dX2_payWithin_68 : decode cX2_payWithin 68 = .ok (.dup2, 1) := zy_b10evening_15.1
theorem dX2_payWithin_69 : decode cX2_payWithin 69 = .ok (.iaload, 1) := zy_b10evening_15.2.1
theorem dX2_payWithin_70 : decode cX2_payWithin 70 = .ok (.iload 5, 2) := zy_b10evening_15.2.2.1
theorem dX2_payWithin_72 : decode cX2_payWithin 72 = .ok (.iadd, 1) := zy_b10evening_15.2.2.2.1
theorem dX2_payWithin_73 : decode cX2_payWithin 73 = .ok (.iastore, 1) := zy_b10evening_15.2.2.2.2.1
theorem dX2_payWithin_74 : decode cX2_payWithin 74 = .ok (.aload_n 0, 1) := zy_b10evening_15.2.2.2.2.2.1
theorem dX2_payWithin_75 : decode cX2_payWithin 75 = .ok (.getfield 18, 3) := zy_b10evening_15.2.2.2.2.2.2.1
theorem dX2_payWithin_78 : decode cX2_payWithin 78 = .ok (.iload 4, 2) := zy_b10evening_15.2.2.2.2.2.2.2
theorem zy_b10evening_16 : decode cX2_payWithin 80 = .ok (.dup2, 1) ∧ decode cX2_payWithin 81 = .ok (.iaload, 1) ∧ decode cX2_payWithin 82 = .ok (.iload 5, 2) ∧ decode cX2_payWithin 84 = .ok (.isub, 1) ∧ decode cX2_payWithin 85 = .ok (.iastore, 1) ∧ decode cX2_payWithin 86 = .ok (.aload_n 0, 1) ∧ decode cX2_payWithin 87 = .ok (.getfield 27, 3) ∧ decode cX2_payWithin 90 = .ok (.aload_n 0, 1) := by decide +kernel
theorem dX2_payWithin_80 : decode cX2_payWithin 80 = .ok (.dup2, 1) := zy_b10evening_16.1
theorem dX2_payWithin_81 : decode cX2_payWithin 81 = .ok (.iaload, 1) := zy_b10evening_16.2.1
theorem dX2_payWithin_82 : decode cX2_payWithin 82 = .ok (.iload 5, 2) := zy_b10evening_16.2.2.1
theorem dX2_payWithin_84 : decode cX2_payWithin 84 = .ok (.isub, 1) := zy_b10evening_16.2.2.2.1
theorem dX2_payWithin_85 : decode cX2_payWithin 85 = .ok (.iastore, 1) := zy_b10evening_16.2.2.2.2.1
theorem dX2_payWithin_86 : decode cX2_payWithin 86 = .ok (.aload_n 0, 1) := zy_b10evening_16.2.2.2.2.2.1
theorem dX2_payWithin_87 : decode cX2_payWithin 87 = .ok (.getfield 27, 3) := zy_b10evening_16.2.2.2.2.2.2.1
theorem dX2_payWithin_90 : decode cX2_payWithin 90 = .ok (.aload_n 0, 1) := zy_b10evening_16.2.2.2.2.2.2.2
theorem zy_b10evening_17 : decode cX2_payWithin 91 = .ok (.getfield 60, 3) ∧ decode cX2_payWithin 94 = .ok (.iload_n 3, 1) ∧ decode cX2_payWithin 95 = .ok (.iastore, 1) ∧ decode cX2_payWithin 96 = .ok (.aload_n 0, 1) ∧ decode cX2_payWithin 97 = .ok (.getfield 30, 3) ∧ decode cX2_payWithin 100 = .ok (.aload_n 0, 1) ∧ decode cX2_payWithin 101 = .ok (.getfield 60, 3) ∧ decode cX2_payWithin 104 = .ok (.iload 4, 2) := by decide +kernel
theorem dX2_payWithin_91 : decode cX2_payWithin 91 = .ok (.getfield 60, 3) := zy_b10evening_17.1
theorem dX2_payWithin_94 : decode cX2_payWithin 94 = .ok (.iload_n 3, 1) := zy_b10evening_17.2.1
theorem dX2_payWithin_95 : decode cX2_payWithin 95 = .ok (.iastore, 1) := zy_b10evening_17.2.2.1
theorem dX2_payWithin_96 : decode cX2_payWithin 96 = .ok (.aload_n 0, 1) := zy_b10evening_17.2.2.2.1
theorem dX2_payWithin_97 : decode cX2_payWithin 97 = .ok (.getfield 30, 3) := zy_b10evening_17.2.2.2.2.1
theorem dX2_payWithin_100 : decode cX2_payWithin 100 = .ok (.aload_n 0, 1) := zy_b10evening_17.2.2.2.2.2.1
theorem dX2_payWithin_101 : decode cX2_payWithin 101 = .ok (.getfield 60, 3) := zy_b10evening_17.2.2.2.2.2.2.1
theorem dX2_payWithin_104 : decode cX2_payWithin 104 = .ok (.iload 4, 2) := zy_b10evening_17.2.2.2.2.2.2.2
theorem zy_b10evening_18 : decode cX2_payWithin 106 = .ok (.iastore, 1) ∧ decode cX2_payWithin 107 = .ok (.aload_n 0, 1) ∧ decode cX2_payWithin 108 = .ok (.getfield 33, 3) ∧ decode cX2_payWithin 111 = .ok (.aload_n 0, 1) ∧ decode cX2_payWithin 112 = .ok (.getfield 60, 3) ∧ decode cX2_payWithin 115 = .ok (.iload 5, 2) ∧ decode cX2_payWithin 117 = .ok (.iastore, 1) ∧ decode cX2_payWithin 118 = .ok (.aload_n 0, 1) := by decide +kernel
theorem dX2_payWithin_106 : decode cX2_payWithin 106 = .ok (.iastore, 1) := zy_b10evening_18.1
theorem dX2_payWithin_107 : decode cX2_payWithin 107 = .ok (.aload_n 0, 1) := zy_b10evening_18.2.1
theorem dX2_payWithin_108 : decode cX2_payWithin 108 = .ok (.getfield 33, 3) := zy_b10evening_18.2.2.1
theorem dX2_payWithin_111 : decode cX2_payWithin 111 = .ok (.aload_n 0, 1) := zy_b10evening_18.2.2.2.1
theorem dX2_payWithin_112 : decode cX2_payWithin 112 = .ok (.getfield 60, 3) := zy_b10evening_18.2.2.2.2.1
theorem dX2_payWithin_115 : decode cX2_payWithin 115 = .ok (.iload 5, 2) := zy_b10evening_18.2.2.2.2.2.1
theorem dX2_payWithin_117 : decode cX2_payWithin 117 = .ok (.iastore, 1) := zy_b10evening_18.2.2.2.2.2.2.1
theorem dX2_payWithin_118 : decode cX2_payWithin 118 = .ok (.aload_n 0, 1) := zy_b10evening_18.2.2.2.2.2.2.2
theorem zy_b10evening_19 : decode cX2_payWithin 119 = .ok (.dup, 1) ∧ decode cX2_payWithin 120 = .ok (.getfield 60, 3) ∧ decode cX2_payWithin 123 = .ok (.iconst 1, 1) ∧ decode cX2_payWithin 124 = .ok (.iadd, 1) ∧ decode cX2_payWithin 125 = .ok (.putfield 60, 3) ∧ decode cX2_payWithin 128 = .ok (.iinc 2 1, 3) ∧ decode cX2_payWithin 131 = .ok (.goto (-129), 3) ∧ decode cX2_payWithin 134 = .ok (.return_, 1) := by decide +kernel
theorem dX2_payWithin_119 : decode cX2_payWithin 119 = .ok (.dup, 1) := zy_b10evening_19.1
theorem dX2_payWithin_120 : decode cX2_payWithin 120 = .ok (.getfield 60, 3) := zy_b10evening_19.2.1
theorem dX2_payWithin_123 : decode cX2_payWithin 123 = .ok (.iconst 1, 1) := zy_b10evening_19.2.2.1
theorem dX2_payWithin_124 : decode cX2_payWithin 124 = .ok (.iadd, 1) := zy_b10evening_19.2.2.2.1
theorem dX2_payWithin_125 : decode cX2_payWithin 125 = .ok (.putfield 60, 3) := zy_b10evening_19.2.2.2.2.1
theorem dX2_payWithin_128 : decode cX2_payWithin 128 = .ok (.iinc 2 1, 3) := zy_b10evening_19.2.2.2.2.2.1
theorem dX2_payWithin_131 : decode cX2_payWithin 131 = .ok (.goto (-129), 3) := zy_b10evening_19.2.2.2.2.2.2.1
theorem dX2_payWithin_134 : decode cX2_payWithin 134 = .ok (.return_, 1) := zy_b10evening_19.2.2.2.2.2.2.2
theorem zy_b10evening_20 : decode cX2_countGroups 0 = .ok (.iconst 1, 1) ∧ decode cX2_countGroups 1 = .ok (.istore_n 1, 1) ∧ decode cX2_countGroups 2 = .ok (.iload_n 1, 1) ∧ decode cX2_countGroups 3 = .ok (.sipush 256, 3) ∧ decode cX2_countGroups 6 = .ok (.if_icmp .ge 88, 3) ∧ decode cX2_countGroups 9 = .ok (.iconst 0, 1) ∧ decode cX2_countGroups 10 = .ok (.istore_n 2, 1) ∧ decode cX2_countGroups 11 = .ok (.iconst 0, 1) := by decide +kernel
theorem dX2_countGroups_0 : decode cX2_countGroups 0 = .ok (.iconst 1, 1) := zy_b10evening_20.1
theorem dX2_countGroups_1 : decode cX2_countGroups 1 = .ok (.istore_n 1, 1) := zy_b10evening_20.2.1
theorem dX2_countGroups_2 : decode cX2_countGroups 2 = .ok (.iload_n 1, 1) := zy_b10evening_20.2.2.1
theorem dX2_countGroups_3 : decode cX2_countGroups 3 = .ok (.sipush 256, 3) := zy_b10evening_20.2.2.2.1
theorem dX2_countGroups_6 : decode cX2_countGroups 6 = .ok (.if_icmp .ge 88, 3) := zy_b10evening_20.2.2.2.2.1
theorem dX2_countGroups_9 : decode cX2_countGroups 9 = .ok (.iconst 0, 1) := zy_b10evening_20.2.2.2.2.2.1
theorem dX2_countGroups_10 : decode cX2_countGroups 10 = .ok (.istore_n 2, 1) := zy_b10evening_20.2.2.2.2.2.2.1
theorem dX2_countGroups_11 : decode cX2_countGroups 11 = .ok (.iconst 0, 1) := zy_b10evening_20.2.2.2.2.2.2.2
theorem zy_b10evening_21 : decode cX2_countGroups 12 = .ok (.istore_n 3, 1) ∧ decode cX2_countGroups 13 = .ok (.iconst 0, 1) ∧ decode cX2_countGroups 14 = .ok (.istore 4, 2) ∧ decode cX2_countGroups 16 = .ok (.iload 4, 2) ∧ decode cX2_countGroups 18 = .ok (.bipush 8, 2) ∧ decode cX2_countGroups 20 = .ok (.if_icmp .ge 44, 3) ∧ decode cX2_countGroups 23 = .ok (.iload_n 1, 1) ∧ decode cX2_countGroups 24 = .ok (.iconst 1, 1) := by decide +kernel
theorem dX2_countGroups_12 : decode cX2_countGroups 12 = .ok (.istore_n 3, 1) := zy_b10evening_21.1
theorem dX2_countGroups_13 : decode cX2_countGroups 13 = .ok (.iconst 0, 1) := zy_b10evening_21.2.1
theorem dX2_countGroups_14 : decode cX2_countGroups 14 = .ok (.istore 4, 2) := zy_b10evening_21.2.2.1
theorem dX2_countGroups_16 : decode cX2_countGroups 16 = .ok (.iload 4, 2) := zy_b10evening_21.2.2.2.1
theorem dX2_countGroups_18 : decode cX2_countGroups 18 = .ok (.bipush 8, 2) := zy_b10evening_21.2.2.2.2.1
theorem dX2_countGroups_20 : decode cX2_countGroups 20 = .ok (.if_icmp .ge 44, 3) := zy_b10evening_21.2.2.2.2.2.1
theorem dX2_countGroups_23 : decode cX2_countGroups 23 = .ok (.iload_n 1, 1) := zy_b10evening_21.2.2.2.2.2.2.1
theorem dX2_countGroups_24 : decode cX2_countGroups 24 = .ok (.iconst 1, 1) := zy_b10evening_21.2.2.2.2.2.2.2
theorem zy_b10evening_22 : decode cX2_countGroups 25 = .ok (.iload 4, 2) ∧ decode cX2_countGroups 27 = .ok (.ishl, 1) ∧ decode cX2_countGroups 28 = .ok (.iand, 1) ∧ decode cX2_countGroups 29 = .ok (.ifCond .eq 29, 3) ∧ decode cX2_countGroups 32 = .ok (.iload_n 2, 1) ∧ decode cX2_countGroups 33 = .ok (.aload_n 0, 1) ∧ decode cX2_countGroups 34 = .ok (.getfield 9, 3) ∧ decode cX2_countGroups 37 = .ok (.iload 4, 2) := by decide +kernel
theorem dX2_countGroups_25 : decode cX2_countGroups 25 = .ok (.iload 4, 2) := zy_b10evening_22.1
theorem dX2_countGroups_27 : decode cX2_countGroups 27 = .ok (.ishl, 1) := zy_b10evening_22.2.1
theorem dX2_countGroups_28 : decode cX2_countGroups 28 = .ok (.iand, 1) := zy_b10evening_22.2.2.1
theorem dX2_countGroups_29 : decode cX2_countGroups 29 = .ok (.ifCond .eq 29, 3) := zy_b10evening_22.2.2.2.1
theorem dX2_countGroups_32 : decode cX2_countGroups 32 = .ok (.iload_n 2, 1) := zy_b10evening_22.2.2.2.2.1
theorem dX2_countGroups_33 : decode cX2_countGroups 33 = .ok (.aload_n 0, 1) := zy_b10evening_22.2.2.2.2.2.1
theorem dX2_countGroups_34 : decode cX2_countGroups 34 = .ok (.getfield 9, 3) := zy_b10evening_22.2.2.2.2.2.2.1
theorem dX2_countGroups_37 : decode cX2_countGroups 37 = .ok (.iload 4, 2) := zy_b10evening_22.2.2.2.2.2.2.2
theorem zy_b10evening_23 : decode cX2_countGroups 39 = .ok (.iaload, 1) ∧ decode cX2_countGroups 40 = .ok (.iadd, 1) ∧ decode cX2_countGroups 41 = .ok (.istore_n 2, 1) ∧ decode cX2_countGroups 42 = .ok (.iload_n 3, 1) ∧ decode cX2_countGroups 43 = .ok (.aload_n 0, 1) ∧ decode cX2_countGroups 44 = .ok (.getfield 24, 3) ∧ decode cX2_countGroups 47 = .ok (.iload_n 1, 1) ∧ decode cX2_countGroups 48 = .ok (.iconst 1, 1) := by decide +kernel
theorem dX2_countGroups_39 : decode cX2_countGroups 39 = .ok (.iaload, 1) := zy_b10evening_23.1
theorem dX2_countGroups_40 : decode cX2_countGroups 40 = .ok (.iadd, 1) := zy_b10evening_23.2.1
theorem dX2_countGroups_41 : decode cX2_countGroups 41 = .ok (.istore_n 2, 1) := zy_b10evening_23.2.2.1
theorem dX2_countGroups_42 : decode cX2_countGroups 42 = .ok (.iload_n 3, 1) := zy_b10evening_23.2.2.2.1
theorem dX2_countGroups_43 : decode cX2_countGroups 43 = .ok (.aload_n 0, 1) := zy_b10evening_23.2.2.2.2.1
theorem dX2_countGroups_44 : decode cX2_countGroups 44 = .ok (.getfield 24, 3) := zy_b10evening_23.2.2.2.2.2.1
theorem dX2_countGroups_47 : decode cX2_countGroups 47 = .ok (.iload_n 1, 1) := zy_b10evening_23.2.2.2.2.2.2.1
theorem dX2_countGroups_48 : decode cX2_countGroups 48 = .ok (.iconst 1, 1) := zy_b10evening_23.2.2.2.2.2.2.2
theorem zy_b10evening_24 : decode cX2_countGroups 49 = .ok (.iload 4, 2) ∧ decode cX2_countGroups 51 = .ok (.ishl, 1) ∧ decode cX2_countGroups 52 = .ok (.ixor, 1) ∧ decode cX2_countGroups 53 = .ok (.iaload, 1) ∧ decode cX2_countGroups 54 = .ok (.invokestatic 72, 3) ∧ decode cX2_countGroups 57 = .ok (.istore_n 3, 1) ∧ decode cX2_countGroups 58 = .ok (.iinc 4 1, 3) ∧ decode cX2_countGroups 61 = .ok (.goto (-45), 3) := by decide +kernel
theorem dX2_countGroups_49 : decode cX2_countGroups 49 = .ok (.iload 4, 2) := zy_b10evening_24.1
theorem dX2_countGroups_51 : decode cX2_countGroups 51 = .ok (.ishl, 1) := zy_b10evening_24.2.1
theorem dX2_countGroups_52 : decode cX2_countGroups 52 = .ok (.ixor, 1) := zy_b10evening_24.2.2.1
theorem dX2_countGroups_53 : decode cX2_countGroups 53 = .ok (.iaload, 1) := zy_b10evening_24.2.2.2.1
theorem dX2_countGroups_54 : decode cX2_countGroups 54 = .ok (.invokestatic 72, 3) := zy_b10evening_24.2.2.2.2.1
theorem dX2_countGroups_57 : decode cX2_countGroups 57 = .ok (.istore_n 3, 1) := zy_b10evening_24.2.2.2.2.2.1
theorem dX2_countGroups_58 : decode cX2_countGroups 58 = .ok (.iinc 4 1, 3) := zy_b10evening_24.2.2.2.2.2.2.1
theorem dX2_countGroups_61 : decode cX2_countGroups 61 = .ok (.goto (-45), 3) := zy_b10evening_24.2.2.2.2.2.2.2
theorem zy_b10evening_25 : decode cX2_countGroups 64 = .ok (.aload_n 0, 1) ∧ decode cX2_countGroups 65 = .ok (.getfield 21, 3) ∧ decode cX2_countGroups 68 = .ok (.iload_n 1, 1) ∧ decode cX2_countGroups 69 = .ok (.iload_n 2, 1) ∧ decode cX2_countGroups 70 = .ok (.iastore, 1) ∧ decode cX2_countGroups 71 = .ok (.aload_n 0, 1) ∧ decode cX2_countGroups 72 = .ok (.getfield 24, 3) ∧ decode cX2_countGroups 75 = .ok (.iload_n 1, 1) := by decide +kernel
theorem dX2_countGroups_64 : decode cX2_countGroups 64 = .ok (.aload_n 0, 1) := zy_b10evening_25.1
theorem dX2_countGroups_65 : decode cX2_countGroups 65 = .ok (.getfield 21, 3) := zy_b10evening_25.2.1
theorem dX2_countGroups_68 : decode cX2_countGroups 68 = .ok (.iload_n 1, 1) := zy_b10evening_25.2.2.1
theorem dX2_countGroups_69 : decode cX2_countGroups 69 = .ok (.iload_n 2, 1) := zy_b10evening_25.2.2.2.1
theorem dX2_countGroups_70 : decode cX2_countGroups 70 = .ok (.iastore, 1) := zy_b10evening_25.2.2.2.2.1
theorem dX2_countGroups_71 : decode cX2_countGroups 71 = .ok (.aload_n 0, 1) := zy_b10evening_25.2.2.2.2.2.1
theorem dX2_countGroups_72 : decode cX2_countGroups 72 = .ok (.getfield 24, 3) := zy_b10evening_25.2.2.2.2.2.2.1
theorem dX2_countGroups_75 : decode cX2_countGroups 75 = .ok (.iload_n 1, 1) := zy_b10evening_25.2.2.2.2.2.2.2
theorem zy_b10evening_26 : decode cX2_countGroups 76 = .ok (.iload_n 2, 1) ∧ decode cX2_countGroups 77 = .ok (.ifCond .ne 9, 3) ∧ decode cX2_countGroups 80 = .ok (.iload_n 3, 1) ∧ decode cX2_countGroups 81 = .ok (.iconst 1, 1) ∧ decode cX2_countGroups 82 = .ok (.iadd, 1) ∧ decode cX2_countGroups 83 = .ok (.goto 4, 3) ∧ decode cX2_countGroups 86 = .ok (.iload_n 3, 1) ∧ decode cX2_countGroups 87 = .ok (.iastore, 1) := by decide +kernel
theorem dX2_countGroups_76 : decode cX2_countGroups 76 = .ok (.iload_n 2, 1) := zy_b10evening_26.1
theorem dX2_countGroups_77 : decode cX2_countGroups 77 = .ok (.ifCond .ne 9, 3) := zy_b10evening_26.2.1
theorem dX2_countGroups_80 : decode cX2_countGroups 80 = .ok (.iload_n 3, 1) := zy_b10evening_26.2.2.1
theorem dX2_countGroups_81 : decode cX2_countGroups 81 = .ok (.iconst 1, 1) := zy_b10evening_26.2.2.2.1
theorem dX2_countGroups_82 : decode cX2_countGroups 82 = .ok (.iadd, 1) := zy_b10evening_26.2.2.2.2.1
theorem dX2_countGroups_83 : decode cX2_countGroups 83 = .ok (.goto 4, 3) := zy_b10evening_26.2.2.2.2.2.1
theorem dX2_countGroups_86 : decode cX2_countGroups 86 = .ok (.iload_n 3, 1) := zy_b10evening_26.2.2.2.2.2.2.1
theorem dX2_countGroups_87 : decode cX2_countGroups 87 = .ok (.iastore, 1) := zy_b10evening_26.2.2.2.2.2.2.2
theorem zy_b10evening_27 : decode cX2_countGroups 88 = .ok (.iinc 1 1, 3) ∧ decode cX2_countGroups 91 = .ok (.goto (-89), 3) ∧ decode cX2_countGroups 94 = .ok (.return_, 1) := by decide +kernel
theorem dX2_countGroups_88 : decode cX2_countGroups 88 = .ok (.iinc 1 1, 3) := zy_b10evening_27.1
theorem dX2_countGroups_91 : decode cX2_countGroups 91 = .ok (.goto (-89), 3) := zy_b10evening_27.2.1
theorem dX2_countGroups_94 : decode cX2_countGroups 94 = .ok (.return_, 1) := zy_b10evening_27.2.2
theorem zy_b10evening_28 : decode cX2_tell 0 = .ok (.aload_n 0, 1) ∧ decode cX2_tell 1 = .ok (.iconst 0, 1) ∧ decode cX2_tell 2 = .ok (.putfield 60, 3) ∧ decode cX2_tell 5 = .ok (.iconst 0, 1) ∧ decode cX2_tell 6 = .ok (.istore_n 1, 1) ∧ decode cX2_tell 7 = .ok (.iconst 0, 1) ∧ decode cX2_tell 8 = .ok (.istore_n 2, 1) ∧ decode cX2_tell 9 = .ok (.iload_n 2, 1) := by decide +kernel
theorem dX2_tell_0 : decode cX2_tell 0 = .ok (.aload_n 0, 1) := zy_b10evening_28.1
theorem dX2_tell_1 : decode cX2_tell 1 = .ok (.iconst 0, 1) := zy_b10evening_28.2.1
theorem dX2_tell_2 : decode cX2_tell 2 = .ok (.putfield 60, 3) := zy_b10evening_28.2.2.1
theorem dX2_tell_5 : decode cX2_tell 5 = .ok (.iconst 0, 1) := zy_b10evening_28.2.2.2.1
theorem dX2_tell_6 : decode cX2_tell 6 = .ok (.istore_n 1, 1) := zy_b10evening_28.2.2.2.2.1
theorem dX2_tell_7 : decode cX2_tell 7 = .ok (.iconst 0, 1) := zy_b10evening_28.2.2.2.2.2.1
theorem dX2_tell_8 : decode cX2_tell 8 = .ok (.istore_n 2, 1) := zy_b10evening_28.2.2.2.2.2.2.1
theorem dX2_tell_9 : decode cX2_tell 9 = .ok (.iload_n 2, 1) := zy_b10evening_28.2.2.2.2.2.2.2
theorem zy_b10evening_29 : decode cX2_tell 10 = .ok (.bipush 8, 2) ∧ decode cX2_tell 12 = .ok (.if_icmp .ge 36, 3) ∧ decode cX2_tell 15 = .ok (.aload_n 0, 1) ∧ decode cX2_tell 16 = .ok (.getfield 18, 3) ∧ decode cX2_tell 19 = .ok (.iload_n 2, 1) ∧ decode cX2_tell 20 = .ok (.aload_n 0, 1) ∧ decode cX2_tell 21 = .ok (.getfield 9, 3) ∧ decode cX2_tell 24 = .ok (.iload_n 2, 1) := by decide +kernel
theorem dX2_tell_10 : decode cX2_tell 10 = .ok (.bipush 8, 2) := zy_b10evening_29.1
theorem dX2_tell_12 : decode cX2_tell 12 = .ok (.if_icmp .ge 36, 3) := zy_b10evening_29.2.1
theorem dX2_tell_15 : decode cX2_tell 15 = .ok (.aload_n 0, 1) := zy_b10evening_29.2.2.1
theorem dX2_tell_16 : decode cX2_tell 16 = .ok (.getfield 18, 3) := zy_b10evening_29.2.2.2.1
theorem dX2_tell_19 : decode cX2_tell 19 = .ok (.iload_n 2, 1) := zy_b10evening_29.2.2.2.2.1
theorem dX2_tell_20 : decode cX2_tell 20 = .ok (.aload_n 0, 1) := zy_b10evening_29.2.2.2.2.2.1
theorem dX2_tell_21 : decode cX2_tell 21 = .ok (.getfield 9, 3) := zy_b10evening_29.2.2.2.2.2.2.1
theorem dX2_tell_24 : decode cX2_tell 24 = .ok (.iload_n 2, 1) := zy_b10evening_29.2.2.2.2.2.2.2
theorem zy_b10evening_30 : decode cX2_tell 25 = .ok (.iaload, 1) ∧ decode cX2_tell 26 = .ok (.iastore, 1) ∧ decode cX2_tell 27 = .ok (.aload_n 0, 1) ∧ decode cX2_tell 28 = .ok (.getfield 9, 3) ∧ decode cX2_tell 31 = .ok (.iload_n 2, 1) ∧ decode cX2_tell 32 = .ok (.iaload, 1) ∧ decode cX2_tell 33 = .ok (.ifCond .eq 9, 3) ∧ decode cX2_tell 36 = .ok (.iload_n 1, 1) := by decide +kernel
theorem dX2_tell_25 : decode cX2_tell 25 = .ok (.iaload, 1) := zy_b10evening_30.1
theorem dX2_tell_26 : decode cX2_tell 26 = .ok (.iastore, 1) := zy_b10evening_30.2.1
theorem dX2_tell_27 : decode cX2_tell 27 = .ok (.aload_n 0, 1) := zy_b10evening_30.2.2.1
theorem dX2_tell_28 : decode cX2_tell 28 = .ok (.getfield 9, 3) := zy_b10evening_30.2.2.2.1
theorem dX2_tell_31 : decode cX2_tell 31 = .ok (.iload_n 2, 1) := zy_b10evening_30.2.2.2.2.1
theorem dX2_tell_32 : decode cX2_tell 32 = .ok (.iaload, 1) := zy_b10evening_30.2.2.2.2.2.1
theorem dX2_tell_33 : decode cX2_tell 33 = .ok (.ifCond .eq 9, 3) := zy_b10evening_30.2.2.2.2.2.2.1
theorem dX2_tell_36 : decode cX2_tell 36 = .ok (.iload_n 1, 1) := zy_b10evening_30.2.2.2.2.2.2.2
theorem zy_b10evening_31 : decode cX2_tell 37 = .ok (.iconst 1, 1) ∧ decode cX2_tell 38 = .ok (.iload_n 2, 1) ∧ decode cX2_tell 39 = .ok (.ishl, 1) ∧ decode cX2_tell 40 = .ok (.ior, 1) ∧ decode cX2_tell 41 = .ok (.istore_n 1, 1) ∧ decode cX2_tell 42 = .ok (.iinc 2 1, 3) ∧ decode cX2_tell 45 = .ok (.goto (-36), 3) ∧ decode cX2_tell 48 = .ok (.aload_n 0, 1) := by decide +kernel
theorem dX2_tell_37 : decode cX2_tell 37 = .ok (.iconst 1, 1) := zy_b10evening_31.1
theorem dX2_tell_38 : decode cX2_tell 38 = .ok (.iload_n 2, 1) := zy_b10evening_31.2.1
theorem dX2_tell_39 : decode cX2_tell 39 = .ok (.ishl, 1) := zy_b10evening_31.2.2.1
theorem dX2_tell_40 : decode cX2_tell 40 = .ok (.ior, 1) := zy_b10evening_31.2.2.2.1
theorem dX2_tell_41 : decode cX2_tell 41 = .ok (.istore_n 1, 1) := zy_b10evening_31.2.2.2.2.1
theorem dX2_tell_42 : decode cX2_tell 42 = .ok (.iinc 2 1, 3) := zy_b10evening_31.2.2.2.2.2.1
theorem dX2_tell_45 : decode cX2_tell 45 = .ok (.goto (-36), 3) := zy_b10evening_31.2.2.2.2.2.2.1
theorem dX2_tell_48 : decode cX2_tell 48 = .ok (.aload_n 0, 1) := zy_b10evening_31.2.2.2.2.2.2.2
theorem zy_b10evening_32 : decode cX2_tell 49 = .ok (.invokevirtual 61, 3) ∧ decode cX2_tell 52 = .ok (.iconst 0, 1) ∧ decode cX2_tell 53 = .ok (.istore_n 2, 1) ∧ decode cX2_tell 54 = .ok (.iload_n 2, 1) ∧ decode cX2_tell 55 = .ok (.bipush 8, 2) ∧ decode cX2_tell 57 = .ok (.if_icmp .ge 30, 3) ∧ decode cX2_tell 60 = .ok (.iload_n 1, 1) ∧ decode cX2_tell 61 = .ok (.ifCond .eq 26, 3) := by decide +kernel
theorem dX2_tell_49 : decode cX2_tell 49 = .ok (.invokevirtual 61, 3) := zy_b10evening_32.1
theorem dX2_tell_52 : decode cX2_tell 52 = .ok (.iconst 0, 1) := zy_b10evening_32.2.1
theorem dX2_tell_53 : decode cX2_tell 53 = .ok (.istore_n 2, 1) := zy_b10evening_32.2.2.1
theorem dX2_tell_54 : decode cX2_tell 54 = .ok (.iload_n 2, 1) := zy_b10evening_32.2.2.2.1
theorem dX2_tell_55 : decode cX2_tell 55 = .ok (.bipush 8, 2) := zy_b10evening_32.2.2.2.2.1
theorem dX2_tell_57 : decode cX2_tell 57 = .ok (.if_icmp .ge 30, 3) := zy_b10evening_32.2.2.2.2.2.1
theorem dX2_tell_60 : decode cX2_tell 60 = .ok (.iload_n 1, 1) := zy_b10evening_32.2.2.2.2.2.2.1
theorem dX2_tell_61 : decode cX2_tell 61 = .ok (.ifCond .eq 26, 3) := zy_b10evening_32.2.2.2.2.2.2.2
theorem zy_b10evening_33 : decode cX2_tell 64 = .ok (.aload_n 0, 1) ∧ decode cX2_tell 65 = .ok (.iload_n 1, 1) ∧ decode cX2_tell 66 = .ok (.invokevirtual 64, 3) ∧ decode cX2_tell 69 = .ok (.istore_n 3, 1) ∧ decode cX2_tell 70 = .ok (.aload_n 0, 1) ∧ decode cX2_tell 71 = .ok (.iload_n 3, 1) ∧ decode cX2_tell 72 = .ok (.invokevirtual 68, 3) ∧ decode cX2_tell 75 = .ok (.iload_n 1, 1) := by decide +kernel
theorem dX2_tell_64 : decode cX2_tell 64 = .ok (.aload_n 0, 1) := zy_b10evening_33.1
theorem dX2_tell_65 : decode cX2_tell 65 = .ok (.iload_n 1, 1) := zy_b10evening_33.2.1
theorem dX2_tell_66 : decode cX2_tell 66 = .ok (.invokevirtual 64, 3) := zy_b10evening_33.2.2.1
theorem dX2_tell_69 : decode cX2_tell 69 = .ok (.istore_n 3, 1) := zy_b10evening_33.2.2.2.1
theorem dX2_tell_70 : decode cX2_tell 70 = .ok (.aload_n 0, 1) := zy_b10evening_33.2.2.2.2.1
theorem dX2_tell_71 : decode cX2_tell 71 = .ok (.iload_n 3, 1) := zy_b10evening_33.2.2.2.2.2.1
theorem dX2_tell_72 : decode cX2_tell 72 = .ok (.invokevirtual 68, 3) := zy_b10evening_33.2.2.2.2.2.2.1
theorem dX2_tell_75 : decode cX2_tell 75 = .ok (.iload_n 1, 1) := zy_b10evening_33.2.2.2.2.2.2.2
theorem zy_b10evening_34 : decode cX2_tell 76 = .ok (.iload_n 3, 1) ∧ decode cX2_tell 77 = .ok (.iconst (-1), 1) ∧ decode cX2_tell 78 = .ok (.ixor, 1) ∧ decode cX2_tell 79 = .ok (.iand, 1) ∧ decode cX2_tell 80 = .ok (.istore_n 1, 1) ∧ decode cX2_tell 81 = .ok (.iinc 2 1, 3) ∧ decode cX2_tell 84 = .ok (.goto (-30), 3) ∧ decode cX2_tell 87 = .ok (.return_, 1) := by decide +kernel
theorem dX2_tell_76 : decode cX2_tell 76 = .ok (.iload_n 3, 1) := zy_b10evening_34.1
theorem dX2_tell_77 : decode cX2_tell 77 = .ok (.iconst (-1), 1) := zy_b10evening_34.2.1
theorem dX2_tell_78 : decode cX2_tell 78 = .ok (.ixor, 1) := zy_b10evening_34.2.2.1
theorem dX2_tell_79 : decode cX2_tell 79 = .ok (.iand, 1) := zy_b10evening_34.2.2.2.1
theorem dX2_tell_80 : decode cX2_tell 80 = .ok (.istore_n 1, 1) := zy_b10evening_34.2.2.2.2.1
theorem dX2_tell_81 : decode cX2_tell 81 = .ok (.iinc 2 1, 3) := zy_b10evening_34.2.2.2.2.2.1
theorem dX2_tell_84 : decode cX2_tell 84 = .ok (.goto (-30), 3) := zy_b10evening_34.2.2.2.2.2.2.1
theorem dX2_tell_87 : decode cX2_tell 87 = .ok (.return_, 1) := zy_b10evening_34.2.2.2.2.2.2.2
theorem zz_and_nI {r : Nat} (hr : r < 2147483648) (y : Int32) : nI r &&& y = nI (r &&& y.toBitVec.toNat) := by
  apply Int32.toBitVec_inj.mp
  apply BitVec.eq_of_toNat_eq
  rw [Int32.toBitVec_and, BitVec.toNat_and, pk_tn (n := r) (by omega), pk_tn (by have := Nat.and_le_left (n := r) (m := y.toBitVec.toNat); omega)]
theorem zz_andE256 {a : Nat} (ha : a < 256) (y : Int32) : ∃ z : Nat, z < 256 ∧ nI a &&& y = nI z := ⟨a &&& y.toBitVec.toNat, by have := Nat.and_le_left (n := a) (m := y.toBitVec.toNat); omega, zz_and_nI (by omega) y⟩
theorem zz_andF256 {b : Nat} (hb : b < 256) (x : Int32) : ∃ z : Nat, z < 256 ∧ x &&& nI b = nI z := by
  obtain ⟨z, h, e⟩ := zz_andE256 hb x
  exact ⟨z, h, by rw [Int32.and_comm]; exact e⟩
theorem zz_xorE256 {a b : Nat} (ha : a < 256) (hb : b < 256) : ∃ z : Nat, z < 256 ∧ nI a ^^^ nI b = nI z := by
  have hz : a ^^^ b < 2 ^ 8 := Nat.xor_lt_two_pow (by omega) (by omega)
  refine ⟨a ^^^ b, by omega, ?_⟩
  apply Int32.toBitVec_inj.mp
  apply BitVec.eq_of_toNat_eq
  rw [Int32.toBitVec_xor, BitVec.toNat_xor, pk_tn (n := a) (by omega), pk_tn (n := b) (by omega), pk_tn (by omega)]
theorem zz_orE256 {a b : Nat} (ha : a < 256) (hb : b < 256) : ∃ z : Nat, z < 256 ∧ nI a ||| nI b = nI z := by
  have hz : a ||| b < 2 ^ 8 := Nat.or_lt_two_pow (by omega) (by omega)
  refine ⟨a ||| b, by omega, ?_⟩
  apply Int32.toBitVec_inj.mp
  apply BitVec.eq_of_toNat_eq
  rw [Int32.toBitVec_or, BitVec.toNat_or, pk_tn (n := a) (by omega), pk_tn (n := b) (by omega), pk_tn (by omega)]
theorem zz_shlE256 {j : Nat} (hj : j < 8) : ∃ z : Nat, z < 256 ∧ (1 : Int32) <<< (nI j &&& 31) = nI z := by
  rcases (show j = 0 ∨ j = 1 ∨ j = 2 ∨ j = 3 ∨ j = 4 ∨ j = 5 ∨ j = 6 ∨ j = 7 by omega) with rfl | rfl | rfl | rfl | rfl | rfl | rfl | rfl
  · exact ⟨1, by decide, by decide⟩
  · exact ⟨2, by decide, by decide⟩
  · exact ⟨4, by decide, by decide⟩
  · exact ⟨8, by decide, by decide⟩
  · exact ⟨16, by decide, by decide⟩
  · exact ⟨32, by decide, by decide⟩
  · exact ⟨64, by decide, by decide⟩
  · exact ⟨128, by decide, by decide⟩
set_option maxHeartbeats 4000000 in
set_option maxRecDepth 100000 in
theorem k_leastInGroup (l : Launch) (dC : Nat → ClassId) (dI : Nat → Nat → Nat) (a : Nat → Nat) (cI : ClassId) (ne : Nat) (e2 : Nat → Int32) (p0 : Int32) (p1 : Int32) (sz : Nat) : Met l yX2_leastInGroup (zz_w yX2_leastInGroup cX2_leastInGroup 4 (some .int)) ({ frames := 0, cells := 0, slots := 0, locals := 0 }) (va_Pc [.ref (a 34), .int p0, .int p1] (zz_B (dC, dI) sz [(a 34, .inr (2, [.ref (a 35), .ref (a 36), .ref (a 37), .ref (a 38), .ref (a 39), .ref (a 40), .ref (a 41), .ref (a 42), .int (nI ne)])), (a 37, .inl (cI, 8, .inl e2))] [(cI, .int)])) (va_Qi (fun (r : Int32) (_ : Unit) => r = -1 ∨ ∃ q : Nat, q < 8 ∧ r = nI q) (fun _ _ => True) (va_A [] sz)) 0 0 (va_A [] sz) := by
  refine Met.ofW (cc := cX2_leastInGroup) (maxL := 4) (ret := (some .int)) (by decide) rfl ?_
  intro p e s m args below meth c s₁ B hml hv
  obtain ⟨rfl, hsz, hP, hK, hD0, hN⟩ := hv
  have hx := B.exec
  have hb := B.bytes
  have hr := B.returns
  have hts := atoms_spec (ws := zz_w yX2_leastInGroup cX2_leastInGroup 4 (some .int)) B.pre
  have hw : ∀ w ∈ zz_all, w.before _ s = true := fun w h => hts w (List.mem_cons_of_mem _ h)
  have hown : s.vm.findClass RX2 = some m.cls := findClass_of_methodNamed B.named
  have hlocks := B.notSynchronized
  subst hsz
  have hD := hD0
  generalize hAe : va_A [] s.heap.size = A
  have hA : ∀ q : Nat, s.heap.size ≤ q → A q := fun q h => by rw [← hAe]; exact Or.inr h
  have hS : va_S A s.heap s.heap [] := va_S.rf
  have hP : va_P (dC, dI) vwCl [(a 34, .inr (2, [.ref (a 35), .ref (a 36), .ref (a 37), .ref (a 38), .ref (a 39), .ref (a 40), .ref (a 41), .ref (a 42), .int (nI ne)])), (a 37, .inl (cI, 8, .inl e2))] s.heap := hP
  have hl := lv_entry ([.ref (a 34), .int p0, .int p1]) (n := 4) (Nat.le_of_ble_eq_true rfl)
  rw [lg_entry_eq]
  generalize (lg_sl ([.ref (a 34), .int p0, .int p1]) ++ List.replicate (4 - (lg_sl ([.ref (a 34), .int p0, .int p1])).length) Slot.unset).toArray = ls at hl ⊢
  have hl : lv_has ls 4 [(0, .ref (a 34)), (1, .int p0), (2, .int p1)] := hl
  refine lv_iconst (v := 0) hx hb dX2_leastInGroup_0 (by decide) ?_
  refine lv_istore_n (lv' := [(3, .int 0), (0, .ref (a 34)), (1, .int p0), (2, .int p1)]) hx hb dX2_leastInGroup_1 rfl hl (by decide) rfl (fun ls hl => ?_)
  refine zz_loopS (fun (j : (Nat)) => [(a 34, .inr (2, [.ref (a 35), .ref (a 36), .ref (a 37), .ref (a 38), .ref (a 39), .ref (a 40), .ref (a 41), .ref (a 42), .int (nI ne)])), (a 37, .inl (cI, 8, .inl e2))]) (fun (j : (Nat)) => [(0, .ref (a 34)), (1, .int p0), (2, .int p1), (3, .int (nI j))]) (fun (j : (Nat)) => j ≤ 8) (fun (j : (Nat)) => 8 - j) (fun u hI H locs ls hP hD hS hl ih_2 => ?_) 0 (show 0 ≤ 8 from by omega) _ _ _ (hP.sub [0, 1] rfl) (hD.sub [0, 1] (by decide) rfl) hS (lv_sub hl [1, 2, 3, 0] rfl)
  obtain ⟨j, rfl⟩ : ∃ z, z = u := ⟨_, rfl⟩
  obtain ⟨hP, hD⟩ := zz_ty (D := (dC, dI)) (cl := vwCl) (A := (fun _ => True)) (H := H) [(a 34, .inr (2, [.ref (a 35), .ref (a 36), .ref (a 37), .ref (a 38), .ref (a 39), .ref (a 40), .ref (a 41), .ref (a 42), .int (nI ne)])), (a 37, .inl (cI, 8, .inl e2))] hP hD rfl
  have hl : lv_has ls 4 [(0, .ref (a 34)), (1, .int p0), (2, .int p1), (3, .int (nI j))] := hl
  have hI : j ≤ 8 := hI
  have ij := hI
  refine lv_iload_n hx hb dX2_leastInGroup_2 rfl (lv_at hl 3 rfl) ?_
  refine lv_bipush (v := 8) hx hb dX2_leastInGroup_3 (by decide) ?_
  refine lv_icmp_ge (tgt := 35) hx hb dX2_leastInGroup_5 (by decide) (fun c_1 => ?_) (fun c_1 => ?_)
  · have zc_1 := c_1
    rw [Int32.le_iff_toInt_le] at zc_1
    try rw [zz_toInt j (by omega)] at zc_1
    try rw [show (8 : Int32).toInt = 8 from by decide] at zc_1
    refine lv_iconst (v := (-1)) hx hb dX2_leastInGroup_35 (by decide) ?_
    exact W.iret (v := (-1)) hx hb hr (fun t ht hW => ⟨⟨(-1), (), rfl, (Or.inl rfl), trivial⟩, hS.F ht⟩) hS.2.2 dX2_leastInGroup_36
  · have zc_1 := c_1
    rw [Int32.le_iff_toInt_le] at zc_1
    try rw [zz_toInt j (by omega)] at zc_1
    try rw [show (8 : Int32).toInt = 8 from by decide] at zc_1
    refine lv_iload_n hx hb dX2_leastInGroup_8 rfl (lv_at hl 1 rfl) ?_
    refine lv_iconst (v := 1) hx hb dX2_leastInGroup_9 (by decide) ?_
    refine lv_iload_n hx hb dX2_leastInGroup_10 rfl (lv_at hl 3 rfl) ?_
    refine lv_ishl hx hb dX2_leastInGroup_11 ?_
    obtain ⟨z_2, hz_2, ez_2⟩ := zz_shlE256 (j := j) (by omega)
    refine zz_seti (nI z_2) ez_2 ?_
    refine lv_iand hx hb dX2_leastInGroup_12 ?_
    obtain ⟨z_3, hz_3, ez_3⟩ := zz_andF256 (b := z_2) (by omega) (p0)
    refine zz_seti (nI z_3) ez_3 ?_
    refine lv_if_eq (tgt := 29) hx hb dX2_leastInGroup_13 (by decide) (fun c_4 => ?_) (fun c_4 => ?_)
    · have zc_4 := c_4
      rw [← Int32.toInt_inj] at zc_4
      try rw [zz_toInt z_3 (by omega)] at zc_4
      try rw [show (0 : Int32).toInt = 0 from by decide] at zc_4
      refine lv_iinc (v := (nI (j + 1))) (lv' := [(3, .int (nI (j + 1))), (0, .ref (a 34)), (1, .int p0), (2, .int p1)]) hx hb dX2_leastInGroup_29 hl (k := 3) rfl (nI_1 _) (by decide) rfl (fun ls hl => ?_)
      refine lv_goto (tgt := 2) hx hb dX2_leastInGroup_32 (by decide) ?_
      exact ih_2 (j + 1) (show (j + 1) ≤ 8 from by omega) (show 8 - (j + 1) < 8 - j from by omega) _ _ _ (hP.sub [0, 1] rfl) (hD.sub [0, 1] (by decide) rfl) hS (lv_sub hl [1, 2, 3, 0] rfl)
    · have zc_4 := c_4
      rw [← Int32.toInt_inj] at zc_4
      try rw [zz_toInt z_3 (by omega)] at zc_4
      try rw [show (0 : Int32).toInt = 0 from by decide] at zc_4
      refine lv_aload_n hx hb dX2_leastInGroup_16 rfl (lv_at hl 0 rfl) ?_
      refine va_get (D := (dC, dI)) (ci := 2) (v := .ref (a 37)) (C := RX2) (T := TX2) (N := 9) hx hb hw zz_inX2 hown hK hP 0 rfl rfl 2 (by decide) (hw _ tw_102) (fun _ h9 => h9) rfl dX2_leastInGroup_17 ?_
      refine lv_iload_n hx hb dX2_leastInGroup_20 rfl (lv_at hl 3 rfl) ?_
      refine va_iald hx hb hK hP 1 0 rfl rfl (vp_in_iff.mpr (by rw [zz_toInt j (by omega)]; constructor <;> omega)) dX2_leastInGroup_21 ?_
      refine lv_iload_n hx hb dX2_leastInGroup_22 rfl (lv_at hl 2 rfl) ?_
      refine lv_imul hx hb dX2_leastInGroup_23 ?_
      refine lv_if_le (tgt := 29) hx hb dX2_leastInGroup_24 (by decide) (fun c_5 => ?_) (fun c_5 => ?_)
      · have zc_5 := c_5
        rw [Int32.le_iff_toInt_le] at zc_5
        try rw [show (0 : Int32).toInt = 0 from by decide] at zc_5
        refine lv_iinc (v := (nI (j + 1))) (lv' := [(3, .int (nI (j + 1))), (0, .ref (a 34)), (1, .int p0), (2, .int p1)]) hx hb dX2_leastInGroup_29 hl (k := 3) rfl (nI_1 _) (by decide) rfl (fun ls hl => ?_)
        refine lv_goto (tgt := 2) hx hb dX2_leastInGroup_32 (by decide) ?_
        exact ih_2 (j + 1) (show (j + 1) ≤ 8 from by omega) (show 8 - (j + 1) < 8 - j from by omega) _ _ _ (hP.sub [0, 1] rfl) (hD.sub [0, 1] (by decide) rfl) hS (lv_sub hl [1, 2, 3, 0] rfl)
      · have zc_5 := c_5
        rw [Int32.le_iff_toInt_le] at zc_5
        try rw [show (0 : Int32).toInt = 0 from by decide] at zc_5
        refine lv_iload_n hx hb dX2_leastInGroup_27 rfl (lv_at hl 3 rfl) ?_
        exact W.iret (v := (nI j)) hx hb hr (fun t ht hW => ⟨⟨(nI j), (), rfl, (Or.inr ⟨j, by omega, rfl⟩), trivial⟩, hS.F ht⟩) hS.2.2 dX2_leastInGroup_28
set_option maxHeartbeats 4000000 in
set_option maxRecDepth 100000 in
theorem k_leastGroup (l : Launch) (dC : Nat → ClassId) (dI : Nat → Nat → Nat) (a : Nat → Nat) (cI : ClassId) (ne : Nat) (e3 : Nat → Int32) (e4 : Nat → Int32) (nr : Nat) (sz : Nat) (hr2 : nr < 256) : Met l yX2_leastGroup (zz_w yX2_leastGroup cX2_leastGroup 5 (some .int)) ({ frames := 0, cells := 0, slots := 0, locals := 0 }) (va_Pc [.ref (a 34), .int (nI nr)] (zz_B (dC, dI) sz [(a 34, .inr (2, [.ref (a 35), .ref (a 36), .ref (a 37), .ref (a 38), .ref (a 39), .ref (a 40), .ref (a 41), .ref (a 42), .int (nI ne)])), (a 38, .inl (cI, 256, .inl e3)), (a 39, .inl (cI, 256, .inl e4))] [(cI, .int)])) (va_Qi (fun (r : Int32) (_ : Unit) => ∃ q : Nat, q < 256 ∧ r = nI q) (fun _ _ => True) (va_A [] sz)) 0 0 (va_A [] sz) := by
  refine Met.ofW (cc := cX2_leastGroup) (maxL := 5) (ret := (some .int)) (by decide) rfl ?_
  intro p e s m args below meth c s₁ B hml hv
  obtain ⟨rfl, hsz, hP, hK, hD0, hN⟩ := hv
  have hx := B.exec
  have hb := B.bytes
  have hr := B.returns
  have hts := atoms_spec (ws := zz_w yX2_leastGroup cX2_leastGroup 5 (some .int)) B.pre
  have hw : ∀ w ∈ zz_all, w.before _ s = true := fun w h => hts w (List.mem_cons_of_mem _ h)
  have hown : s.vm.findClass RX2 = some m.cls := findClass_of_methodNamed B.named
  have hlocks := B.notSynchronized
  subst hsz
  have hD := hD0
  generalize hAe : va_A [] s.heap.size = A
  have hA : ∀ q : Nat, s.heap.size ≤ q → A q := fun q h => by rw [← hAe]; exact Or.inr h
  have hS : va_S A s.heap s.heap [] := va_S.rf
  have hP : va_P (dC, dI) vwCl [(a 34, .inr (2, [.ref (a 35), .ref (a 36), .ref (a 37), .ref (a 38), .ref (a 39), .ref (a 40), .ref (a 41), .ref (a 42), .int (nI ne)])), (a 38, .inl (cI, 256, .inl e3)), (a 39, .inl (cI, 256, .inl e4))] s.heap := hP
  have hl := lv_entry ([.ref (a 34), .int (nI nr)]) (n := 5) (Nat.le_of_ble_eq_true rfl)
  rw [lg_entry_eq]
  generalize (lg_sl ([.ref (a 34), .int (nI nr)]) ++ List.replicate (5 - (lg_sl ([.ref (a 34), .int (nI nr)])).length) Slot.unset).toArray = ls at hl ⊢
  have hl : lv_has ls 5 [(0, .ref (a 34)), (1, .int (nI nr))] := hl
  refine lv_iload_n hx hb dX2_leastGroup_0 rfl (lv_at hl 1 rfl) ?_
  refine lv_iload_n hx hb dX2_leastGroup_1 rfl (lv_at hl 1 rfl) ?_
  refine lv_ineg hx hb dX2_leastGroup_2 ?_
  refine lv_iand hx hb dX2_leastGroup_3 ?_
  obtain ⟨z_1, hz_1, ez_1⟩ := zz_andE256 (a := nr) (by omega) ((-(nI nr)))
  refine zz_seti (nI z_1) ez_1 ?_
  refine lv_istore_n (lv' := [(2, .int (nI z_1)), (0, .ref (a 34)), (1, .int (nI nr))]) hx hb dX2_leastGroup_4 rfl hl (by decide) rfl (fun ls hl => ?_)
  refine lv_iload_n hx hb dX2_leastGroup_5 rfl (lv_at hl 0 rfl) ?_
  refine lv_istore_n (lv' := [(3, .int (nI z_1)), (2, .int (nI z_1)), (0, .ref (a 34)), (1, .int (nI nr))]) hx hb dX2_leastGroup_6 rfl hl (by decide) rfl (fun ls hl => ?_)
  refine zz_loopS (fun (u : (Nat) × (Nat)) => match u with | (j, lh) => [(a 34, .inr (2, [.ref (a 35), .ref (a 36), .ref (a 37), .ref (a 38), .ref (a 39), .ref (a 40), .ref (a 41), .ref (a 42), .int (nI ne)])), (a 38, .inl (cI, 256, .inl e3)), (a 39, .inl (cI, 256, .inl e4))]) (fun (u : (Nat) × (Nat)) => match u with | (j, lh) => [(0, .ref (a 34)), (1, .int (nI nr)), (2, .int (nI lh)), (3, .int (nI j))]) (fun (u : (Nat) × (Nat)) => match u with | (j, lh) => j ≤ 256 ∧ lh < 256) (fun (u : (Nat) × (Nat)) => match u with | (j, lh) => 256 - j) (fun u hI H locs ls hP hD hS hl ih_7 => ?_) (z_1, z_1) (show z_1 ≤ 256 ∧ z_1 < 256 from (by refine ⟨?_, ?_⟩ <;> omega)) _ _ _ (hP.sub [0, 1, 2] rfl) (hD.sub [0, 1, 2] (by decide) rfl) hS (lv_sub hl [2, 3, 1, 0] rfl)
  obtain ⟨j, lh⟩ := u
  obtain ⟨hP, hD⟩ := zz_ty (D := (dC, dI)) (cl := vwCl) (A := (fun _ => True)) (H := H) [(a 34, .inr (2, [.ref (a 35), .ref (a 36), .ref (a 37), .ref (a 38), .ref (a 39), .ref (a 40), .ref (a 41), .ref (a 42), .int (nI ne)])), (a 38, .inl (cI, 256, .inl e3)), (a 39, .inl (cI, 256, .inl e4))] hP hD rfl
  have hl : lv_has ls 5 [(0, .ref (a 34)), (1, .int (nI nr)), (2, .int (nI lh)), (3, .int (nI j))] := hl
  have hI : j ≤ 256 ∧ lh < 256 := hI
  obtain ⟨ij, il⟩ := hI
  refine lv_iload_n hx hb dX2_leastGroup_7 rfl (lv_at hl 3 rfl) ?_
  refine lv_iload_n hx hb dX2_leastGroup_8 rfl (lv_at hl 1 rfl) ?_
  refine lv_icmp_ge (tgt := 81) hx hb dX2_leastGroup_9 (by decide) (fun c_2 => ?_) (fun c_2 => ?_)
  · have zc_2 := c_2
    rw [Int32.le_iff_toInt_le] at zc_2
    try rw [zz_toInt j (by omega)] at zc_2
    try rw [zz_toInt nr (by omega)] at zc_2
    refine lv_iload_n hx hb dX2_leastGroup_81 rfl (lv_at hl 1 rfl) ?_
    exact W.iret (v := (nI nr)) hx hb hr (fun t ht hW => ⟨⟨(nI nr), (), rfl, ⟨nr, by omega, rfl⟩, trivial⟩, hS.F ht⟩) hS.2.2 dX2_leastGroup_82
  · have zc_2 := c_2
    rw [Int32.le_iff_toInt_le] at zc_2
    try rw [zz_toInt j (by omega)] at zc_2
    try rw [zz_toInt nr (by omega)] at zc_2
    refine lv_iload_n hx hb dX2_leastGroup_12 rfl (lv_at hl 3 rfl) ?_
    refine lv_sipush (v := 256) hx hb dX2_leastGroup_13 (by decide) ?_
    refine lv_icmp_ge (tgt := 81) hx hb dX2_leastGroup_16 (by decide) (fun c_3 => ?_) (fun c_3 => ?_)
    · have zc_3 := c_3
      rw [Int32.le_iff_toInt_le] at zc_3
      try rw [zz_toInt j (by omega)] at zc_3
      try rw [show (256 : Int32).toInt = 256 from by decide] at zc_3
      refine lv_iload_n hx hb dX2_leastGroup_81 rfl (lv_at hl 1 rfl) ?_
      exact W.iret (v := (nI nr)) hx hb hr (fun t ht hW => ⟨⟨(nI nr), (), rfl, ⟨nr, by omega, rfl⟩, trivial⟩, hS.F ht⟩) hS.2.2 dX2_leastGroup_82
    · have zc_3 := c_3
      rw [Int32.le_iff_toInt_le] at zc_3
      try rw [zz_toInt j (by omega)] at zc_3
      try rw [show (256 : Int32).toInt = 256 from by decide] at zc_3
      refine lv_iload_n hx hb dX2_leastGroup_19 rfl (lv_at hl 3 rfl) ?_
      refine lv_iload_n hx hb dX2_leastGroup_20 rfl (lv_at hl 1 rfl) ?_
      refine lv_iconst (v := (-1)) hx hb dX2_leastGroup_21 (by decide) ?_
      refine lv_ixor hx hb dX2_leastGroup_22 ?_
      refine lv_iand hx hb dX2_leastGroup_23 ?_
      obtain ⟨z_5, hz_5, ez_5⟩ := zz_andE256 (a := j) (by omega) (((nI nr) ^^^ (-1)))
      refine zz_seti (nI z_5) ez_5 ?_
      refine lv_if_ne (tgt := 46) hx hb dX2_leastGroup_24 (by decide) (fun c_6 => ?_) (fun c_6 => ?_)
      · have zc_6 := c_6
        rw [← Int32.toInt_inj] at zc_6
        try rw [zz_toInt z_5 (by omega)] at zc_6
        try rw [show (0 : Int32).toInt = 0 from by decide] at zc_6
        refine lv_iconst (v := 0) hx hb dX2_leastGroup_46 (by decide) ?_
        refine lv_istore (lv' := [(4, .int 0), (0, .ref (a 34)), (1, .int (nI nr)), (2, .int (nI lh)), (3, .int (nI j))]) hx hb dX2_leastGroup_47 hl (by decide) rfl (fun ls hl => ?_)
        refine lv_iload hx hb dX2_leastGroup_49 (lv_at hl 0 rfl) ?_
        refine lv_if_eq (tgt := 75) hx hb dX2_leastGroup_51 (by decide) (fun _ => ?_) (fun c_9 => absurd c_9 (by decide))
        refine lv_iinc (v := (nI (j + 1))) (lv' := [(3, .int (nI (j + 1))), (4, .int 0), (0, .ref (a 34)), (1, .int (nI nr)), (2, .int (nI lh))]) hx hb dX2_leastGroup_75 hl (k := 4) rfl (nI_1 _) (by decide) rfl (fun ls hl => ?_)
        refine lv_goto (tgt := 7) hx hb dX2_leastGroup_78 (by decide) ?_
        exact ih_7 ((j + 1), lh) (show (j + 1) ≤ 256 ∧ lh < 256 from (by refine ⟨?_, ?_⟩ <;> omega)) (show 256 - (j + 1) < 256 - j from by omega) _ _ _ (hP.sub [0, 1, 2] rfl) (hD.sub [0, 1, 2] (by decide) rfl) hS (lv_sub hl [2, 3, 4, 0] rfl)
      · have zc_6 := c_6
        rw [← Int32.toInt_inj] at zc_6
        try rw [zz_toInt z_5 (by omega)] at zc_6
        try rw [show (0 : Int32).toInt = 0 from by decide] at zc_6
        refine lv_iload_n hx hb dX2_leastGroup_27 rfl (lv_at hl 3 rfl) ?_
        refine lv_iload_n hx hb dX2_leastGroup_28 rfl (lv_at hl 2 rfl) ?_
        refine lv_iand hx hb dX2_leastGroup_29 ?_
        obtain ⟨z_7, hz_7, ez_7⟩ := zz_andE256 (a := j) (by omega) ((nI lh))
        refine zz_seti (nI z_7) ez_7 ?_
        refine lv_if_eq (tgt := 46) hx hb dX2_leastGroup_30 (by decide) (fun c_8 => ?_) (fun c_8 => ?_)
        · have zc_8 := c_8
          rw [← Int32.toInt_inj] at zc_8
          try rw [zz_toInt z_7 (by omega)] at zc_8
          try rw [show (0 : Int32).toInt = 0 from by decide] at zc_8
          refine lv_iconst (v := 0) hx hb dX2_leastGroup_46 (by decide) ?_
          refine lv_istore (lv' := [(4, .int 0), (0, .ref (a 34)), (1, .int (nI nr)), (2, .int (nI lh)), (3, .int (nI j))]) hx hb dX2_leastGroup_47 hl (by decide) rfl (fun ls hl => ?_)
          refine lv_iload hx hb dX2_leastGroup_49 (lv_at hl 0 rfl) ?_
          refine lv_if_eq (tgt := 75) hx hb dX2_leastGroup_51 (by decide) (fun _ => ?_) (fun c_9 => absurd c_9 (by decide))
          refine lv_iinc (v := (nI (j + 1))) (lv' := [(3, .int (nI (j + 1))), (4, .int 0), (0, .ref (a 34)), (1, .int (nI nr)), (2, .int (nI lh))]) hx hb dX2_leastGroup_75 hl (k := 4) rfl (nI_1 _) (by decide) rfl (fun ls hl => ?_)
          refine lv_goto (tgt := 7) hx hb dX2_leastGroup_78 (by decide) ?_
          exact ih_7 ((j + 1), lh) (show (j + 1) ≤ 256 ∧ lh < 256 from (by refine ⟨?_, ?_⟩ <;> omega)) (show 256 - (j + 1) < 256 - j from by omega) _ _ _ (hP.sub [0, 1, 2] rfl) (hD.sub [0, 1, 2] (by decide) rfl) hS (lv_sub hl [2, 3, 4, 0] rfl)
        · have zc_8 := c_8
          rw [← Int32.toInt_inj] at zc_8
          try rw [zz_toInt z_7 (by omega)] at zc_8
          try rw [show (0 : Int32).toInt = 0 from by decide] at zc_8
          refine lv_aload_n hx hb dX2_leastGroup_33 rfl (lv_at hl 0 rfl) ?_
          refine va_get (D := (dC, dI)) (ci := 2) (v := .ref (a 38)) (C := RX2) (T := TX2) (N := 9) hx hb hw zz_inX2 hown hK hP 0 rfl rfl 3 (by decide) (hw _ tw_103) (fun _ h9 => h9) rfl dX2_leastGroup_34 ?_
          refine lv_iload_n hx hb dX2_leastGroup_37 rfl (lv_at hl 3 rfl) ?_
          refine va_iald hx hb hK hP 1 0 rfl rfl (vp_in_iff.mpr (by rw [zz_toInt j (by omega)]; constructor <;> omega)) dX2_leastGroup_38 ?_
          refine lv_if_ne (tgt := 46) hx hb dX2_leastGroup_39 (by decide) (fun c_9 => ?_) (fun c_9 => ?_)
          · have zc_9 := c_9
            rw [← Int32.toInt_inj] at zc_9
            try rw [show (0 : Int32).toInt = 0 from by decide] at zc_9
            refine lv_iconst (v := 0) hx hb dX2_leastGroup_46 (by decide) ?_
            refine lv_istore (lv' := [(4, .int 0), (0, .ref (a 34)), (1, .int (nI nr)), (2, .int (nI lh)), (3, .int (nI j))]) hx hb dX2_leastGroup_47 hl (by decide) rfl (fun ls hl => ?_)
            refine lv_iload hx hb dX2_leastGroup_49 (lv_at hl 0 rfl) ?_
            refine lv_if_eq (tgt := 75) hx hb dX2_leastGroup_51 (by decide) (fun _ => ?_) (fun c_9 => absurd c_9 (by decide))
            refine lv_iinc (v := (nI (j + 1))) (lv' := [(3, .int (nI (j + 1))), (4, .int 0), (0, .ref (a 34)), (1, .int (nI nr)), (2, .int (nI lh))]) hx hb dX2_leastGroup_75 hl (k := 4) rfl (nI_1 _) (by decide) rfl (fun ls hl => ?_)
            refine lv_goto (tgt := 7) hx hb dX2_leastGroup_78 (by decide) ?_
            exact ih_7 ((j + 1), lh) (show (j + 1) ≤ 256 ∧ lh < 256 from (by refine ⟨?_, ?_⟩ <;> omega)) (show 256 - (j + 1) < 256 - j from by omega) _ _ _ (hP.sub [0, 1, 2] rfl) (hD.sub [0, 1, 2] (by decide) rfl) hS (lv_sub hl [2, 3, 4, 0] rfl)
          · have zc_9 := c_9
            rw [← Int32.toInt_inj] at zc_9
            try rw [show (0 : Int32).toInt = 0 from by decide] at zc_9
            refine lv_iconst (v := 1) hx hb dX2_leastGroup_42 (by decide) ?_
            refine lv_goto (tgt := 47) hx hb dX2_leastGroup_43 (by decide) ?_
            refine lv_istore (lv' := [(4, .int 1), (0, .ref (a 34)), (1, .int (nI nr)), (2, .int (nI lh)), (3, .int (nI j))]) hx hb dX2_leastGroup_47 hl (by decide) rfl (fun ls hl => ?_)
            refine lv_iload hx hb dX2_leastGroup_49 (lv_at hl 0 rfl) ?_
            refine lv_if_eq (tgt := 75) hx hb dX2_leastGroup_51 (by decide) (fun c_9 => absurd c_9 (by decide)) (fun _ => ?_)
            refine lv_aload_n hx hb dX2_leastGroup_54 rfl (lv_at hl 1 rfl) ?_
            refine va_get (D := (dC, dI)) (ci := 2) (v := .ref (a 39)) (C := RX2) (T := TX2) (N := 9) hx hb hw zz_inX2 hown hK hP 0 rfl rfl 4 (by decide) (hw _ tw_104) (fun _ h9 => h9) rfl dX2_leastGroup_55 ?_
            refine lv_iload_n hx hb dX2_leastGroup_58 rfl (lv_at hl 2 rfl) ?_
            refine lv_iload_n hx hb dX2_leastGroup_59 rfl (lv_at hl 4 rfl) ?_
            refine lv_ixor hx hb dX2_leastGroup_60 ?_
            obtain ⟨z_10, hz_10, ez_10⟩ := zz_xorE256 (a := nr) (b := j) (by omega) (by omega)
            refine zz_seti (nI z_10) ez_10 ?_
            refine va_iald hx hb hK hP 2 0 rfl rfl (vp_in_iff.mpr (by rw [zz_toInt z_10 (by omega)]; constructor <;> omega)) dX2_leastGroup_61 ?_
            refine lv_aload_n hx hb dX2_leastGroup_62 rfl (lv_at hl 1 rfl) ?_
            refine va_get (D := (dC, dI)) (ci := 2) (v := .ref (a 39)) (C := RX2) (T := TX2) (N := 9) hx hb hw zz_inX2 hown hK hP 0 rfl rfl 4 (by decide) (hw _ tw_104) (fun _ h9 => h9) rfl dX2_leastGroup_63 ?_
            refine lv_iload_n hx hb dX2_leastGroup_66 rfl (lv_at hl 2 rfl) ?_
            refine va_iald hx hb hK hP 2 0 rfl rfl (vp_in_iff.mpr (by rw [zz_toInt nr (by omega)]; constructor <;> omega)) dX2_leastGroup_67 ?_
            refine lv_iconst (v := 1) hx hb dX2_leastGroup_68 (by decide) ?_
            refine lv_isub hx hb dX2_leastGroup_69 ?_
            refine lv_icmp_ne (tgt := 75) hx hb dX2_leastGroup_70 (by decide) (fun c_11 => ?_) (fun c_11 => ?_)
            · have zc_11 := c_11
              rw [← Int32.toInt_inj] at zc_11
              refine lv_iinc (v := (nI (j + 1))) (lv' := [(3, .int (nI (j + 1))), (4, .int 1), (0, .ref (a 34)), (1, .int (nI nr)), (2, .int (nI lh))]) hx hb dX2_leastGroup_75 hl (k := 4) rfl (nI_1 _) (by decide) rfl (fun ls hl => ?_)
              refine lv_goto (tgt := 7) hx hb dX2_leastGroup_78 (by decide) ?_
              exact ih_7 ((j + 1), lh) (show (j + 1) ≤ 256 ∧ lh < 256 from (by refine ⟨?_, ?_⟩ <;> omega)) (show 256 - (j + 1) < 256 - j from by omega) _ _ _ (hP.sub [0, 1, 2] rfl) (hD.sub [0, 1, 2] (by decide) rfl) hS (lv_sub hl [2, 3, 4, 0] rfl)
            · have zc_11 := c_11
              rw [← Int32.toInt_inj] at zc_11
              refine lv_iload_n hx hb dX2_leastGroup_73 rfl (lv_at hl 4 rfl) ?_
              exact W.iret (v := (nI j)) hx hb hr (fun t ht hW => ⟨⟨(nI j), (), rfl, ⟨j, by omega, rfl⟩, trivial⟩, hS.F ht⟩) hS.2.2 dX2_leastGroup_74
set_option maxHeartbeats 4000000 in
set_option maxRecDepth 100000 in
theorem k_payWithin (l : Launch) (dC : Nat → ClassId) (dI : Nat → Nat → Nat) (a : Nat → Nat) (cI : ClassId) (ne : Nat) (e2 : Nat → Int32) (e5 : Nat → Int32) (e6 : Nat → Int32) (e7 : Nat → Int32) (p0 : Int32) (sz : Nat) (hne : ne ≤ 8) : Met l yX2_payWithin (zz_w yX2_payWithin cX2_payWithin 6 none) ({ frames := 1, cells := 0, slots := 0, locals := 23 }) (va_Pc [.ref (a 34), .int p0] (zz_B (dC, dI) sz [(a 34, .inr (2, [.ref (a 35), .ref (a 36), .ref (a 37), .ref (a 38), .ref (a 39), .ref (a 40), .ref (a 41), .ref (a 42), .int (nI ne)])), (a 37, .inl (cI, 8, .inl e2)), (a 40, .inl (cI, 8, .inl e5)), (a 41, .inl (cI, 8, .inl e6)), (a 42, .inl (cI, 8, .inl e7))] [(cI, .int)])) (va_Qv (fun (u : Nat × (Nat → Int32) × (Nat → Int32) × (Nat → Int32) × (Nat → Int32)) => match u with | (n2, _, _, _, _) => n2 ≤ 8) (fun (u : Nat × (Nat → Int32) × (Nat → Int32) × (Nat → Int32) × (Nat → Int32)) (t : State) => match u with | (u0, u1, u2, u3, u4) => va_P (dC, dI) vwCl [(a 34, .inr (2, [.ref (a 35), .ref (a 36), .ref (a 37), .ref (a 38), .ref (a 39), .ref (a 40), .ref (a 41), .ref (a 42), .int (nI u0)])), (a 37, .inl (cI, 8, .inl u1)), (a 40, .inl (cI, 8, .inl u2)), (a 41, .inl (cI, 8, .inl u3)), (a 42, .inl (cI, 8, .inl u4))] t.heap ∧ va_K (dC, dI) vwCl [(cI, .int)] t ∧ va_D (va_A [(a 34, .inr (2, [.ref (a 35), .ref (a 36), .ref (a 37), .ref (a 38), .ref (a 39), .ref (a 40), .ref (a 41), .ref (a 42), .int (nI ne)])), (a 37, .inl (cI, 8, .inl e2)), (a 40, .inl (cI, 8, .inl e5)), (a 41, .inl (cI, 8, .inl e6)), (a 42, .inl (cI, 8, .inl e7))] sz) [(a 34, .inr (2, [.ref (a 35), .ref (a 36), .ref (a 37), .ref (a 38), .ref (a 39), .ref (a 40), .ref (a 41), .ref (a 42), .int (nI u0)])), (a 37, .inl (cI, 8, .inl u1)), (a 40, .inl (cI, 8, .inl u2)), (a 41, .inl (cI, 8, .inl u3)), (a 42, .inl (cI, 8, .inl u4))]) (va_A [(a 34, .inr (2, [.ref (a 35), .ref (a 36), .ref (a 37), .ref (a 38), .ref (a 39), .ref (a 40), .ref (a 41), .ref (a 42), .int (nI ne)])), (a 37, .inl (cI, 8, .inl e2)), (a 40, .inl (cI, 8, .inl e5)), (a 41, .inl (cI, 8, .inl e6)), (a 42, .inl (cI, 8, .inl e7))] sz)) 0 0 (va_A [(a 34, .inr (2, [.ref (a 35), .ref (a 36), .ref (a 37), .ref (a 38), .ref (a 39), .ref (a 40), .ref (a 41), .ref (a 42), .int (nI ne)])), (a 37, .inl (cI, 8, .inl e2)), (a 40, .inl (cI, 8, .inl e5)), (a 41, .inl (cI, 8, .inl e6)), (a 42, .inl (cI, 8, .inl e7))] sz) := by
  refine Met.ofW (cc := cX2_payWithin) (maxL := 6) (ret := none) (by decide) rfl ?_
  intro p e s m args below meth c s₁ B hml hv
  obtain ⟨rfl, hsz, hP, hK, hD0, hN⟩ := hv
  have hx := B.exec
  have hb := B.bytes
  have hr := B.returns
  have hts := atoms_spec (ws := zz_w yX2_payWithin cX2_payWithin 6 none) B.pre
  have hw : ∀ w ∈ zz_all, w.before _ s = true := fun w h => hts w (List.mem_cons_of_mem _ h)
  have hown : s.vm.findClass RX2 = some m.cls := findClass_of_methodNamed B.named
  have hlocks := B.notSynchronized
  subst hsz
  have hD := hD0.self (sz := s.heap.size)
  generalize hAe : va_A [(a 34, .inr (2, [.ref (a 35), .ref (a 36), .ref (a 37), .ref (a 38), .ref (a 39), .ref (a 40), .ref (a 41), .ref (a 42), .int (nI ne)])), (a 37, .inl (cI, 8, .inl e2)), (a 40, .inl (cI, 8, .inl e5)), (a 41, .inl (cI, 8, .inl e6)), (a 42, .inl (cI, 8, .inl e7))] s.heap.size = A at hD ⊢
  have hA : ∀ q : Nat, s.heap.size ≤ q → A q := fun q h => by rw [← hAe]; exact Or.inr h
  have hS : va_S A s.heap s.heap [] := va_S.rf
  have hP : va_P (dC, dI) vwCl [(a 34, .inr (2, [.ref (a 35), .ref (a 36), .ref (a 37), .ref (a 38), .ref (a 39), .ref (a 40), .ref (a 41), .ref (a 42), .int (nI ne)])), (a 37, .inl (cI, 8, .inl e2)), (a 40, .inl (cI, 8, .inl e5)), (a 41, .inl (cI, 8, .inl e6)), (a 42, .inl (cI, 8, .inl e7))] s.heap := hP
  have hl := lv_entry ([.ref (a 34), .int p0]) (n := 6) (Nat.le_of_ble_eq_true rfl)
  rw [lg_entry_eq]
  generalize (lg_sl ([.ref (a 34), .int p0]) ++ List.replicate (6 - (lg_sl ([.ref (a 34), .int p0])).length) Slot.unset).toArray = ls at hl ⊢
  have hl : lv_has ls 6 [(0, .ref (a 34)), (1, .int p0)] := hl
  refine lv_iconst (v := 0) hx hb dX2_payWithin_0 (by decide) ?_
  refine lv_istore_n (lv' := [(2, .int 0), (0, .ref (a 34)), (1, .int p0)]) hx hb dX2_payWithin_1 rfl hl (by decide) rfl (fun ls hl => ?_)
  refine zz_loopS (fun (u : (Nat) × (Nat) × (Nat → Int32) × (Nat → Int32) × (Nat → Int32) × (Nat → Int32)) => match u with | (j, me, g2, g5, g6, g7) => [(a 34, .inr (2, [.ref (a 35), .ref (a 36), .ref (a 37), .ref (a 38), .ref (a 39), .ref (a 40), .ref (a 41), .ref (a 42), .int (nI me)])), (a 37, .inl (cI, 8, .inl g2)), (a 40, .inl (cI, 8, .inl g5)), (a 41, .inl (cI, 8, .inl g6)), (a 42, .inl (cI, 8, .inl g7))]) (fun (u : (Nat) × (Nat) × (Nat → Int32) × (Nat → Int32) × (Nat → Int32) × (Nat → Int32)) => match u with | (j, me, g2, g5, g6, g7) => [(0, .ref (a 34)), (1, .int p0), (2, .int (nI j))]) (fun (u : (Nat) × (Nat) × (Nat → Int32) × (Nat → Int32) × (Nat → Int32) × (Nat → Int32)) => match u with | (j, me, g2, g5, g6, g7) => j ≤ 8 ∧ me ≤ 8) (fun (u : (Nat) × (Nat) × (Nat → Int32) × (Nat → Int32) × (Nat → Int32) × (Nat → Int32)) => match u with | (j, me, g2, g5, g6, g7) => 8 - j) (fun u hI H locs ls hP hD hS hl ih_2 => ?_) (0, ne, e2, e5, e6, e7) (show 0 ≤ 8 ∧ ne ≤ 8 from (by refine ⟨?_, ?_⟩ <;> omega)) _ _ _ (hP.sub [0, 1, 2, 3, 4] rfl) (hD.sub [0, 1, 2, 3, 4] (by decide) rfl) hS (lv_sub hl [1, 2, 0] rfl)
  obtain ⟨j, me, g2, g5, g6, g7⟩ := u
  obtain ⟨hP, hD⟩ := zz_ty (D := (dC, dI)) (cl := vwCl) (A := A) (H := H) [(a 34, .inr (2, [.ref (a 35), .ref (a 36), .ref (a 37), .ref (a 38), .ref (a 39), .ref (a 40), .ref (a 41), .ref (a 42), .int (nI me)])), (a 37, .inl (cI, 8, .inl g2)), (a 40, .inl (cI, 8, .inl g5)), (a 41, .inl (cI, 8, .inl g6)), (a 42, .inl (cI, 8, .inl g7))] hP hD rfl
  have hl : lv_has ls 6 [(0, .ref (a 34)), (1, .int p0), (2, .int (nI j))] := hl
  have hI : j ≤ 8 ∧ me ≤ 8 := hI
  obtain ⟨ij, im⟩ := hI
  refine lv_iload_n hx hb dX2_payWithin_2 rfl (lv_at hl 2 rfl) ?_
  refine lv_bipush (v := 8) hx hb dX2_payWithin_3 (by decide) ?_
  refine lv_icmp_ge (tgt := 134) hx hb dX2_payWithin_5 (by decide) (fun c_1 => ?_) (fun c_1 => ?_)
  · have zc_1 := c_1
    rw [Int32.le_iff_toInt_le] at zc_1
    try rw [zz_toInt j (by omega)] at zc_1
    try rw [show (8 : Int32).toInt = 8 from by decide] at zc_1
    obtain ⟨hP9, hD9⟩ := zz_sub2 (ws' := [(a 34, .inr (2, [.ref (a 35), .ref (a 36), .ref (a 37), .ref (a 38), .ref (a 39), .ref (a 40), .ref (a 41), .ref (a 42), .int (nI me)])), (a 37, .inl (cI, 8, .inl g2)), (a 40, .inl (cI, 8, .inl g5)), (a 41, .inl (cI, 8, .inl g6)), (a 42, .inl (cI, 8, .inl g7))]) hP hD [0, 1, 2, 3, 4] (by decide) rfl
    have hK9 := hK.sub (tys' := [(cI, .int)]) [0] rfl
    exact W.vret hx hb hr (fun t ht hW => ⟨⟨(me, g2, g5, g6, g7), rfl, (by show _ ≤ _; omega), by rw [ht]; exact hP9, va_K.moved hW.alike hK9, hD9⟩, hS.F ht⟩) hS.2.2 dX2_payWithin_134
  · have zc_1 := c_1
    rw [Int32.le_iff_toInt_le] at zc_1
    try rw [zz_toInt j (by omega)] at zc_1
    try rw [show (8 : Int32).toInt = 8 from by decide] at zc_1
    refine lv_aload_n hx hb dX2_payWithin_8 rfl (lv_at hl 0 rfl) ?_
    refine va_get (D := (dC, dI)) (ci := 2) (v := .int (nI me)) (C := RX2) (T := TX2) (N := 9) hx hb hw zz_inX2 hown hK hP 0 rfl rfl 8 (by decide) (hw _ tw_105) (fun _ h9 => h9) rfl dX2_payWithin_9 ?_
    refine lv_bipush (v := 8) hx hb dX2_payWithin_12 (by decide) ?_
    refine lv_icmp_ge (tgt := 134) hx hb dX2_payWithin_14 (by decide) (fun c_2 => ?_) (fun c_2 => ?_)
    · have zc_2 := c_2
      rw [Int32.le_iff_toInt_le] at zc_2
      try rw [zz_toInt me (by omega)] at zc_2
      try rw [show (8 : Int32).toInt = 8 from by decide] at zc_2
      obtain ⟨hP9, hD9⟩ := zz_sub2 (ws' := [(a 34, .inr (2, [.ref (a 35), .ref (a 36), .ref (a 37), .ref (a 38), .ref (a 39), .ref (a 40), .ref (a 41), .ref (a 42), .int (nI me)])), (a 37, .inl (cI, 8, .inl g2)), (a 40, .inl (cI, 8, .inl g5)), (a 41, .inl (cI, 8, .inl g6)), (a 42, .inl (cI, 8, .inl g7))]) hP hD [0, 1, 2, 3, 4] (by decide) rfl
      have hK9 := hK.sub (tys' := [(cI, .int)]) [0] rfl
      exact W.vret hx hb hr (fun t ht hW => ⟨⟨(me, g2, g5, g6, g7), rfl, (by show _ ≤ _; omega), by rw [ht]; exact hP9, va_K.moved hW.alike hK9, hD9⟩, hS.F ht⟩) hS.2.2 dX2_payWithin_134
    · have zc_2 := c_2
      rw [Int32.le_iff_toInt_le] at zc_2
      try rw [zz_toInt me (by omega)] at zc_2
      try rw [show (8 : Int32).toInt = 8 from by decide] at zc_2
      refine lv_aload_n hx hb dX2_payWithin_17 rfl (lv_at hl 0 rfl) ?_
      refine lv_iload_n hx hb dX2_payWithin_18 rfl (lv_at hl 1 rfl) ?_
      refine lv_iconst (v := (-1)) hx hb dX2_payWithin_19 (by decide) ?_
      obtain ⟨hPc, hDc⟩ := zz_sub2 (ws' := [(a 34, .inr (2, [.ref (a 35), .ref (a 36), .ref (a 37), .ref (a 38), .ref (a 39), .ref (a 40), .ref (a 41), .ref (a 42), .int (nI me)])), (a 37, .inl (cI, 8, .inl g2))]) hP hD [0, 1] (by decide) rfl
      have hKc := hK.sub (tys' := [(cI, .int)]) [0] rfl
      have hFc := zz_free0 hS hA
      refine va_calli (va_runV (As := [.int p0, .int (-1)]) (rest := []) ⟨hx, hb, hml, hown, hw⟩ (k_leastInGroup l dC dI a cI me g2 p0 (-1) H.size) ⟨callB_of 2 hw (zz_good tw_106) rfl rfl rfl (hw _ tw_107) (hw _ tw_108) (by decide +kernel) ⟨Nat.le_of_ble_eq_true rfl, Nat.le_of_ble_eq_true rfl⟩, (hw _ tw_109), (hw _ tw_110)⟩ ⟨zz_blind, va_recv hKc hPc (ci := 2) (q0 := 0) rfl rfl, zz_pre hPc hKc hDc hN⟩ rfl rfl hl.1 rfl (lv_room (Nat.le_of_ble_eq_true rfl)) dX2_payWithin_20 ⟨Nat.le_of_ble_eq_true rfl, Nat.le_of_ble_eq_true rfl⟩) hS (fun q _ h => hFc q h) hFc (fun r_3 u_3 t H1 locs ht hvm e_3 hB hz1 hk1 hS => ?_)
      try dsimp only at e_3
      have hP := zz_keep hP hk1
      clear hk1 hB ht hvm
      generalize H1 = H at hP hS ⊢
      rcases e_3 with er_3 | ⟨qj_3, hj_3, er_3⟩
      · refine zz_seti (-1) er_3 ?_
        refine lv_istore_n (lv' := [(3, .int (-1)), (0, .ref (a 34)), (1, .int p0), (2, .int (nI j))]) hx hb dX2_payWithin_23 rfl hl (by decide) rfl (fun ls hl => ?_)
        refine lv_aload_n hx hb dX2_payWithin_24 rfl (lv_at hl 1 rfl) ?_
        refine lv_iload_n hx hb dX2_payWithin_25 rfl (lv_at hl 2 rfl) ?_
        refine lv_iconst (v := 1) hx hb dX2_payWithin_26 (by decide) ?_
        obtain ⟨hPc, hDc⟩ := zz_sub2 (ws' := [(a 34, .inr (2, [.ref (a 35), .ref (a 36), .ref (a 37), .ref (a 38), .ref (a 39), .ref (a 40), .ref (a 41), .ref (a 42), .int (nI me)])), (a 37, .inl (cI, 8, .inl g2))]) hP hD [0, 1] (by decide) rfl
        have hKc := hK.sub (tys' := [(cI, .int)]) [0] rfl
        have hFc := zz_free0 hS hA
        refine va_calli (va_runV (As := [.int p0, .int 1]) (rest := []) ⟨hx, hb, hml, hown, hw⟩ (k_leastInGroup l dC dI a cI me g2 p0 1 H.size) ⟨callB_of 2 hw (zz_good tw_106) rfl rfl rfl (hw _ tw_107) (hw _ tw_108) (by decide +kernel) ⟨Nat.le_of_ble_eq_true rfl, Nat.le_of_ble_eq_true rfl⟩, (hw _ tw_109), (hw _ tw_110)⟩ ⟨zz_blind, va_recv hKc hPc (ci := 2) (q0 := 0) rfl rfl, zz_pre hPc hKc hDc hN⟩ rfl rfl hl.1 rfl (lv_room (Nat.le_of_ble_eq_true rfl)) dX2_payWithin_27 ⟨Nat.le_of_ble_eq_true rfl, Nat.le_of_ble_eq_true rfl⟩) hS (fun q _ h => hFc q h) hFc (fun r_4 u_4 t H1 locs ht hvm e_4 hB hz1 hk1 hS => ?_)
        try dsimp only at e_4
        have hP := zz_keep hP hk1
        clear hk1 hB ht hvm
        generalize H1 = H at hP hS ⊢
        rcases e_4 with er_4 | ⟨qj_4, hj_4, er_4⟩
        · refine zz_seti (-1) er_4 ?_
          refine lv_istore (lv' := [(4, .int (-1)), (3, .int (-1)), (0, .ref (a 34)), (1, .int p0), (2, .int (nI j))]) hx hb dX2_payWithin_30 hl (by decide) rfl (fun ls hl => ?_)
          refine lv_iload_n hx hb dX2_payWithin_32 rfl (lv_at hl 1 rfl) ?_
          refine lv_iconst (v := (-1)) hx hb dX2_payWithin_33 (by decide) ?_
          refine lv_icmp_eq (tgt := 43) hx hb dX2_payWithin_34 (by decide) (fun _ => ?_) (fun c_9 => absurd c_9 (by decide))
          obtain ⟨hP9, hD9⟩ := zz_sub2 (ws' := [(a 34, .inr (2, [.ref (a 35), .ref (a 36), .ref (a 37), .ref (a 38), .ref (a 39), .ref (a 40), .ref (a 41), .ref (a 42), .int (nI me)])), (a 37, .inl (cI, 8, .inl g2)), (a 40, .inl (cI, 8, .inl g5)), (a 41, .inl (cI, 8, .inl g6)), (a 42, .inl (cI, 8, .inl g7))]) hP hD [0, 1, 2, 3, 4] (by decide) rfl
          have hK9 := hK.sub (tys' := [(cI, .int)]) [0] rfl
          exact W.vret hx hb hr (fun t ht hW => ⟨⟨(me, g2, g5, g6, g7), rfl, (by show _ ≤ _; omega), by rw [ht]; exact hP9, va_K.moved hW.alike hK9, hD9⟩, hS.F ht⟩) hS.2.2 dX2_payWithin_43
        · refine zz_seti (nI qj_4) er_4 ?_
          refine lv_istore (lv' := [(4, .int (nI qj_4)), (3, .int (-1)), (0, .ref (a 34)), (1, .int p0), (2, .int (nI j))]) hx hb dX2_payWithin_30 hl (by decide) rfl (fun ls hl => ?_)
          refine lv_iload_n hx hb dX2_payWithin_32 rfl (lv_at hl 1 rfl) ?_
          refine lv_iconst (v := (-1)) hx hb dX2_payWithin_33 (by decide) ?_
          refine lv_icmp_eq (tgt := 43) hx hb dX2_payWithin_34 (by decide) (fun _ => ?_) (fun c_9 => absurd c_9 (by decide))
          obtain ⟨hP9, hD9⟩ := zz_sub2 (ws' := [(a 34, .inr (2, [.ref (a 35), .ref (a 36), .ref (a 37), .ref (a 38), .ref (a 39), .ref (a 40), .ref (a 41), .ref (a 42), .int (nI me)])), (a 37, .inl (cI, 8, .inl g2)), (a 40, .inl (cI, 8, .inl g5)), (a 41, .inl (cI, 8, .inl g6)), (a 42, .inl (cI, 8, .inl g7))]) hP hD [0, 1, 2, 3, 4] (by decide) rfl
          have hK9 := hK.sub (tys' := [(cI, .int)]) [0] rfl
          exact W.vret hx hb hr (fun t ht hW => ⟨⟨(me, g2, g5, g6, g7), rfl, (by show _ ≤ _; omega), by rw [ht]; exact hP9, va_K.moved hW.alike hK9, hD9⟩, hS.F ht⟩) hS.2.2 dX2_payWithin_43
      · refine zz_seti (nI qj_3) er_3 ?_
        refine lv_istore_n (lv' := [(3, .int (nI qj_3)), (0, .ref (a 34)), (1, .int p0), (2, .int (nI j))]) hx hb dX2_payWithin_23 rfl hl (by decide) rfl (fun ls hl => ?_)
        refine lv_aload_n hx hb dX2_payWithin_24 rfl (lv_at hl 1 rfl) ?_
        refine lv_iload_n hx hb dX2_payWithin_25 rfl (lv_at hl 2 rfl) ?_
        refine lv_iconst (v := 1) hx hb dX2_payWithin_26 (by decide) ?_
        obtain ⟨hPc, hDc⟩ := zz_sub2 (ws' := [(a 34, .inr (2, [.ref (a 35), .ref (a 36), .ref (a 37), .ref (a 38), .ref (a 39), .ref (a 40), .ref (a 41), .ref (a 42), .int (nI me)])), (a 37, .inl (cI, 8, .inl g2))]) hP hD [0, 1] (by decide) rfl
        have hKc := hK.sub (tys' := [(cI, .int)]) [0] rfl
        have hFc := zz_free0 hS hA
        refine va_calli (va_runV (As := [.int p0, .int 1]) (rest := []) ⟨hx, hb, hml, hown, hw⟩ (k_leastInGroup l dC dI a cI me g2 p0 1 H.size) ⟨callB_of 2 hw (zz_good tw_106) rfl rfl rfl (hw _ tw_107) (hw _ tw_108) (by decide +kernel) ⟨Nat.le_of_ble_eq_true rfl, Nat.le_of_ble_eq_true rfl⟩, (hw _ tw_109), (hw _ tw_110)⟩ ⟨zz_blind, va_recv hKc hPc (ci := 2) (q0 := 0) rfl rfl, zz_pre hPc hKc hDc hN⟩ rfl rfl hl.1 rfl (lv_room (Nat.le_of_ble_eq_true rfl)) dX2_payWithin_27 ⟨Nat.le_of_ble_eq_true rfl, Nat.le_of_ble_eq_true rfl⟩) hS (fun q _ h => hFc q h) hFc (fun r_5 u_5 t H1 locs ht hvm e_5 hB hz1 hk1 hS => ?_)
        try dsimp only at e_5
        have hP := zz_keep hP hk1
        clear hk1 hB ht hvm
        generalize H1 = H at hP hS ⊢
        rcases e_5 with er_5 | ⟨qj_5, hj_5, er_5⟩
        · refine zz_seti (-1) er_5 ?_
          refine lv_istore (lv' := [(4, .int (-1)), (3, .int (nI qj_3)), (0, .ref (a 34)), (1, .int p0), (2, .int (nI j))]) hx hb dX2_payWithin_30 hl (by decide) rfl (fun ls hl => ?_)
          refine lv_iload_n hx hb dX2_payWithin_32 rfl (lv_at hl 1 rfl) ?_
          refine lv_iconst (v := (-1)) hx hb dX2_payWithin_33 (by decide) ?_
          refine lv_icmp_eq (tgt := 43) hx hb dX2_payWithin_34 (by decide) (fun c_6 => absurd c_6 (by rw [← Int32.toInt_inj, zz_toInt qj_3 (by omega), show ((-1) : Int32).toInt = -1 from by decide]; omega)) (fun _ => ?_)
          refine lv_iload hx hb dX2_payWithin_37 (lv_at hl 0 rfl) ?_
          refine lv_iconst (v := (-1)) hx hb dX2_payWithin_39 (by decide) ?_
          refine lv_icmp_ne (tgt := 44) hx hb dX2_payWithin_40 (by decide) (fun c_9 => absurd c_9 (by decide)) (fun _ => ?_)
          obtain ⟨hP9, hD9⟩ := zz_sub2 (ws' := [(a 34, .inr (2, [.ref (a 35), .ref (a 36), .ref (a 37), .ref (a 38), .ref (a 39), .ref (a 40), .ref (a 41), .ref (a 42), .int (nI me)])), (a 37, .inl (cI, 8, .inl g2)), (a 40, .inl (cI, 8, .inl g5)), (a 41, .inl (cI, 8, .inl g6)), (a 42, .inl (cI, 8, .inl g7))]) hP hD [0, 1, 2, 3, 4] (by decide) rfl
          have hK9 := hK.sub (tys' := [(cI, .int)]) [0] rfl
          exact W.vret hx hb hr (fun t ht hW => ⟨⟨(me, g2, g5, g6, g7), rfl, (by show _ ≤ _; omega), by rw [ht]; exact hP9, va_K.moved hW.alike hK9, hD9⟩, hS.F ht⟩) hS.2.2 dX2_payWithin_43
        · refine zz_seti (nI qj_5) er_5 ?_
          refine lv_istore (lv' := [(4, .int (nI qj_5)), (3, .int (nI qj_3)), (0, .ref (a 34)), (1, .int p0), (2, .int (nI j))]) hx hb dX2_payWithin_30 hl (by decide) rfl (fun ls hl => ?_)
          refine lv_iload_n hx hb dX2_payWithin_32 rfl (lv_at hl 1 rfl) ?_
          refine lv_iconst (v := (-1)) hx hb dX2_payWithin_33 (by decide) ?_
          refine lv_icmp_eq (tgt := 43) hx hb dX2_payWithin_34 (by decide) (fun c_7 => absurd c_7 (by rw [← Int32.toInt_inj, zz_toInt qj_3 (by omega), show ((-1) : Int32).toInt = -1 from by decide]; omega)) (fun _ => ?_)
          refine lv_iload hx hb dX2_payWithin_37 (lv_at hl 0 rfl) ?_
          refine lv_iconst (v := (-1)) hx hb dX2_payWithin_39 (by decide) ?_
          refine lv_icmp_ne (tgt := 44) hx hb dX2_payWithin_40 (by decide) (fun _ => ?_) (fun c_8 => absurd c_8 (by rw [← Int32.toInt_inj, zz_toInt qj_5 (by omega), show ((-1) : Int32).toInt = -1 from by decide]; omega))
          refine lv_aload_n hx hb dX2_payWithin_44 rfl (lv_at hl 2 rfl) ?_
          refine va_get (D := (dC, dI)) (ci := 2) (v := .ref (a 37)) (C := RX2) (T := TX2) (N := 9) hx hb hw zz_inX2 hown hK hP 0 rfl rfl 2 (by decide) (hw _ tw_102) (fun _ h9 => h9) rfl dX2_payWithin_45 ?_
          refine lv_iload_n hx hb dX2_payWithin_48 rfl (lv_at hl 1 rfl) ?_
          refine va_iald hx hb hK hP 1 0 rfl rfl (vp_in_iff.mpr (by rw [zz_toInt qj_3 (by omega)]; constructor <;> omega)) dX2_payWithin_49 ?_
          refine lv_ineg hx hb dX2_payWithin_50 ?_
          refine lv_aload_n hx hb dX2_payWithin_51 rfl (lv_at hl 2 rfl) ?_
          refine va_get (D := (dC, dI)) (ci := 2) (v := .ref (a 37)) (C := RX2) (T := TX2) (N := 9) hx hb hw zz_inX2 hown hK hP 0 rfl rfl 2 (by decide) (hw _ tw_102) (fun _ h9 => h9) rfl dX2_payWithin_52 ?_
          refine lv_iload hx hb dX2_payWithin_55 (lv_at hl 0 rfl) ?_
          refine va_iald hx hb hK hP 1 0 rfl rfl (vp_in_iff.mpr (by rw [zz_toInt qj_5 (by omega)]; constructor <;> omega)) dX2_payWithin_57 ?_
          refine va_mmin hx hb (by rw [hml]; exact hl.1.symm) hown (hw _ tw_111) (hw _ tw_27) (hw _ tw_28) (hw _ tw_29) (Nat.le_of_ble_eq_true rfl) (Nat.le_of_ble_eq_true rfl) (Nat.le_of_ble_eq_true rfl) (Nat.le_of_ble_eq_true rfl) dX2_payWithin_58 ?_
          refine lv_istore (lv' := [(5, .int (if (g2 (Int32.toNatClampNeg (nI qj_5))) < (-(g2 (Int32.toNatClampNeg (nI qj_3)))) then (g2 (Int32.toNatClampNeg (nI qj_5))) else (-(g2 (Int32.toNatClampNeg (nI qj_3)))))), (4, .int (nI qj_5)), (3, .int (nI qj_3)), (0, .ref (a 34)), (1, .int p0), (2, .int (nI j))]) hx hb dX2_payWithin_61 hl (by decide) rfl (fun ls hl => ?_)
          refine lv_aload_n hx hb dX2_payWithin_63 rfl (lv_at hl 3 rfl) ?_
          refine va_get (D := (dC, dI)) (ci := 2) (v := .ref (a 37)) (C := RX2) (T := TX2) (N := 9) hx hb hw zz_inX2 hown hK hP 0 rfl rfl 2 (by decide) (hw _ tw_102) (fun _ h9 => h9) rfl dX2_payWithin_64 ?_
          refine lv_iload_n hx hb dX2_payWithin_67 rfl (lv_at hl 2 rfl) ?_
          refine lv_dup2_11 hx hb dX2_payWithin_68 rfl rfl ?_
          refine va_iald hx hb hK hP 1 0 rfl rfl (vp_in_iff.mpr (by rw [zz_toInt qj_3 (by omega)]; constructor <;> omega)) dX2_payWithin_69 ?_
          refine lv_iload hx hb dX2_payWithin_70 (lv_at hl 0 rfl) ?_
          refine lv_iadd hx hb dX2_payWithin_72 ?_
          refine va_iast hx hb hK hP hD hS 1 0 rfl rfl (vp_in_iff.mpr (by rw [zz_toInt qj_3 (by omega)]; constructor <;> omega)) dX2_payWithin_73 (fun H locs hP hD hS => ?_)
          obtain ⟨hP, hD⟩ := zz_ty (D := (dC, dI)) (cl := vwCl) (A := A) (H := H) [(a 34, .inr (2, [.ref (a 35), .ref (a 36), .ref (a 37), .ref (a 38), .ref (a 39), .ref (a 40), .ref (a 41), .ref (a 42), .int (nI me)])), (a 37, .inl (cI, 8, .inl (upd g2 (Int32.toNatClampNeg (nI qj_3)) ((g2 (Int32.toNatClampNeg (nI qj_3))) + (if (g2 (Int32.toNatClampNeg (nI qj_5))) < (-(g2 (Int32.toNatClampNeg (nI qj_3)))) then (g2 (Int32.toNatClampNeg (nI qj_5))) else (-(g2 (Int32.toNatClampNeg (nI qj_3))))))))), (a 40, .inl (cI, 8, .inl g5)), (a 41, .inl (cI, 8, .inl g6)), (a 42, .inl (cI, 8, .inl g7))] hP hD rfl
          refine lv_aload_n hx hb dX2_payWithin_74 rfl (lv_at hl 3 rfl) ?_
          refine va_get (D := (dC, dI)) (ci := 2) (v := .ref (a 37)) (C := RX2) (T := TX2) (N := 9) hx hb hw zz_inX2 hown hK hP 0 rfl rfl 2 (by decide) (hw _ tw_102) (fun _ h9 => h9) rfl dX2_payWithin_75 ?_
          refine lv_iload hx hb dX2_payWithin_78 (lv_at hl 1 rfl) ?_
          refine lv_dup2_11 hx hb dX2_payWithin_80 rfl rfl ?_
          refine va_iald hx hb hK hP 1 0 rfl rfl (vp_in_iff.mpr (by rw [zz_toInt qj_5 (by omega)]; constructor <;> omega)) dX2_payWithin_81 ?_
          refine lv_iload hx hb dX2_payWithin_82 (lv_at hl 0 rfl) ?_
          refine lv_isub hx hb dX2_payWithin_84 ?_
          refine va_iast hx hb hK hP hD hS 1 0 rfl rfl (vp_in_iff.mpr (by rw [zz_toInt qj_5 (by omega)]; constructor <;> omega)) dX2_payWithin_85 (fun H locs hP hD hS => ?_)
          obtain ⟨hP, hD⟩ := zz_ty (D := (dC, dI)) (cl := vwCl) (A := A) (H := H) [(a 34, .inr (2, [.ref (a 35), .ref (a 36), .ref (a 37), .ref (a 38), .ref (a 39), .ref (a 40), .ref (a 41), .ref (a 42), .int (nI me)])), (a 37, .inl (cI, 8, .inl (upd (upd g2 (Int32.toNatClampNeg (nI qj_3)) ((g2 (Int32.toNatClampNeg (nI qj_3))) + (if (g2 (Int32.toNatClampNeg (nI qj_5))) < (-(g2 (Int32.toNatClampNeg (nI qj_3)))) then (g2 (Int32.toNatClampNeg (nI qj_5))) else (-(g2 (Int32.toNatClampNeg (nI qj_3))))))) (Int32.toNatClampNeg (nI qj_5)) (((upd g2 (Int32.toNatClampNeg (nI qj_3)) ((g2 (Int32.toNatClampNeg (nI qj_3))) + (if (g2 (Int32.toNatClampNeg (nI qj_5))) < (-(g2 (Int32.toNatClampNeg (nI qj_3)))) then (g2 (Int32.toNatClampNeg (nI qj_5))) else (-(g2 (Int32.toNatClampNeg (nI qj_3))))))) (Int32.toNatClampNeg (nI qj_5))) - (if (g2 (Int32.toNatClampNeg (nI qj_5))) < (-(g2 (Int32.toNatClampNeg (nI qj_3)))) then (g2 (Int32.toNatClampNeg (nI qj_5))) else (-(g2 (Int32.toNatClampNeg (nI qj_3))))))))), (a 40, .inl (cI, 8, .inl g5)), (a 41, .inl (cI, 8, .inl g6)), (a 42, .inl (cI, 8, .inl g7))] hP hD rfl
          refine lv_aload_n hx hb dX2_payWithin_86 rfl (lv_at hl 3 rfl) ?_
          refine va_get (D := (dC, dI)) (ci := 2) (v := .ref (a 40)) (C := RX2) (T := TX2) (N := 9) hx hb hw zz_inX2 hown hK hP 0 rfl rfl 5 (by decide) (hw _ tw_112) (fun _ h9 => h9) rfl dX2_payWithin_87 ?_
          refine lv_aload_n hx hb dX2_payWithin_90 rfl (lv_at hl 3 rfl) ?_
          refine va_get (D := (dC, dI)) (ci := 2) (v := .int (nI me)) (C := RX2) (T := TX2) (N := 9) hx hb hw zz_inX2 hown hK hP 0 rfl rfl 8 (by decide) (hw _ tw_105) (fun _ h9 => h9) rfl dX2_payWithin_91 ?_
          refine lv_iload_n hx hb dX2_payWithin_94 rfl (lv_at hl 2 rfl) ?_
          refine va_iast hx hb hK hP hD hS 2 0 rfl rfl (vp_in_iff.mpr (by rw [zz_toInt me (by omega)]; constructor <;> omega)) dX2_payWithin_95 (fun H locs hP hD hS => ?_)
          obtain ⟨hP, hD⟩ := zz_ty (D := (dC, dI)) (cl := vwCl) (A := A) (H := H) [(a 34, .inr (2, [.ref (a 35), .ref (a 36), .ref (a 37), .ref (a 38), .ref (a 39), .ref (a 40), .ref (a 41), .ref (a 42), .int (nI me)])), (a 37, .inl (cI, 8, .inl (upd (upd g2 (Int32.toNatClampNeg (nI qj_3)) ((g2 (Int32.toNatClampNeg (nI qj_3))) + (if (g2 (Int32.toNatClampNeg (nI qj_5))) < (-(g2 (Int32.toNatClampNeg (nI qj_3)))) then (g2 (Int32.toNatClampNeg (nI qj_5))) else (-(g2 (Int32.toNatClampNeg (nI qj_3))))))) (Int32.toNatClampNeg (nI qj_5)) (((upd g2 (Int32.toNatClampNeg (nI qj_3)) ((g2 (Int32.toNatClampNeg (nI qj_3))) + (if (g2 (Int32.toNatClampNeg (nI qj_5))) < (-(g2 (Int32.toNatClampNeg (nI qj_3)))) then (g2 (Int32.toNatClampNeg (nI qj_5))) else (-(g2 (Int32.toNatClampNeg (nI qj_3))))))) (Int32.toNatClampNeg (nI qj_5))) - (if (g2 (Int32.toNatClampNeg (nI qj_5))) < (-(g2 (Int32.toNatClampNeg (nI qj_3)))) then (g2 (Int32.toNatClampNeg (nI qj_5))) else (-(g2 (Int32.toNatClampNeg (nI qj_3))))))))), (a 40, .inl (cI, 8, .inl (upd g5 (Int32.toNatClampNeg (nI me)) (nI qj_3)))), (a 41, .inl (cI, 8, .inl g6)), (a 42, .inl (cI, 8, .inl g7))] hP hD rfl
          refine lv_aload_n hx hb dX2_payWithin_96 rfl (lv_at hl 3 rfl) ?_
          refine va_get (D := (dC, dI)) (ci := 2) (v := .ref (a 41)) (C := RX2) (T := TX2) (N := 9) hx hb hw zz_inX2 hown hK hP 0 rfl rfl 6 (by decide) (hw _ tw_113) (fun _ h9 => h9) rfl dX2_payWithin_97 ?_
          refine lv_aload_n hx hb dX2_payWithin_100 rfl (lv_at hl 3 rfl) ?_
          refine va_get (D := (dC, dI)) (ci := 2) (v := .int (nI me)) (C := RX2) (T := TX2) (N := 9) hx hb hw zz_inX2 hown hK hP 0 rfl rfl 8 (by decide) (hw _ tw_105) (fun _ h9 => h9) rfl dX2_payWithin_101 ?_
          refine lv_iload hx hb dX2_payWithin_104 (lv_at hl 1 rfl) ?_
          refine va_iast hx hb hK hP hD hS 3 0 rfl rfl (vp_in_iff.mpr (by rw [zz_toInt me (by omega)]; constructor <;> omega)) dX2_payWithin_106 (fun H locs hP hD hS => ?_)
          obtain ⟨hP, hD⟩ := zz_ty (D := (dC, dI)) (cl := vwCl) (A := A) (H := H) [(a 34, .inr (2, [.ref (a 35), .ref (a 36), .ref (a 37), .ref (a 38), .ref (a 39), .ref (a 40), .ref (a 41), .ref (a 42), .int (nI me)])), (a 37, .inl (cI, 8, .inl (upd (upd g2 (Int32.toNatClampNeg (nI qj_3)) ((g2 (Int32.toNatClampNeg (nI qj_3))) + (if (g2 (Int32.toNatClampNeg (nI qj_5))) < (-(g2 (Int32.toNatClampNeg (nI qj_3)))) then (g2 (Int32.toNatClampNeg (nI qj_5))) else (-(g2 (Int32.toNatClampNeg (nI qj_3))))))) (Int32.toNatClampNeg (nI qj_5)) (((upd g2 (Int32.toNatClampNeg (nI qj_3)) ((g2 (Int32.toNatClampNeg (nI qj_3))) + (if (g2 (Int32.toNatClampNeg (nI qj_5))) < (-(g2 (Int32.toNatClampNeg (nI qj_3)))) then (g2 (Int32.toNatClampNeg (nI qj_5))) else (-(g2 (Int32.toNatClampNeg (nI qj_3))))))) (Int32.toNatClampNeg (nI qj_5))) - (if (g2 (Int32.toNatClampNeg (nI qj_5))) < (-(g2 (Int32.toNatClampNeg (nI qj_3)))) then (g2 (Int32.toNatClampNeg (nI qj_5))) else (-(g2 (Int32.toNatClampNeg (nI qj_3))))))))), (a 40, .inl (cI, 8, .inl (upd g5 (Int32.toNatClampNeg (nI me)) (nI qj_3)))), (a 41, .inl (cI, 8, .inl (upd g6 (Int32.toNatClampNeg (nI me)) (nI qj_5)))), (a 42, .inl (cI, 8, .inl g7))] hP hD rfl
          refine lv_aload_n hx hb dX2_payWithin_107 rfl (lv_at hl 3 rfl) ?_
          refine va_get (D := (dC, dI)) (ci := 2) (v := .ref (a 42)) (C := RX2) (T := TX2) (N := 9) hx hb hw zz_inX2 hown hK hP 0 rfl rfl 7 (by decide) (hw _ tw_114) (fun _ h9 => h9) rfl dX2_payWithin_108 ?_
          refine lv_aload_n hx hb dX2_payWithin_111 rfl (lv_at hl 3 rfl) ?_
          refine va_get (D := (dC, dI)) (ci := 2) (v := .int (nI me)) (C := RX2) (T := TX2) (N := 9) hx hb hw zz_inX2 hown hK hP 0 rfl rfl 8 (by decide) (hw _ tw_105) (fun _ h9 => h9) rfl dX2_payWithin_112 ?_
          refine lv_iload hx hb dX2_payWithin_115 (lv_at hl 0 rfl) ?_
          refine va_iast hx hb hK hP hD hS 4 0 rfl rfl (vp_in_iff.mpr (by rw [zz_toInt me (by omega)]; constructor <;> omega)) dX2_payWithin_117 (fun H locs hP hD hS => ?_)
          obtain ⟨hP, hD⟩ := zz_ty (D := (dC, dI)) (cl := vwCl) (A := A) (H := H) [(a 34, .inr (2, [.ref (a 35), .ref (a 36), .ref (a 37), .ref (a 38), .ref (a 39), .ref (a 40), .ref (a 41), .ref (a 42), .int (nI me)])), (a 37, .inl (cI, 8, .inl (upd (upd g2 (Int32.toNatClampNeg (nI qj_3)) ((g2 (Int32.toNatClampNeg (nI qj_3))) + (if (g2 (Int32.toNatClampNeg (nI qj_5))) < (-(g2 (Int32.toNatClampNeg (nI qj_3)))) then (g2 (Int32.toNatClampNeg (nI qj_5))) else (-(g2 (Int32.toNatClampNeg (nI qj_3))))))) (Int32.toNatClampNeg (nI qj_5)) (((upd g2 (Int32.toNatClampNeg (nI qj_3)) ((g2 (Int32.toNatClampNeg (nI qj_3))) + (if (g2 (Int32.toNatClampNeg (nI qj_5))) < (-(g2 (Int32.toNatClampNeg (nI qj_3)))) then (g2 (Int32.toNatClampNeg (nI qj_5))) else (-(g2 (Int32.toNatClampNeg (nI qj_3))))))) (Int32.toNatClampNeg (nI qj_5))) - (if (g2 (Int32.toNatClampNeg (nI qj_5))) < (-(g2 (Int32.toNatClampNeg (nI qj_3)))) then (g2 (Int32.toNatClampNeg (nI qj_5))) else (-(g2 (Int32.toNatClampNeg (nI qj_3))))))))), (a 40, .inl (cI, 8, .inl (upd g5 (Int32.toNatClampNeg (nI me)) (nI qj_3)))), (a 41, .inl (cI, 8, .inl (upd g6 (Int32.toNatClampNeg (nI me)) (nI qj_5)))), (a 42, .inl (cI, 8, .inl (upd g7 (Int32.toNatClampNeg (nI me)) (if (g2 (Int32.toNatClampNeg (nI qj_5))) < (-(g2 (Int32.toNatClampNeg (nI qj_3)))) then (g2 (Int32.toNatClampNeg (nI qj_5))) else (-(g2 (Int32.toNatClampNeg (nI qj_3))))))))] hP hD rfl
          refine lv_aload_n hx hb dX2_payWithin_118 rfl (lv_at hl 3 rfl) ?_
          refine lv_dup hx hb dX2_payWithin_119 rfl ?_
          refine va_get (D := (dC, dI)) (ci := 2) (v := .int (nI me)) (C := RX2) (T := TX2) (N := 9) hx hb hw zz_inX2 hown hK hP 0 rfl rfl 8 (by decide) (hw _ tw_105) (fun _ h9 => h9) rfl dX2_payWithin_120 ?_
          refine lv_iconst (v := 1) hx hb dX2_payWithin_123 (by decide) ?_
          refine lv_iadd hx hb dX2_payWithin_124 ?_
          refine zz_seti (nI (me + 1)) (nI_1 _) ?_
          refine va_put (D := (dC, dI)) (ci := 2) (v := .int (nI (me + 1))) (ty := .int) (C := RX2) (T := TX2) (N := 9) hx hb hw zz_inX2 tyX2 tyX2_ok nmX2 hown hK hP hD hS 0 rfl rfl 8 (by decide) (hw _ tw_105) (fun _ h9 => h9) rfl (by decide +kernel) rfl rfl (Nat.le_of_ble_eq_true rfl) dX2_payWithin_125 (fun H locs hP hD hS => ?_)
          obtain ⟨hP, hD⟩ := zz_ty (D := (dC, dI)) (cl := vwCl) (A := A) (H := H) [(a 34, .inr (2, [.ref (a 35), .ref (a 36), .ref (a 37), .ref (a 38), .ref (a 39), .ref (a 40), .ref (a 41), .ref (a 42), .int (nI (me + 1))])), (a 37, .inl (cI, 8, .inl (upd (upd g2 (Int32.toNatClampNeg (nI qj_3)) ((g2 (Int32.toNatClampNeg (nI qj_3))) + (if (g2 (Int32.toNatClampNeg (nI qj_5))) < (-(g2 (Int32.toNatClampNeg (nI qj_3)))) then (g2 (Int32.toNatClampNeg (nI qj_5))) else (-(g2 (Int32.toNatClampNeg (nI qj_3))))))) (Int32.toNatClampNeg (nI qj_5)) (((upd g2 (Int32.toNatClampNeg (nI qj_3)) ((g2 (Int32.toNatClampNeg (nI qj_3))) + (if (g2 (Int32.toNatClampNeg (nI qj_5))) < (-(g2 (Int32.toNatClampNeg (nI qj_3)))) then (g2 (Int32.toNatClampNeg (nI qj_5))) else (-(g2 (Int32.toNatClampNeg (nI qj_3))))))) (Int32.toNatClampNeg (nI qj_5))) - (if (g2 (Int32.toNatClampNeg (nI qj_5))) < (-(g2 (Int32.toNatClampNeg (nI qj_3)))) then (g2 (Int32.toNatClampNeg (nI qj_5))) else (-(g2 (Int32.toNatClampNeg (nI qj_3))))))))), (a 40, .inl (cI, 8, .inl (upd g5 (Int32.toNatClampNeg (nI me)) (nI qj_3)))), (a 41, .inl (cI, 8, .inl (upd g6 (Int32.toNatClampNeg (nI me)) (nI qj_5)))), (a 42, .inl (cI, 8, .inl (upd g7 (Int32.toNatClampNeg (nI me)) (if (g2 (Int32.toNatClampNeg (nI qj_5))) < (-(g2 (Int32.toNatClampNeg (nI qj_3)))) then (g2 (Int32.toNatClampNeg (nI qj_5))) else (-(g2 (Int32.toNatClampNeg (nI qj_3))))))))] hP hD rfl
          refine lv_iinc (v := (nI (j + 1))) (lv' := [(2, .int (nI (j + 1))), (5, .int (if (g2 (Int32.toNatClampNeg (nI qj_5))) < (-(g2 (Int32.toNatClampNeg (nI qj_3)))) then (g2 (Int32.toNatClampNeg (nI qj_5))) else (-(g2 (Int32.toNatClampNeg (nI qj_3)))))), (4, .int (nI qj_5)), (3, .int (nI qj_3)), (0, .ref (a 34)), (1, .int p0)]) hx hb dX2_payWithin_128 hl (k := 5) rfl (nI_1 _) (by decide) rfl (fun ls hl => ?_)
          refine lv_goto (tgt := 2) hx hb dX2_payWithin_131 (by decide) ?_
          exact ih_2 ((j + 1), (me + 1), (upd (upd g2 (Int32.toNatClampNeg (nI qj_3)) ((g2 (Int32.toNatClampNeg (nI qj_3))) + (if (g2 (Int32.toNatClampNeg (nI qj_5))) < (-(g2 (Int32.toNatClampNeg (nI qj_3)))) then (g2 (Int32.toNatClampNeg (nI qj_5))) else (-(g2 (Int32.toNatClampNeg (nI qj_3))))))) (Int32.toNatClampNeg (nI qj_5)) (((upd g2 (Int32.toNatClampNeg (nI qj_3)) ((g2 (Int32.toNatClampNeg (nI qj_3))) + (if (g2 (Int32.toNatClampNeg (nI qj_5))) < (-(g2 (Int32.toNatClampNeg (nI qj_3)))) then (g2 (Int32.toNatClampNeg (nI qj_5))) else (-(g2 (Int32.toNatClampNeg (nI qj_3))))))) (Int32.toNatClampNeg (nI qj_5))) - (if (g2 (Int32.toNatClampNeg (nI qj_5))) < (-(g2 (Int32.toNatClampNeg (nI qj_3)))) then (g2 (Int32.toNatClampNeg (nI qj_5))) else (-(g2 (Int32.toNatClampNeg (nI qj_3))))))), (upd g5 (Int32.toNatClampNeg (nI me)) (nI qj_3)), (upd g6 (Int32.toNatClampNeg (nI me)) (nI qj_5)), (upd g7 (Int32.toNatClampNeg (nI me)) (if (g2 (Int32.toNatClampNeg (nI qj_5))) < (-(g2 (Int32.toNatClampNeg (nI qj_3)))) then (g2 (Int32.toNatClampNeg (nI qj_5))) else (-(g2 (Int32.toNatClampNeg (nI qj_3))))))) (show (j + 1) ≤ 8 ∧ (me + 1) ≤ 8 from (by refine ⟨?_, ?_⟩ <;> omega)) (show 8 - (j + 1) < 8 - j from by omega) _ _ _ (hP.sub [0, 1, 2, 3, 4] rfl) (hD.sub [0, 1, 2, 3, 4] (by decide) rfl) hS (lv_sub hl [4, 5, 0] rfl)
set_option maxHeartbeats 4000000 in
set_option maxRecDepth 100000 in
theorem k_countGroups (l : Launch) (dC : Nat → ClassId) (dI : Nat → Nat → Nat) (a : Nat → Nat) (cI : ClassId) (ne : Nat) (e0 : Nat → Int32) (e3 : Nat → Int32) (e4 : Nat → Int32) (sz : Nat) : Met l yX2_countGroups (zz_w yX2_countGroups cX2_countGroups 5 none) ({ frames := 1, cells := 0, slots := 0, locals := 13 }) (va_Pc [.ref (a 34)] (zz_B (dC, dI) sz [(a 34, .inr (2, [.ref (a 35), .ref (a 36), .ref (a 37), .ref (a 38), .ref (a 39), .ref (a 40), .ref (a 41), .ref (a 42), .int (nI ne)])), (a 35, .inl (cI, 8, .inl e0)), (a 38, .inl (cI, 256, .inl e3)), (a 39, .inl (cI, 256, .inl e4))] [(cI, .int)])) (va_Qv (fun (_ : (Nat → Int32) × (Nat → Int32)) => True) (fun (u : (Nat → Int32) × (Nat → Int32)) (t : State) => match u with | (u0, u1) => va_P (dC, dI) vwCl [(a 34, .inr (2, [.ref (a 35), .ref (a 36), .ref (a 37), .ref (a 38), .ref (a 39), .ref (a 40), .ref (a 41), .ref (a 42), .int (nI ne)])), (a 35, .inl (cI, 8, .inl e0)), (a 38, .inl (cI, 256, .inl u0)), (a 39, .inl (cI, 256, .inl u1))] t.heap ∧ va_K (dC, dI) vwCl [(cI, .int)] t ∧ va_D (va_A [(a 34, .inr (2, [.ref (a 35), .ref (a 36), .ref (a 37), .ref (a 38), .ref (a 39), .ref (a 40), .ref (a 41), .ref (a 42), .int (nI ne)])), (a 35, .inl (cI, 8, .inl e0)), (a 38, .inl (cI, 256, .inl e3)), (a 39, .inl (cI, 256, .inl e4))] sz) [(a 34, .inr (2, [.ref (a 35), .ref (a 36), .ref (a 37), .ref (a 38), .ref (a 39), .ref (a 40), .ref (a 41), .ref (a 42), .int (nI ne)])), (a 35, .inl (cI, 8, .inl e0)), (a 38, .inl (cI, 256, .inl u0)), (a 39, .inl (cI, 256, .inl u1))]) (va_A [(a 34, .inr (2, [.ref (a 35), .ref (a 36), .ref (a 37), .ref (a 38), .ref (a 39), .ref (a 40), .ref (a 41), .ref (a 42), .int (nI ne)])), (a 35, .inl (cI, 8, .inl e0)), (a 38, .inl (cI, 256, .inl e3)), (a 39, .inl (cI, 256, .inl e4))] sz)) 0 0 (va_A [(a 34, .inr (2, [.ref (a 35), .ref (a 36), .ref (a 37), .ref (a 38), .ref (a 39), .ref (a 40), .ref (a 41), .ref (a 42), .int (nI ne)])), (a 35, .inl (cI, 8, .inl e0)), (a 38, .inl (cI, 256, .inl e3)), (a 39, .inl (cI, 256, .inl e4))] sz) := by
  refine Met.ofW (cc := cX2_countGroups) (maxL := 5) (ret := none) (by decide) rfl ?_
  intro p e s m args below meth c s₁ B hml hv
  obtain ⟨rfl, hsz, hP, hK, hD0, hN⟩ := hv
  have hx := B.exec
  have hb := B.bytes
  have hr := B.returns
  have hts := atoms_spec (ws := zz_w yX2_countGroups cX2_countGroups 5 none) B.pre
  have hw : ∀ w ∈ zz_all, w.before _ s = true := fun w h => hts w (List.mem_cons_of_mem _ h)
  have hown : s.vm.findClass RX2 = some m.cls := findClass_of_methodNamed B.named
  have hlocks := B.notSynchronized
  subst hsz
  have hD := hD0.self (sz := s.heap.size)
  generalize hAe : va_A [(a 34, .inr (2, [.ref (a 35), .ref (a 36), .ref (a 37), .ref (a 38), .ref (a 39), .ref (a 40), .ref (a 41), .ref (a 42), .int (nI ne)])), (a 35, .inl (cI, 8, .inl e0)), (a 38, .inl (cI, 256, .inl e3)), (a 39, .inl (cI, 256, .inl e4))] s.heap.size = A at hD ⊢
  have hA : ∀ q : Nat, s.heap.size ≤ q → A q := fun q h => by rw [← hAe]; exact Or.inr h
  have hS : va_S A s.heap s.heap [] := va_S.rf
  have hP : va_P (dC, dI) vwCl [(a 34, .inr (2, [.ref (a 35), .ref (a 36), .ref (a 37), .ref (a 38), .ref (a 39), .ref (a 40), .ref (a 41), .ref (a 42), .int (nI ne)])), (a 35, .inl (cI, 8, .inl e0)), (a 38, .inl (cI, 256, .inl e3)), (a 39, .inl (cI, 256, .inl e4))] s.heap := hP
  have hl := lv_entry ([.ref (a 34)]) (n := 5) (Nat.le_of_ble_eq_true rfl)
  rw [lg_entry_eq]
  generalize (lg_sl ([.ref (a 34)]) ++ List.replicate (5 - (lg_sl ([.ref (a 34)])).length) Slot.unset).toArray = ls at hl ⊢
  have hl : lv_has ls 5 [(0, .ref (a 34))] := hl
  refine lv_iconst (v := 1) hx hb dX2_countGroups_0 (by decide) ?_
  refine lv_istore_n (lv' := [(1, .int 1), (0, .ref (a 34))]) hx hb dX2_countGroups_1 rfl hl (by decide) rfl (fun ls hl => ?_)
  refine zz_loopS (fun (u : (Nat) × (Nat → Int32) × (Nat → Int32)) => match u with | (j, g3, g4) => [(a 34, .inr (2, [.ref (a 35), .ref (a 36), .ref (a 37), .ref (a 38), .ref (a 39), .ref (a 40), .ref (a 41), .ref (a 42), .int (nI ne)])), (a 35, .inl (cI, 8, .inl e0)), (a 38, .inl (cI, 256, .inl g3)), (a 39, .inl (cI, 256, .inl g4))]) (fun (u : (Nat) × (Nat → Int32) × (Nat → Int32)) => match u with | (j, g3, g4) => [(0, .ref (a 34)), (1, .int (nI j))]) (fun (u : (Nat) × (Nat → Int32) × (Nat → Int32)) => match u with | (j, g3, g4) => j ≤ 256) (fun (u : (Nat) × (Nat → Int32) × (Nat → Int32)) => match u with | (j, g3, g4) => 256 - j) (fun u hI H locs ls hP hD hS hl ih_2 => ?_) (1, e3, e4) (show 1 ≤ 256 from by omega) _ _ _ (hP.sub [0, 1, 2, 3] rfl) (hD.sub [0, 1, 2, 3] (by decide) rfl) hS (lv_sub hl [1, 0] rfl)
  obtain ⟨j, g3, g4⟩ := u
  obtain ⟨hP, hD⟩ := zz_ty (D := (dC, dI)) (cl := vwCl) (A := A) (H := H) [(a 34, .inr (2, [.ref (a 35), .ref (a 36), .ref (a 37), .ref (a 38), .ref (a 39), .ref (a 40), .ref (a 41), .ref (a 42), .int (nI ne)])), (a 35, .inl (cI, 8, .inl e0)), (a 38, .inl (cI, 256, .inl g3)), (a 39, .inl (cI, 256, .inl g4))] hP hD rfl
  have hl : lv_has ls 5 [(0, .ref (a 34)), (1, .int (nI j))] := hl
  have hI : j ≤ 256 := hI
  have ij := hI
  refine lv_iload_n hx hb dX2_countGroups_2 rfl (lv_at hl 1 rfl) ?_
  refine lv_sipush (v := 256) hx hb dX2_countGroups_3 (by decide) ?_
  refine lv_icmp_ge (tgt := 94) hx hb dX2_countGroups_6 (by decide) (fun c_1 => ?_) (fun c_1 => ?_)
  · have zc_1 := c_1
    rw [Int32.le_iff_toInt_le] at zc_1
    try rw [zz_toInt j (by omega)] at zc_1
    try rw [show (256 : Int32).toInt = 256 from by decide] at zc_1
    obtain ⟨hP9, hD9⟩ := zz_sub2 (ws' := [(a 34, .inr (2, [.ref (a 35), .ref (a 36), .ref (a 37), .ref (a 38), .ref (a 39), .ref (a 40), .ref (a 41), .ref (a 42), .int (nI ne)])), (a 35, .inl (cI, 8, .inl e0)), (a 38, .inl (cI, 256, .inl g3)), (a 39, .inl (cI, 256, .inl g4))]) hP hD [0, 1, 2, 3] (by decide) rfl
    have hK9 := hK.sub (tys' := [(cI, .int)]) [0] rfl
    exact W.vret hx hb hr (fun t ht hW => ⟨⟨(g3, g4), rfl, trivial, by rw [ht]; exact hP9, va_K.moved hW.alike hK9, hD9⟩, hS.F ht⟩) hS.2.2 dX2_countGroups_94
  · have zc_1 := c_1
    rw [Int32.le_iff_toInt_le] at zc_1
    try rw [zz_toInt j (by omega)] at zc_1
    try rw [show (256 : Int32).toInt = 256 from by decide] at zc_1
    refine lv_iconst (v := 0) hx hb dX2_countGroups_9 (by decide) ?_
    refine lv_istore_n (lv' := [(2, .int 0), (0, .ref (a 34)), (1, .int (nI j))]) hx hb dX2_countGroups_10 rfl hl (by decide) rfl (fun ls hl => ?_)
    refine lv_iconst (v := 0) hx hb dX2_countGroups_11 (by decide) ?_
    refine lv_istore_n (lv' := [(3, .int 0), (2, .int 0), (0, .ref (a 34)), (1, .int (nI j))]) hx hb dX2_countGroups_12 rfl hl (by decide) rfl (fun ls hl => ?_)
    refine lv_iconst (v := 0) hx hb dX2_countGroups_13 (by decide) ?_
    refine lv_istore (lv' := [(4, .int 0), (3, .int 0), (2, .int 0), (0, .ref (a 34)), (1, .int (nI j))]) hx hb dX2_countGroups_14 hl (by decide) rfl (fun ls hl => ?_)
    refine zz_loopS (fun (u : (Nat) × (Int32) × (Int32)) => match u with | (i, y, x) => [(a 34, .inr (2, [.ref (a 35), .ref (a 36), .ref (a 37), .ref (a 38), .ref (a 39), .ref (a 40), .ref (a 41), .ref (a 42), .int (nI ne)])), (a 35, .inl (cI, 8, .inl e0)), (a 38, .inl (cI, 256, .inl g3)), (a 39, .inl (cI, 256, .inl g4))]) (fun (u : (Nat) × (Int32) × (Int32)) => match u with | (i, y, x) => [(0, .ref (a 34)), (1, .int (nI j)), (2, .int y), (3, .int x), (4, .int (nI i))]) (fun (u : (Nat) × (Int32) × (Int32)) => match u with | (i, y, x) => i ≤ 8) (fun (u : (Nat) × (Int32) × (Int32)) => match u with | (i, y, x) => 8 - i) (fun u hI H locs ls hP hD hS hl ih_16 => ?_) (0, 0, 0) (show 0 ≤ 8 from by omega) _ _ _ (hP.sub [0, 1, 2, 3] rfl) (hD.sub [0, 1, 2, 3] (by decide) rfl) hS (lv_sub hl [3, 4, 2, 1, 0] rfl)
    obtain ⟨i, y, x⟩ := u
    obtain ⟨hP, hD⟩ := zz_ty (D := (dC, dI)) (cl := vwCl) (A := A) (H := H) [(a 34, .inr (2, [.ref (a 35), .ref (a 36), .ref (a 37), .ref (a 38), .ref (a 39), .ref (a 40), .ref (a 41), .ref (a 42), .int (nI ne)])), (a 35, .inl (cI, 8, .inl e0)), (a 38, .inl (cI, 256, .inl g3)), (a 39, .inl (cI, 256, .inl g4))] hP hD rfl
    have hl : lv_has ls 5 [(0, .ref (a 34)), (1, .int (nI j)), (2, .int y), (3, .int x), (4, .int (nI i))] := hl
    have hI : i ≤ 8 := hI
    have ii := hI
    refine lv_iload hx hb dX2_countGroups_16 (lv_at hl 4 rfl) ?_
    refine lv_bipush (v := 8) hx hb dX2_countGroups_18 (by decide) ?_
    refine lv_icmp_ge (tgt := 64) hx hb dX2_countGroups_20 (by decide) (fun c_2 => ?_) (fun c_2 => ?_)
    · have zc_2 := c_2
      rw [Int32.le_iff_toInt_le] at zc_2
      try rw [zz_toInt i (by omega)] at zc_2
      try rw [show (8 : Int32).toInt = 8 from by decide] at zc_2
      refine lv_aload_n hx hb dX2_countGroups_64 rfl (lv_at hl 0 rfl) ?_
      refine va_get (D := (dC, dI)) (ci := 2) (v := .ref (a 38)) (C := RX2) (T := TX2) (N := 9) hx hb hw zz_inX2 hown hK hP 0 rfl rfl 3 (by decide) (hw _ tw_103) (fun _ h9 => h9) rfl dX2_countGroups_65 ?_
      refine lv_iload_n hx hb dX2_countGroups_68 rfl (lv_at hl 1 rfl) ?_
      refine lv_iload_n hx hb dX2_countGroups_69 rfl (lv_at hl 2 rfl) ?_
      refine va_iast hx hb hK hP hD hS 2 0 rfl rfl (vp_in_iff.mpr (by rw [zz_toInt j (by omega)]; constructor <;> omega)) dX2_countGroups_70 (fun H locs hP hD hS => ?_)
      obtain ⟨hP, hD⟩ := zz_ty (D := (dC, dI)) (cl := vwCl) (A := A) (H := H) [(a 34, .inr (2, [.ref (a 35), .ref (a 36), .ref (a 37), .ref (a 38), .ref (a 39), .ref (a 40), .ref (a 41), .ref (a 42), .int (nI ne)])), (a 35, .inl (cI, 8, .inl e0)), (a 38, .inl (cI, 256, .inl (upd g3 (Int32.toNatClampNeg (nI j)) y))), (a 39, .inl (cI, 256, .inl g4))] hP hD rfl
      refine lv_aload_n hx hb dX2_countGroups_71 rfl (lv_at hl 0 rfl) ?_
      refine va_get (D := (dC, dI)) (ci := 2) (v := .ref (a 39)) (C := RX2) (T := TX2) (N := 9) hx hb hw zz_inX2 hown hK hP 0 rfl rfl 4 (by decide) (hw _ tw_104) (fun _ h9 => h9) rfl dX2_countGroups_72 ?_
      refine lv_iload_n hx hb dX2_countGroups_75 rfl (lv_at hl 1 rfl) ?_
      refine lv_iload_n hx hb dX2_countGroups_76 rfl (lv_at hl 2 rfl) ?_
      refine lv_if_ne (tgt := 86) hx hb dX2_countGroups_77 (by decide) (fun c_3 => ?_) (fun c_3 => ?_)
      · have zc_3 := c_3
        rw [← Int32.toInt_inj] at zc_3
        try rw [show (0 : Int32).toInt = 0 from by decide] at zc_3
        refine lv_iload_n hx hb dX2_countGroups_86 rfl (lv_at hl 3 rfl) ?_
        refine va_iast hx hb hK hP hD hS 3 0 rfl rfl (vp_in_iff.mpr (by rw [zz_toInt j (by omega)]; constructor <;> omega)) dX2_countGroups_87 (fun H locs hP hD hS => ?_)
        obtain ⟨hP, hD⟩ := zz_ty (D := (dC, dI)) (cl := vwCl) (A := A) (H := H) [(a 34, .inr (2, [.ref (a 35), .ref (a 36), .ref (a 37), .ref (a 38), .ref (a 39), .ref (a 40), .ref (a 41), .ref (a 42), .int (nI ne)])), (a 35, .inl (cI, 8, .inl e0)), (a 38, .inl (cI, 256, .inl (upd g3 (Int32.toNatClampNeg (nI j)) y))), (a 39, .inl (cI, 256, .inl (upd g4 (Int32.toNatClampNeg (nI j)) x)))] hP hD rfl
        refine lv_iinc (v := (nI (j + 1))) (lv' := [(1, .int (nI (j + 1))), (0, .ref (a 34)), (2, .int y), (3, .int x), (4, .int (nI i))]) hx hb dX2_countGroups_88 hl (k := 1) rfl (nI_1 _) (by decide) rfl (fun ls hl => ?_)
        refine lv_goto (tgt := 2) hx hb dX2_countGroups_91 (by decide) ?_
        exact ih_2 ((j + 1), (upd g3 (Int32.toNatClampNeg (nI j)) y), (upd g4 (Int32.toNatClampNeg (nI j)) x)) (show (j + 1) ≤ 256 from by omega) (show 256 - (j + 1) < 256 - j from by omega) _ _ _ (hP.sub [0, 1, 2, 3] rfl) (hD.sub [0, 1, 2, 3] (by decide) rfl) hS (lv_sub hl [1, 0] rfl)
      · have zc_3 := c_3
        rw [← Int32.toInt_inj] at zc_3
        try rw [show (0 : Int32).toInt = 0 from by decide] at zc_3
        refine lv_iload_n hx hb dX2_countGroups_80 rfl (lv_at hl 3 rfl) ?_
        refine lv_iconst (v := 1) hx hb dX2_countGroups_81 (by decide) ?_
        refine lv_iadd hx hb dX2_countGroups_82 ?_
        refine lv_goto (tgt := 87) hx hb dX2_countGroups_83 (by decide) ?_
        refine va_iast hx hb hK hP hD hS 3 0 rfl rfl (vp_in_iff.mpr (by rw [zz_toInt j (by omega)]; constructor <;> omega)) dX2_countGroups_87 (fun H locs hP hD hS => ?_)
        obtain ⟨hP, hD⟩ := zz_ty (D := (dC, dI)) (cl := vwCl) (A := A) (H := H) [(a 34, .inr (2, [.ref (a 35), .ref (a 36), .ref (a 37), .ref (a 38), .ref (a 39), .ref (a 40), .ref (a 41), .ref (a 42), .int (nI ne)])), (a 35, .inl (cI, 8, .inl e0)), (a 38, .inl (cI, 256, .inl (upd g3 (Int32.toNatClampNeg (nI j)) y))), (a 39, .inl (cI, 256, .inl (upd g4 (Int32.toNatClampNeg (nI j)) (x + 1))))] hP hD rfl
        refine lv_iinc (v := (nI (j + 1))) (lv' := [(1, .int (nI (j + 1))), (0, .ref (a 34)), (2, .int y), (3, .int x), (4, .int (nI i))]) hx hb dX2_countGroups_88 hl (k := 1) rfl (nI_1 _) (by decide) rfl (fun ls hl => ?_)
        refine lv_goto (tgt := 2) hx hb dX2_countGroups_91 (by decide) ?_
        exact ih_2 ((j + 1), (upd g3 (Int32.toNatClampNeg (nI j)) y), (upd g4 (Int32.toNatClampNeg (nI j)) (x + 1))) (show (j + 1) ≤ 256 from by omega) (show 256 - (j + 1) < 256 - j from by omega) _ _ _ (hP.sub [0, 1, 2, 3] rfl) (hD.sub [0, 1, 2, 3] (by decide) rfl) hS (lv_sub hl [1, 0] rfl)
    · have zc_2 := c_2
      rw [Int32.le_iff_toInt_le] at zc_2
      try rw [zz_toInt i (by omega)] at zc_2
      try rw [show (8 : Int32).toInt = 8 from by decide] at zc_2
      refine lv_iload_n hx hb dX2_countGroups_23 rfl (lv_at hl 1 rfl) ?_
      refine lv_iconst (v := 1) hx hb dX2_countGroups_24 (by decide) ?_
      refine lv_iload hx hb dX2_countGroups_25 (lv_at hl 4 rfl) ?_
      refine lv_ishl hx hb dX2_countGroups_27 ?_
      obtain ⟨z_4, hz_4, ez_4⟩ := zz_shlE256 (j := i) (by omega)
      refine zz_seti (nI z_4) ez_4 ?_
      refine lv_iand hx hb dX2_countGroups_28 ?_
      obtain ⟨z_5, hz_5, ez_5⟩ := zz_andE256 (a := j) (by omega) ((nI z_4))
      refine zz_seti (nI z_5) ez_5 ?_
      refine lv_if_eq (tgt := 58) hx hb dX2_countGroups_29 (by decide) (fun c_6 => ?_) (fun c_6 => ?_)
      · have zc_6 := c_6
        rw [← Int32.toInt_inj] at zc_6
        try rw [zz_toInt z_5 (by omega)] at zc_6
        try rw [show (0 : Int32).toInt = 0 from by decide] at zc_6
        refine lv_iinc (v := (nI (i + 1))) (lv' := [(4, .int (nI (i + 1))), (0, .ref (a 34)), (1, .int (nI j)), (2, .int y), (3, .int x)]) hx hb dX2_countGroups_58 hl (k := 4) rfl (nI_1 _) (by decide) rfl (fun ls hl => ?_)
        refine lv_goto (tgt := 16) hx hb dX2_countGroups_61 (by decide) ?_
        exact ih_16 ((i + 1), y, x) (show (i + 1) ≤ 8 from by omega) (show 8 - (i + 1) < 8 - i from by omega) _ _ _ (hP.sub [0, 1, 2, 3] rfl) (hD.sub [0, 1, 2, 3] (by decide) rfl) hS (lv_sub hl [1, 2, 3, 4, 0] rfl)
      · have zc_6 := c_6
        rw [← Int32.toInt_inj] at zc_6
        try rw [zz_toInt z_5 (by omega)] at zc_6
        try rw [show (0 : Int32).toInt = 0 from by decide] at zc_6
        refine lv_iload_n hx hb dX2_countGroups_32 rfl (lv_at hl 2 rfl) ?_
        refine lv_aload_n hx hb dX2_countGroups_33 rfl (lv_at hl 0 rfl) ?_
        refine va_get (D := (dC, dI)) (ci := 2) (v := .ref (a 35)) (C := RX2) (T := TX2) (N := 9) hx hb hw zz_inX2 hown hK hP 0 rfl rfl 0 (by decide) (hw _ tw_115) (fun _ h9 => h9) rfl dX2_countGroups_34 ?_
        refine lv_iload hx hb dX2_countGroups_37 (lv_at hl 4 rfl) ?_
        refine va_iald hx hb hK hP 1 0 rfl rfl (vp_in_iff.mpr (by rw [zz_toInt i (by omega)]; constructor <;> omega)) dX2_countGroups_39 ?_
        refine lv_iadd hx hb dX2_countGroups_40 ?_
        refine lv_istore_n (lv' := [(2, .int (y + (e0 (Int32.toNatClampNeg (nI i))))), (0, .ref (a 34)), (1, .int (nI j)), (3, .int x), (4, .int (nI i))]) hx hb dX2_countGroups_41 rfl hl (by decide) rfl (fun ls hl => ?_)
        refine lv_iload_n hx hb dX2_countGroups_42 rfl (lv_at hl 3 rfl) ?_
        refine lv_aload_n hx hb dX2_countGroups_43 rfl (lv_at hl 1 rfl) ?_
        refine va_get (D := (dC, dI)) (ci := 2) (v := .ref (a 39)) (C := RX2) (T := TX2) (N := 9) hx hb hw zz_inX2 hown hK hP 0 rfl rfl 4 (by decide) (hw _ tw_104) (fun _ h9 => h9) rfl dX2_countGroups_44 ?_
        refine lv_iload_n hx hb dX2_countGroups_47 rfl (lv_at hl 2 rfl) ?_
        refine lv_iconst (v := 1) hx hb dX2_countGroups_48 (by decide) ?_
        refine lv_iload hx hb dX2_countGroups_49 (lv_at hl 4 rfl) ?_
        refine lv_ishl hx hb dX2_countGroups_51 ?_
        obtain ⟨z_7, hz_7, ez_7⟩ := zz_shlE256 (j := i) (by omega)
        refine zz_seti (nI z_7) ez_7 ?_
        refine lv_ixor hx hb dX2_countGroups_52 ?_
        obtain ⟨z_8, hz_8, ez_8⟩ := zz_xorE256 (a := j) (b := z_7) (by omega) (by omega)
        refine zz_seti (nI z_8) ez_8 ?_
        refine va_iald hx hb hK hP 3 0 rfl rfl (vp_in_iff.mpr (by rw [zz_toInt z_8 (by omega)]; constructor <;> omega)) dX2_countGroups_53 ?_
        refine va_mmax hx hb (by rw [hml]; exact hl.1.symm) hown (hw _ tw_116) (hw _ tw_37) (hw _ tw_28) (hw _ tw_38) (Nat.le_of_ble_eq_true rfl) (Nat.le_of_ble_eq_true rfl) (Nat.le_of_ble_eq_true rfl) (Nat.le_of_ble_eq_true rfl) dX2_countGroups_54 ?_
        refine lv_istore_n (lv' := [(3, .int (if x < (g4 (Int32.toNatClampNeg (nI z_8))) then (g4 (Int32.toNatClampNeg (nI z_8))) else x)), (2, .int (y + (e0 (Int32.toNatClampNeg (nI i))))), (0, .ref (a 34)), (1, .int (nI j)), (4, .int (nI i))]) hx hb dX2_countGroups_57 rfl hl (by decide) rfl (fun ls hl => ?_)
        refine lv_iinc (v := (nI (i + 1))) (lv' := [(4, .int (nI (i + 1))), (3, .int (if x < (g4 (Int32.toNatClampNeg (nI z_8))) then (g4 (Int32.toNatClampNeg (nI z_8))) else x)), (2, .int (y + (e0 (Int32.toNatClampNeg (nI i))))), (0, .ref (a 34)), (1, .int (nI j))]) hx hb dX2_countGroups_58 hl (k := 4) rfl (nI_1 _) (by decide) rfl (fun ls hl => ?_)
        refine lv_goto (tgt := 16) hx hb dX2_countGroups_61 (by decide) ?_
        exact ih_16 ((i + 1), (y + (e0 (Int32.toNatClampNeg (nI i)))), (if x < (g4 (Int32.toNatClampNeg (nI z_8))) then (g4 (Int32.toNatClampNeg (nI z_8))) else x)) (show (i + 1) ≤ 8 from by omega) (show 8 - (i + 1) < 8 - i from by omega) _ _ _ (hP.sub [0, 1, 2, 3] rfl) (hD.sub [0, 1, 2, 3] (by decide) rfl) hS (lv_sub hl [3, 4, 2, 1, 0] rfl)
set_option maxHeartbeats 4000000 in
set_option maxRecDepth 100000 in
theorem k_tell (l : Launch) (dC : Nat → ClassId) (dI : Nat → Nat → Nat) (a : Nat → Nat) (cI : ClassId) (ne : Nat) (e0 : Nat → Int32) (e1 : Nat → Int32) (e2 : Nat → Int32) (e3 : Nat → Int32) (e4 : Nat → Int32) (e5 : Nat → Int32) (e6 : Nat → Int32) (e7 : Nat → Int32) (sz : Nat) (hne : ne ≤ 8) : Met l yX2_tell (zz_w yX2_tell cX2_tell 4 none) ({ frames := 2, cells := 0, slots := 0, locals := 48 }) (va_Pc [.ref (a 34)] (zz_B (dC, dI) sz [(a 34, .inr (2, [.ref (a 35), .ref (a 36), .ref (a 37), .ref (a 38), .ref (a 39), .ref (a 40), .ref (a 41), .ref (a 42), .int (nI ne)])), (a 35, .inl (cI, 8, .inl e0)), (a 36, .inl (cI, 8, .inl e1)), (a 37, .inl (cI, 8, .inl e2)), (a 38, .inl (cI, 256, .inl e3)), (a 39, .inl (cI, 256, .inl e4)), (a 40, .inl (cI, 8, .inl e5)), (a 41, .inl (cI, 8, .inl e6)), (a 42, .inl (cI, 8, .inl e7))] [(cI, .int)])) (va_Qv (fun (u : Nat × (Nat → Int32) × (Nat → Int32) × (Nat → Int32) × (Nat → Int32) × (Nat → Int32) × (Nat → Int32) × (Nat → Int32)) => match u with | (n2, _, _, _, _, _, _, _) => n2 ≤ 8) (fun (u : Nat × (Nat → Int32) × (Nat → Int32) × (Nat → Int32) × (Nat → Int32) × (Nat → Int32) × (Nat → Int32) × (Nat → Int32)) (t : State) => match u with | (u0, u1, u2, u3, u4, u5, u6, u7) => va_P (dC, dI) vwCl [(a 34, .inr (2, [.ref (a 35), .ref (a 36), .ref (a 37), .ref (a 38), .ref (a 39), .ref (a 40), .ref (a 41), .ref (a 42), .int (nI u0)])), (a 35, .inl (cI, 8, .inl u1)), (a 36, .inl (cI, 8, .inl e1)), (a 37, .inl (cI, 8, .inl u2)), (a 38, .inl (cI, 256, .inl u3)), (a 39, .inl (cI, 256, .inl u4)), (a 40, .inl (cI, 8, .inl u5)), (a 41, .inl (cI, 8, .inl u6)), (a 42, .inl (cI, 8, .inl u7))] t.heap ∧ va_K (dC, dI) vwCl [(cI, .int)] t ∧ va_D (va_A [(a 34, .inr (2, [.ref (a 35), .ref (a 36), .ref (a 37), .ref (a 38), .ref (a 39), .ref (a 40), .ref (a 41), .ref (a 42), .int (nI ne)])), (a 35, .inl (cI, 8, .inl e0)), (a 36, .inl (cI, 8, .inl e1)), (a 37, .inl (cI, 8, .inl e2)), (a 38, .inl (cI, 256, .inl e3)), (a 39, .inl (cI, 256, .inl e4)), (a 40, .inl (cI, 8, .inl e5)), (a 41, .inl (cI, 8, .inl e6)), (a 42, .inl (cI, 8, .inl e7))] sz) [(a 34, .inr (2, [.ref (a 35), .ref (a 36), .ref (a 37), .ref (a 38), .ref (a 39), .ref (a 40), .ref (a 41), .ref (a 42), .int (nI u0)])), (a 35, .inl (cI, 8, .inl u1)), (a 36, .inl (cI, 8, .inl e1)), (a 37, .inl (cI, 8, .inl u2)), (a 38, .inl (cI, 256, .inl u3)), (a 39, .inl (cI, 256, .inl u4)), (a 40, .inl (cI, 8, .inl u5)), (a 41, .inl (cI, 8, .inl u6)), (a 42, .inl (cI, 8, .inl u7))]) (va_A [(a 34, .inr (2, [.ref (a 35), .ref (a 36), .ref (a 37), .ref (a 38), .ref (a 39), .ref (a 40), .ref (a 41), .ref (a 42), .int (nI ne)])), (a 35, .inl (cI, 8, .inl e0)), (a 36, .inl (cI, 8, .inl e1)), (a 37, .inl (cI, 8, .inl e2)), (a 38, .inl (cI, 256, .inl e3)), (a 39, .inl (cI, 256, .inl e4)), (a 40, .inl (cI, 8, .inl e5)), (a 41, .inl (cI, 8, .inl e6)), (a 42, .inl (cI, 8, .inl e7))] sz)) 0 0 (va_A [(a 34, .inr (2, [.ref (a 35), .ref (a 36), .ref (a 37), .ref (a 38), .ref (a 39), .ref (a 40), .ref (a 41), .ref (a 42), .int (nI ne)])), (a 35, .inl (cI, 8, .inl e0)), (a 36, .inl (cI, 8, .inl e1)), (a 37, .inl (cI, 8, .inl e2)), (a 38, .inl (cI, 256, .inl e3)), (a 39, .inl (cI, 256, .inl e4)), (a 40, .inl (cI, 8, .inl e5)), (a 41, .inl (cI, 8, .inl e6)), (a 42, .inl (cI, 8, .inl e7))] sz) := by
  refine Met.ofW (cc := cX2_tell) (maxL := 4) (ret := none) (by decide) rfl ?_
  intro p e s m args below meth c s₁ B hml hv
  obtain ⟨rfl, hsz, hP, hK, hD0, hN⟩ := hv
  have hx := B.exec
  have hb := B.bytes
  have hr := B.returns
  have hts := atoms_spec (ws := zz_w yX2_tell cX2_tell 4 none) B.pre
  have hw : ∀ w ∈ zz_all, w.before _ s = true := fun w h => hts w (List.mem_cons_of_mem _ h)
  have hown : s.vm.findClass RX2 = some m.cls := findClass_of_methodNamed B.named
  have hlocks := B.notSynchronized
  subst hsz
  have hD := hD0.self (sz := s.heap.size)
  generalize hAe : va_A [(a 34, .inr (2, [.ref (a 35), .ref (a 36), .ref (a 37), .ref (a 38), .ref (a 39), .ref (a 40), .ref (a 41), .ref (a 42), .int (nI ne)])), (a 35, .inl (cI, 8, .inl e0)), (a 36, .inl (cI, 8, .inl e1)), (a 37, .inl (cI, 8, .inl e2)), (a 38, .inl (cI, 256, .inl e3)), (a 39, .inl (cI, 256, .inl e4)), (a 40, .inl (cI, 8, .inl e5)), (a 41, .inl (cI, 8, .inl e6)), (a 42, .inl (cI, 8, .inl e7))] s.heap.size = A at hD ⊢
  have hA : ∀ q : Nat, s.heap.size ≤ q → A q := fun q h => by rw [← hAe]; exact Or.inr h
  have hS : va_S A s.heap s.heap [] := va_S.rf
  have hP : va_P (dC, dI) vwCl [(a 34, .inr (2, [.ref (a 35), .ref (a 36), .ref (a 37), .ref (a 38), .ref (a 39), .ref (a 40), .ref (a 41), .ref (a 42), .int (nI ne)])), (a 35, .inl (cI, 8, .inl e0)), (a 36, .inl (cI, 8, .inl e1)), (a 37, .inl (cI, 8, .inl e2)), (a 38, .inl (cI, 256, .inl e3)), (a 39, .inl (cI, 256, .inl e4)), (a 40, .inl (cI, 8, .inl e5)), (a 41, .inl (cI, 8, .inl e6)), (a 42, .inl (cI, 8, .inl e7))] s.heap := hP
  have hl := lv_entry ([.ref (a 34)]) (n := 4) (Nat.le_of_ble_eq_true rfl)
  rw [lg_entry_eq]
  generalize (lg_sl ([.ref (a 34)]) ++ List.replicate (4 - (lg_sl ([.ref (a 34)])).length) Slot.unset).toArray = ls at hl ⊢
  have hl : lv_has ls 4 [(0, .ref (a 34))] := hl
  refine lv_aload_n hx hb dX2_tell_0 rfl (lv_at hl 0 rfl) ?_
  refine lv_iconst (v := 0) hx hb dX2_tell_1 (by decide) ?_
  refine va_put (D := (dC, dI)) (ci := 2) (v := .int 0) (ty := .int) (C := RX2) (T := TX2) (N := 9) hx hb hw zz_inX2 tyX2 tyX2_ok nmX2 hown hK hP hD hS 0 rfl rfl 8 (by decide) (hw _ tw_105) (fun _ h9 => h9) rfl (by decide +kernel) rfl rfl (Nat.le_of_ble_eq_true rfl) dX2_tell_2 (fun H locs hP hD hS => ?_)
  obtain ⟨hP, hD⟩ := zz_ty (D := (dC, dI)) (cl := vwCl) (A := A) (H := H) [(a 34, .inr (2, [.ref (a 35), .ref (a 36), .ref (a 37), .ref (a 38), .ref (a 39), .ref (a 40), .ref (a 41), .ref (a 42), .int 0])), (a 35, .inl (cI, 8, .inl e0)), (a 36, .inl (cI, 8, .inl e1)), (a 37, .inl (cI, 8, .inl e2)), (a 38, .inl (cI, 256, .inl e3)), (a 39, .inl (cI, 256, .inl e4)), (a 40, .inl (cI, 8, .inl e5)), (a 41, .inl (cI, 8, .inl e6)), (a 42, .inl (cI, 8, .inl e7))] hP hD rfl
  refine lv_iconst (v := 0) hx hb dX2_tell_5 (by decide) ?_
  refine lv_istore_n (lv' := [(1, .int 0), (0, .ref (a 34))]) hx hb dX2_tell_6 rfl hl (by decide) rfl (fun ls hl => ?_)
  refine lv_iconst (v := 0) hx hb dX2_tell_7 (by decide) ?_
  refine lv_istore_n (lv' := [(2, .int 0), (1, .int 0), (0, .ref (a 34))]) hx hb dX2_tell_8 rfl hl (by decide) rfl (fun ls hl => ?_)
  refine zz_loopS (fun (u : (Nat) × (Nat) × (Nat → Int32)) => match u with | (j, r1, g2) => [(a 34, .inr (2, [.ref (a 35), .ref (a 36), .ref (a 37), .ref (a 38), .ref (a 39), .ref (a 40), .ref (a 41), .ref (a 42), .int (nI 0)])), (a 35, .inl (cI, 8, .inl e0)), (a 36, .inl (cI, 8, .inl e1)), (a 37, .inl (cI, 8, .inl g2)), (a 38, .inl (cI, 256, .inl e3)), (a 39, .inl (cI, 256, .inl e4)), (a 40, .inl (cI, 8, .inl e5)), (a 41, .inl (cI, 8, .inl e6)), (a 42, .inl (cI, 8, .inl e7))]) (fun (u : (Nat) × (Nat) × (Nat → Int32)) => match u with | (j, r1, g2) => [(0, .ref (a 34)), (1, .int (nI r1)), (2, .int (nI j))]) (fun (u : (Nat) × (Nat) × (Nat → Int32)) => match u with | (j, r1, g2) => j ≤ 8 ∧ r1 < 256) (fun (u : (Nat) × (Nat) × (Nat → Int32)) => match u with | (j, r1, g2) => 8 - j) (fun u hI H locs ls hP hD hS hl ih_9 => ?_) (0, 0, e2) (show 0 ≤ 8 ∧ 0 < 256 from (by refine ⟨?_, ?_⟩ <;> omega)) _ _ _ (hP.sub [0, 1, 2, 3, 4, 5, 6, 7, 8] rfl) (hD.sub [0, 1, 2, 3, 4, 5, 6, 7, 8] (by decide) rfl) hS (lv_sub hl [2, 1, 0] rfl)
  obtain ⟨j, r1, g2⟩ := u
  obtain ⟨hP, hD⟩ := zz_ty (D := (dC, dI)) (cl := vwCl) (A := A) (H := H) [(a 34, .inr (2, [.ref (a 35), .ref (a 36), .ref (a 37), .ref (a 38), .ref (a 39), .ref (a 40), .ref (a 41), .ref (a 42), .int (nI 0)])), (a 35, .inl (cI, 8, .inl e0)), (a 36, .inl (cI, 8, .inl e1)), (a 37, .inl (cI, 8, .inl g2)), (a 38, .inl (cI, 256, .inl e3)), (a 39, .inl (cI, 256, .inl e4)), (a 40, .inl (cI, 8, .inl e5)), (a 41, .inl (cI, 8, .inl e6)), (a 42, .inl (cI, 8, .inl e7))] hP hD rfl
  have hl : lv_has ls 4 [(0, .ref (a 34)), (1, .int (nI r1)), (2, .int (nI j))] := hl
  have hI : j ≤ 8 ∧ r1 < 256 := hI
  obtain ⟨ij, ir⟩ := hI
  refine lv_iload_n hx hb dX2_tell_9 rfl (lv_at hl 2 rfl) ?_
  refine lv_bipush (v := 8) hx hb dX2_tell_10 (by decide) ?_
  refine lv_icmp_ge (tgt := 48) hx hb dX2_tell_12 (by decide) (fun c_1 => ?_) (fun c_1 => ?_)
  · have zc_1 := c_1
    rw [Int32.le_iff_toInt_le] at zc_1
    try rw [zz_toInt j (by omega)] at zc_1
    try rw [show (8 : Int32).toInt = 8 from by decide] at zc_1
    refine lv_aload_n hx hb dX2_tell_48 rfl (lv_at hl 0 rfl) ?_
    obtain ⟨hPc, hDc⟩ := zz_sub2 (ws' := [(a 34, .inr (2, [.ref (a 35), .ref (a 36), .ref (a 37), .ref (a 38), .ref (a 39), .ref (a 40), .ref (a 41), .ref (a 42), .int (nI 0)])), (a 35, .inl (cI, 8, .inl e0)), (a 38, .inl (cI, 256, .inl e3)), (a 39, .inl (cI, 256, .inl e4))]) hP hD [0, 1, 4, 5] (by decide) rfl
    have hKc := hK.sub (tys' := [(cI, .int)]) [0] rfl
    have hFc := zz_free1 hDc hS hA
    refine va_callv (va_runV (As := []) (rest := []) ⟨hx, hb, hml, hown, hw⟩ (k_countGroups l dC dI a cI 0 e0 e3 e4 H.size) ⟨callB_of 0 hw (zz_good tw_117) rfl rfl rfl (hw _ tw_107) (hw _ tw_118) (by decide +kernel) ⟨Nat.le_of_ble_eq_true rfl, Nat.le_of_ble_eq_true rfl⟩, (hw _ tw_119), (hw _ tw_120)⟩ ⟨zz_blind, va_recv hKc hPc (ci := 2) (q0 := 0) rfl rfl, zz_pre hPc hKc hDc hN⟩ rfl rfl hl.1 rfl (lv_room (Nat.le_of_ble_eq_true rfl)) dX2_tell_49 ⟨Nat.le_of_ble_eq_true rfl, Nat.le_of_ble_eq_true rfl⟩) hS (fun q _ h => hFc q h) hFc (fun u_2 t H1 locs ht hvm e_2 hB hz1 hk1 hS => ?_)
    try dsimp only at e_2
    obtain ⟨g3c, g4c⟩ := u_2
    obtain ⟨hP1, hK1, hD1⟩ := hB
    rw [ht] at hP1
    have hK1 := va_K.moved hvm.symm hK1
    try dsimp only at e_2
    obtain ⟨hP, hD⟩ := va_join (wr := [(a 36, .inl (cI, 8, .inl e1)), (a 37, .inl (cI, 8, .inl g2)), (a 40, .inl (cI, 8, .inl e5)), (a 41, .inl (cI, 8, .inl e6)), (a 42, .inl (cI, 8, .inl e7))]) (w1 := [(a 34, .inr (2, [.ref (a 35), .ref (a 36), .ref (a 37), .ref (a 38), .ref (a 39), .ref (a 40), .ref (a 41), .ref (a 42), .int (nI 0)])), (a 35, .inl (cI, 8, .inl e0)), (a 38, .inl (cI, 256, .inl g3c)), (a 39, .inl (cI, 256, .inl g4c))]) hP hD [0, 1, 4, 5] [2, 3, 6, 7, 8] rfl rfl (by decide) (by decide) hk1 hFc hP1 hD1
    clear hk1 ht hvm
    generalize H1 = H at hP hS ⊢
    obtain ⟨hP, hD⟩ := zz_ty (D := (dC, dI)) (cl := vwCl) (A := A) (H := H) [(a 36, .inl (cI, 8, .inl e1)), (a 37, .inl (cI, 8, .inl g2)), (a 40, .inl (cI, 8, .inl e5)), (a 41, .inl (cI, 8, .inl e6)), (a 42, .inl (cI, 8, .inl e7)), (a 34, .inr (2, [.ref (a 35), .ref (a 36), .ref (a 37), .ref (a 38), .ref (a 39), .ref (a 40), .ref (a 41), .ref (a 42), .int (nI 0)])), (a 35, .inl (cI, 8, .inl e0)), (a 38, .inl (cI, 256, .inl g3c)), (a 39, .inl (cI, 256, .inl g4c))] hP hD rfl
    refine lv_iconst (v := 0) hx hb dX2_tell_52 (by decide) ?_
    refine lv_istore_n (lv' := [(2, .int 0), (0, .ref (a 34)), (1, .int (nI r1))]) hx hb dX2_tell_53 rfl hl (by decide) rfl (fun ls hl => ?_)
    refine zz_loopS (fun (u : (Nat) × (Nat) × (Nat) × (Nat → Int32) × (Nat → Int32) × (Nat → Int32) × (Nat → Int32)) => match u with | (i, r2, me, d2, d5, d6, d7) => [(a 34, .inr (2, [.ref (a 35), .ref (a 36), .ref (a 37), .ref (a 38), .ref (a 39), .ref (a 40), .ref (a 41), .ref (a 42), .int (nI me)])), (a 35, .inl (cI, 8, .inl e0)), (a 36, .inl (cI, 8, .inl e1)), (a 37, .inl (cI, 8, .inl d2)), (a 38, .inl (cI, 256, .inl g3c)), (a 39, .inl (cI, 256, .inl g4c)), (a 40, .inl (cI, 8, .inl d5)), (a 41, .inl (cI, 8, .inl d6)), (a 42, .inl (cI, 8, .inl d7))]) (fun (u : (Nat) × (Nat) × (Nat) × (Nat → Int32) × (Nat → Int32) × (Nat → Int32) × (Nat → Int32)) => match u with | (i, r2, me, d2, d5, d6, d7) => [(0, .ref (a 34)), (1, .int (nI r2)), (2, .int (nI i))]) (fun (u : (Nat) × (Nat) × (Nat) × (Nat → Int32) × (Nat → Int32) × (Nat → Int32) × (Nat → Int32)) => match u with | (i, r2, me, d2, d5, d6, d7) => i ≤ 8 ∧ r2 < 256 ∧ me ≤ 8) (fun (u : (Nat) × (Nat) × (Nat) × (Nat → Int32) × (Nat → Int32) × (Nat → Int32) × (Nat → Int32)) => match u with | (i, r2, me, d2, d5, d6, d7) => 8 - i) (fun u hI H locs ls hP hD hS hl ih_54 => ?_) (0, r1, 0, g2, e5, e6, e7) (show 0 ≤ 8 ∧ r1 < 256 ∧ 0 ≤ 8 from (by refine ⟨?_, ?_, ?_⟩ <;> omega)) _ _ _ (hP.sub [5, 6, 0, 1, 7, 8, 2, 3, 4] rfl) (hD.sub [5, 6, 0, 1, 7, 8, 2, 3, 4] (by decide) rfl) hS (lv_sub hl [1, 2, 0] rfl)
    obtain ⟨i, r2, me, d2, d5, d6, d7⟩ := u
    obtain ⟨hP, hD⟩ := zz_ty (D := (dC, dI)) (cl := vwCl) (A := A) (H := H) [(a 34, .inr (2, [.ref (a 35), .ref (a 36), .ref (a 37), .ref (a 38), .ref (a 39), .ref (a 40), .ref (a 41), .ref (a 42), .int (nI me)])), (a 35, .inl (cI, 8, .inl e0)), (a 36, .inl (cI, 8, .inl e1)), (a 37, .inl (cI, 8, .inl d2)), (a 38, .inl (cI, 256, .inl g3c)), (a 39, .inl (cI, 256, .inl g4c)), (a 40, .inl (cI, 8, .inl d5)), (a 41, .inl (cI, 8, .inl d6)), (a 42, .inl (cI, 8, .inl d7))] hP hD rfl
    have hl : lv_has ls 4 [(0, .ref (a 34)), (1, .int (nI r2)), (2, .int (nI i))] := hl
    have hI : i ≤ 8 ∧ r2 < 256 ∧ me ≤ 8 := hI
    obtain ⟨ii, ir2, im⟩ := hI
    refine lv_iload_n hx hb dX2_tell_54 rfl (lv_at hl 2 rfl) ?_
    refine lv_bipush (v := 8) hx hb dX2_tell_55 (by decide) ?_
    refine lv_icmp_ge (tgt := 87) hx hb dX2_tell_57 (by decide) (fun c_3 => ?_) (fun c_3 => ?_)
    · have zc_3 := c_3
      rw [Int32.le_iff_toInt_le] at zc_3
      try rw [zz_toInt i (by omega)] at zc_3
      try rw [show (8 : Int32).toInt = 8 from by decide] at zc_3
      obtain ⟨hP9, hD9⟩ := zz_sub2 (ws' := [(a 34, .inr (2, [.ref (a 35), .ref (a 36), .ref (a 37), .ref (a 38), .ref (a 39), .ref (a 40), .ref (a 41), .ref (a 42), .int (nI me)])), (a 35, .inl (cI, 8, .inl e0)), (a 36, .inl (cI, 8, .inl e1)), (a 37, .inl (cI, 8, .inl d2)), (a 38, .inl (cI, 256, .inl g3c)), (a 39, .inl (cI, 256, .inl g4c)), (a 40, .inl (cI, 8, .inl d5)), (a 41, .inl (cI, 8, .inl d6)), (a 42, .inl (cI, 8, .inl d7))]) hP hD [0, 1, 2, 3, 4, 5, 6, 7, 8] (by decide) rfl
      have hK9 := hK.sub (tys' := [(cI, .int)]) [0] rfl
      exact W.vret hx hb hr (fun t ht hW => ⟨⟨(me, e0, d2, g3c, g4c, d5, d6, d7), rfl, (by show _ ≤ _; omega), by rw [ht]; exact hP9, va_K.moved hW.alike hK9, hD9⟩, hS.F ht⟩) hS.2.2 dX2_tell_87
    · have zc_3 := c_3
      rw [Int32.le_iff_toInt_le] at zc_3
      try rw [zz_toInt i (by omega)] at zc_3
      try rw [show (8 : Int32).toInt = 8 from by decide] at zc_3
      refine lv_iload_n hx hb dX2_tell_60 rfl (lv_at hl 1 rfl) ?_
      refine lv_if_eq (tgt := 87) hx hb dX2_tell_61 (by decide) (fun c_4 => ?_) (fun c_4 => ?_)
      · have zc_4 := c_4
        rw [← Int32.toInt_inj] at zc_4
        try rw [zz_toInt r2 (by omega)] at zc_4
        try rw [show (0 : Int32).toInt = 0 from by decide] at zc_4
        obtain ⟨hP9, hD9⟩ := zz_sub2 (ws' := [(a 34, .inr (2, [.ref (a 35), .ref (a 36), .ref (a 37), .ref (a 38), .ref (a 39), .ref (a 40), .ref (a 41), .ref (a 42), .int (nI me)])), (a 35, .inl (cI, 8, .inl e0)), (a 36, .inl (cI, 8, .inl e1)), (a 37, .inl (cI, 8, .inl d2)), (a 38, .inl (cI, 256, .inl g3c)), (a 39, .inl (cI, 256, .inl g4c)), (a 40, .inl (cI, 8, .inl d5)), (a 41, .inl (cI, 8, .inl d6)), (a 42, .inl (cI, 8, .inl d7))]) hP hD [0, 1, 2, 3, 4, 5, 6, 7, 8] (by decide) rfl
        have hK9 := hK.sub (tys' := [(cI, .int)]) [0] rfl
        exact W.vret hx hb hr (fun t ht hW => ⟨⟨(me, e0, d2, g3c, g4c, d5, d6, d7), rfl, (by show _ ≤ _; omega), by rw [ht]; exact hP9, va_K.moved hW.alike hK9, hD9⟩, hS.F ht⟩) hS.2.2 dX2_tell_87
      · have zc_4 := c_4
        rw [← Int32.toInt_inj] at zc_4
        try rw [zz_toInt r2 (by omega)] at zc_4
        try rw [show (0 : Int32).toInt = 0 from by decide] at zc_4
        refine lv_aload_n hx hb dX2_tell_64 rfl (lv_at hl 0 rfl) ?_
        refine lv_iload_n hx hb dX2_tell_65 rfl (lv_at hl 1 rfl) ?_
        obtain ⟨hPc, hDc⟩ := zz_sub2 (ws' := [(a 34, .inr (2, [.ref (a 35), .ref (a 36), .ref (a 37), .ref (a 38), .ref (a 39), .ref (a 40), .ref (a 41), .ref (a 42), .int (nI me)])), (a 38, .inl (cI, 256, .inl g3c)), (a 39, .inl (cI, 256, .inl g4c))]) hP hD [0, 4, 5] (by decide) rfl
        have hKc := hK.sub (tys' := [(cI, .int)]) [0] rfl
        have hFc := zz_free0 hS hA
        refine va_calli (va_runV (As := [.int (nI r2)]) (rest := []) ⟨hx, hb, hml, hown, hw⟩ (k_leastGroup l dC dI a cI me g3c g4c r2 H.size (by omega)) ⟨callB_of 1 hw (zz_good tw_121) rfl rfl rfl (hw _ tw_107) (hw _ tw_122) (by decide +kernel) ⟨Nat.le_of_ble_eq_true rfl, Nat.le_of_ble_eq_true rfl⟩, (hw _ tw_123), (hw _ tw_124)⟩ ⟨zz_blind, va_recv hKc hPc (ci := 2) (q0 := 0) rfl rfl, zz_pre hPc hKc hDc hN⟩ rfl rfl hl.1 rfl (lv_room (Nat.le_of_ble_eq_true rfl)) dX2_tell_66 ⟨Nat.le_of_ble_eq_true rfl, Nat.le_of_ble_eq_true rfl⟩) hS (fun q _ h => hFc q h) hFc (fun r_5 u_5 t H1 locs ht hvm e_5 hB hz1 hk1 hS => ?_)
        try dsimp only at e_5
        have hP := zz_keep hP hk1
        clear hk1 hB ht hvm
        generalize H1 = H at hP hS ⊢
        rcases e_5 with ⟨qg_5, hg_5, er_5⟩
        · refine zz_seti (nI qg_5) er_5 ?_
          refine lv_istore_n (lv' := [(3, .int (nI qg_5)), (0, .ref (a 34)), (1, .int (nI r2)), (2, .int (nI i))]) hx hb dX2_tell_69 rfl hl (by decide) rfl (fun ls hl => ?_)
          refine lv_aload_n hx hb dX2_tell_70 rfl (lv_at hl 1 rfl) ?_
          refine lv_iload_n hx hb dX2_tell_71 rfl (lv_at hl 0 rfl) ?_
          obtain ⟨hPc, hDc⟩ := zz_sub2 (ws' := [(a 34, .inr (2, [.ref (a 35), .ref (a 36), .ref (a 37), .ref (a 38), .ref (a 39), .ref (a 40), .ref (a 41), .ref (a 42), .int (nI me)])), (a 37, .inl (cI, 8, .inl d2)), (a 40, .inl (cI, 8, .inl d5)), (a 41, .inl (cI, 8, .inl d6)), (a 42, .inl (cI, 8, .inl d7))]) hP hD [0, 3, 6, 7, 8] (by decide) rfl
          have hKc := hK.sub (tys' := [(cI, .int)]) [0] rfl
          have hFc := zz_free1 hDc hS hA
          refine va_callv (va_runV (As := [.int (nI qg_5)]) (rest := []) ⟨hx, hb, hml, hown, hw⟩ (k_payWithin l dC dI a cI me d2 d5 d6 d7 (nI qg_5) H.size (by omega)) ⟨callB_of 1 hw (zz_good tw_125) rfl rfl rfl (hw _ tw_107) (hw _ tw_126) (by decide +kernel) ⟨Nat.le_of_ble_eq_true rfl, Nat.le_of_ble_eq_true rfl⟩, (hw _ tw_127), (hw _ tw_128)⟩ ⟨zz_blind, va_recv hKc hPc (ci := 2) (q0 := 0) rfl rfl, zz_pre hPc hKc hDc hN⟩ rfl rfl hl.1 rfl (lv_room (Nat.le_of_ble_eq_true rfl)) dX2_tell_72 ⟨Nat.le_of_ble_eq_true rfl, Nat.le_of_ble_eq_true rfl⟩) hS (fun q _ h => hFc q h) hFc (fun u_6 t H1 locs ht hvm e_6 hB hz1 hk1 hS => ?_)
          try dsimp only at e_6
          obtain ⟨v_6_0, v_6_1, v_6_2, v_6_3, v_6_4⟩ := u_6
          obtain ⟨hP1, hK1, hD1⟩ := hB
          rw [ht] at hP1
          have hK1 := va_K.moved hvm.symm hK1
          try dsimp only at e_6
          obtain ⟨hP, hD⟩ := va_join (wr := [(a 35, .inl (cI, 8, .inl e0)), (a 36, .inl (cI, 8, .inl e1)), (a 38, .inl (cI, 256, .inl g3c)), (a 39, .inl (cI, 256, .inl g4c))]) (w1 := [(a 34, .inr (2, [.ref (a 35), .ref (a 36), .ref (a 37), .ref (a 38), .ref (a 39), .ref (a 40), .ref (a 41), .ref (a 42), .int (nI v_6_0)])), (a 37, .inl (cI, 8, .inl v_6_1)), (a 40, .inl (cI, 8, .inl v_6_2)), (a 41, .inl (cI, 8, .inl v_6_3)), (a 42, .inl (cI, 8, .inl v_6_4))]) hP hD [0, 3, 6, 7, 8] [1, 2, 4, 5] rfl rfl (by decide) (by decide) hk1 hFc hP1 hD1
          clear hk1 ht hvm
          generalize H1 = H at hP hS ⊢
          obtain ⟨hP, hD⟩ := zz_ty (D := (dC, dI)) (cl := vwCl) (A := A) (H := H) [(a 35, .inl (cI, 8, .inl e0)), (a 36, .inl (cI, 8, .inl e1)), (a 38, .inl (cI, 256, .inl g3c)), (a 39, .inl (cI, 256, .inl g4c)), (a 34, .inr (2, [.ref (a 35), .ref (a 36), .ref (a 37), .ref (a 38), .ref (a 39), .ref (a 40), .ref (a 41), .ref (a 42), .int (nI v_6_0)])), (a 37, .inl (cI, 8, .inl v_6_1)), (a 40, .inl (cI, 8, .inl v_6_2)), (a 41, .inl (cI, 8, .inl v_6_3)), (a 42, .inl (cI, 8, .inl v_6_4))] hP hD rfl
          refine lv_iload_n hx hb dX2_tell_75 rfl (lv_at hl 2 rfl) ?_
          refine lv_iload_n hx hb dX2_tell_76 rfl (lv_at hl 0 rfl) ?_
          refine lv_iconst (v := (-1)) hx hb dX2_tell_77 (by decide) ?_
          refine lv_ixor hx hb dX2_tell_78 ?_
          refine lv_iand hx hb dX2_tell_79 ?_
          obtain ⟨z_8, hz_8, ez_8⟩ := zz_andE256 (a := r2) (by omega) (((nI qg_5) ^^^ (-1)))
          refine zz_seti (nI z_8) ez_8 ?_
          refine lv_istore_n (lv' := [(1, .int (nI z_8)), (3, .int (nI qg_5)), (0, .ref (a 34)), (2, .int (nI i))]) hx hb dX2_tell_80 rfl hl (by decide) rfl (fun ls hl => ?_)
          refine lv_iinc (v := (nI (i + 1))) (lv' := [(2, .int (nI (i + 1))), (1, .int (nI z_8)), (3, .int (nI qg_5)), (0, .ref (a 34))]) hx hb dX2_tell_81 hl (k := 3) rfl (nI_1 _) (by decide) rfl (fun ls hl => ?_)
          refine lv_goto (tgt := 54) hx hb dX2_tell_84 (by decide) ?_
          exact ih_54 ((i + 1), z_8, v_6_0, v_6_1, v_6_2, v_6_3, v_6_4) (show (i + 1) ≤ 8 ∧ z_8 < 256 ∧ v_6_0 ≤ 8 from (by refine ⟨?_, ?_, ?_⟩ <;> omega)) (show 8 - (i + 1) < 8 - i from by omega) _ _ _ (hP.sub [4, 0, 1, 5, 2, 3, 6, 7, 8] rfl) (hD.sub [4, 0, 1, 5, 2, 3, 6, 7, 8] (by decide) rfl) hS (lv_sub hl [3, 1, 0] rfl)
  · have zc_1 := c_1
    rw [Int32.le_iff_toInt_le] at zc_1
    try rw [zz_toInt j (by omega)] at zc_1
    try rw [show (8 : Int32).toInt = 8 from by decide] at zc_1
    refine lv_aload_n hx hb dX2_tell_15 rfl (lv_at hl 0 rfl) ?_
    refine va_get (D := (dC, dI)) (ci := 2) (v := .ref (a 37)) (C := RX2) (T := TX2) (N := 9) hx hb hw zz_inX2 hown hK hP 0 rfl rfl 2 (by decide) (hw _ tw_102) (fun _ h9 => h9) rfl dX2_tell_16 ?_
    refine lv_iload_n hx hb dX2_tell_19 rfl (lv_at hl 2 rfl) ?_
    refine lv_aload_n hx hb dX2_tell_20 rfl (lv_at hl 0 rfl) ?_
    refine va_get (D := (dC, dI)) (ci := 2) (v := .ref (a 35)) (C := RX2) (T := TX2) (N := 9) hx hb hw zz_inX2 hown hK hP 0 rfl rfl 0 (by decide) (hw _ tw_115) (fun _ h9 => h9) rfl dX2_tell_21 ?_
    refine lv_iload_n hx hb dX2_tell_24 rfl (lv_at hl 2 rfl) ?_
    refine va_iald hx hb hK hP 1 0 rfl rfl (vp_in_iff.mpr (by rw [zz_toInt j (by omega)]; constructor <;> omega)) dX2_tell_25 ?_
    refine va_iast hx hb hK hP hD hS 3 0 rfl rfl (vp_in_iff.mpr (by rw [zz_toInt j (by omega)]; constructor <;> omega)) dX2_tell_26 (fun H locs hP hD hS => ?_)
    obtain ⟨hP, hD⟩ := zz_ty (D := (dC, dI)) (cl := vwCl) (A := A) (H := H) [(a 34, .inr (2, [.ref (a 35), .ref (a 36), .ref (a 37), .ref (a 38), .ref (a 39), .ref (a 40), .ref (a 41), .ref (a 42), .int (nI 0)])), (a 35, .inl (cI, 8, .inl e0)), (a 36, .inl (cI, 8, .inl e1)), (a 37, .inl (cI, 8, .inl (upd g2 (Int32.toNatClampNeg (nI j)) (e0 (Int32.toNatClampNeg (nI j)))))), (a 38, .inl (cI, 256, .inl e3)), (a 39, .inl (cI, 256, .inl e4)), (a 40, .inl (cI, 8, .inl e5)), (a 41, .inl (cI, 8, .inl e6)), (a 42, .inl (cI, 8, .inl e7))] hP hD rfl
    refine lv_aload_n hx hb dX2_tell_27 rfl (lv_at hl 0 rfl) ?_
    refine va_get (D := (dC, dI)) (ci := 2) (v := .ref (a 35)) (C := RX2) (T := TX2) (N := 9) hx hb hw zz_inX2 hown hK hP 0 rfl rfl 0 (by decide) (hw _ tw_115) (fun _ h9 => h9) rfl dX2_tell_28 ?_
    refine lv_iload_n hx hb dX2_tell_31 rfl (lv_at hl 2 rfl) ?_
    refine va_iald hx hb hK hP 1 0 rfl rfl (vp_in_iff.mpr (by rw [zz_toInt j (by omega)]; constructor <;> omega)) dX2_tell_32 ?_
    refine lv_if_eq (tgt := 42) hx hb dX2_tell_33 (by decide) (fun c_9 => ?_) (fun c_9 => ?_)
    · have zc_9 := c_9
      rw [← Int32.toInt_inj] at zc_9
      try rw [show (0 : Int32).toInt = 0 from by decide] at zc_9
      refine lv_iinc (v := (nI (j + 1))) (lv' := [(2, .int (nI (j + 1))), (0, .ref (a 34)), (1, .int (nI r1))]) hx hb dX2_tell_42 hl (k := 2) rfl (nI_1 _) (by decide) rfl (fun ls hl => ?_)
      refine lv_goto (tgt := 9) hx hb dX2_tell_45 (by decide) ?_
      exact ih_9 ((j + 1), r1, (upd g2 (Int32.toNatClampNeg (nI j)) (e0 (Int32.toNatClampNeg (nI j))))) (show (j + 1) ≤ 8 ∧ r1 < 256 from (by refine ⟨?_, ?_⟩ <;> omega)) (show 8 - (j + 1) < 8 - j from by omega) _ _ _ (hP.sub [0, 1, 2, 3, 4, 5, 6, 7, 8] rfl) (hD.sub [0, 1, 2, 3, 4, 5, 6, 7, 8] (by decide) rfl) hS (lv_sub hl [1, 2, 0] rfl)
    · have zc_9 := c_9
      rw [← Int32.toInt_inj] at zc_9
      try rw [show (0 : Int32).toInt = 0 from by decide] at zc_9
      refine lv_iload_n hx hb dX2_tell_36 rfl (lv_at hl 1 rfl) ?_
      refine lv_iconst (v := 1) hx hb dX2_tell_37 (by decide) ?_
      refine lv_iload_n hx hb dX2_tell_38 rfl (lv_at hl 2 rfl) ?_
      refine lv_ishl hx hb dX2_tell_39 ?_
      obtain ⟨z_10, hz_10, ez_10⟩ := zz_shlE256 (j := j) (by omega)
      refine zz_seti (nI z_10) ez_10 ?_
      refine lv_ior hx hb dX2_tell_40 ?_
      obtain ⟨z_11, hz_11, ez_11⟩ := zz_orE256 (a := r1) (b := z_10) (by omega) (by omega)
      refine zz_seti (nI z_11) ez_11 ?_
      refine lv_istore_n (lv' := [(1, .int (nI z_11)), (0, .ref (a 34)), (2, .int (nI j))]) hx hb dX2_tell_41 rfl hl (by decide) rfl (fun ls hl => ?_)
      refine lv_iinc (v := (nI (j + 1))) (lv' := [(2, .int (nI (j + 1))), (1, .int (nI z_11)), (0, .ref (a 34))]) hx hb dX2_tell_42 hl (k := 2) rfl (nI_1 _) (by decide) rfl (fun ls hl => ?_)
      refine lv_goto (tgt := 9) hx hb dX2_tell_45 (by decide) ?_
      exact ih_9 ((j + 1), z_11, (upd g2 (Int32.toNatClampNeg (nI j)) (e0 (Int32.toNatClampNeg (nI j))))) (show (j + 1) ≤ 8 ∧ z_11 < 256 from (by refine ⟨?_, ?_⟩ <;> omega)) (show 8 - (j + 1) < 8 - j from by omega) _ _ _ (hP.sub [0, 1, 2, 3, 4, 5, 6, 7, 8] rfl) (hD.sub [0, 1, 2, 3, 4, 5, 6, 7, 8] (by decide) rfl) hS (lv_sub hl [2, 1, 0] rfl)
