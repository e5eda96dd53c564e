theorem tw_451 : Cond.constantLong RX8 299 99 ∈ zz_all := zz_m5 43 rfl rfl
theorem tw_452 : Cond.fieldLink RX8 301 "HandsReturnedModel" "planned" "I" ∈ zz_all := zz_m3 212 rfl rfl
theorem tw_453 : Cond.code yX8_lost cX8_lost 9 (some .int) ∈ zz_all := zz_m5 47 rfl rfl
theorem tw_454 : Cond.methodLink RX8 304 yX8_lost ∈ zz_all := zz_m5 44 rfl rfl
theorem tw_455 : Cond.instanceMethod yX8_lost ∈ zz_all := zz_m5 46 rfl rfl
theorem tw_456 : Cond.selects RX8 yX8_lost yX8_lost ∈ zz_all := zz_ms 59 rfl rfl
theorem tw_457 : Cond.code yX8_nextOrder cX8_nextOrder 5 (some .boolean) ∈ zz_all := zz_m5 51 rfl rfl
theorem tw_458 : Cond.methodLink RX8 307 yX8_nextOrder ∈ zz_all := zz_m5 48 rfl rfl
theorem tw_459 : Cond.instanceMethod yX8_nextOrder ∈ zz_all := zz_m5 50 rfl rfl
theorem tw_460 : Cond.selects RX8 yX8_nextOrder yX8_nextOrder ∈ zz_all := zz_ms 60 rfl rfl
theorem tw_461 : Cond.fieldLink RX8 112 "HandsReturnedModel" "plan" "[I" ∈ zz_all := zz_m3 213 rfl rfl
theorem zy_b42mt_0 : decode cX8_plan 0 = .ok (.iconst 0, 1) ∧ decode cX8_plan 1 = .ok (.istore_n 2, 1) ∧ decode cX8_plan 2 = .ok (.iconst 0, 1) ∧ decode cX8_plan 3 = .ok (.istore_n 3, 1) ∧ decode cX8_plan 4 = .ok (.iload_n 3, 1) ∧ decode cX8_plan 5 = .ok (.aload_n 0, 1) ∧ decode cX8_plan 6 = .ok (.getfield 122, 3) ∧ decode cX8_plan 9 = .ok (.if_icmp .ge 26, 3) := by decide +kernel
theorem dX8_plan_0 : decode cX8_plan 0 = .ok (.iconst 0, 1) := zy_b42mt_0.1
theorem dX8_plan_1 : decode cX8_plan 1 = .ok (.istore_n 2, 1) := zy_b42mt_0.2.1
theorem dX8_plan_2 : decode cX8_plan 2 = .ok (.iconst 0, 1) := zy_b42mt_0.2.2.1
theorem dX8_plan_3 : decode cX8_plan 3 = .ok (.istore_n 3, 1) := zy_b42mt_0.2.2.2.1
theorem dX8_plan_4 : decode cX8_plan 4 = .ok (.iload_n 3, 1) := zy_b42mt_0.2.2.2.2.1
theorem dX8_plan_5 : decode cX8_plan 5 = .ok (.aload_n 0, 1) := zy_b42mt_0.2.2.2.2.2.1
theorem dX8_plan_6 : decode cX8_plan 6 = .ok (.getfield 122, 3) := zy_b42mt_0.2.2.2.2.2.2.1
theorem dX8_plan_9 : decode cX8_plan 9 = .ok (.if_icmp .ge 26, 3) := zy_b42mt_0.2.2.2.2.2.2.2
theorem zy_b42mt_1 : decode cX8_plan 12 = .ok (.iload_n 2, 1) ∧ decode cX8_plan 13 = .ok (.aload_n 0, 1) ∧ decode cX8_plan 14 = .ok (.getfield 73, 3) ∧ decode cX8_plan 17 = .ok (.iload_n 3, 1) ∧ decode cX8_plan 18 = .ok (.iaload, 1) ∧ decode cX8_plan 19 = .ok (.ifCond .ge 7, 3) ∧ decode cX8_plan 22 = .ok (.iconst 1, 1) ∧ decode cX8_plan 23 = .ok (.goto 4, 3) := by decide +kernel
theorem dX8_plan_12 : decode cX8_plan 12 = .ok (.iload_n 2, 1) := zy_b42mt_1.1
theorem dX8_plan_13 : decode cX8_plan 13 = .ok (.aload_n 0, 1) := zy_b42mt_1.2.1
theorem dX8_plan_14 : decode cX8_plan 14 = .ok (.getfield 73, 3) := zy_b42mt_1.2.2.1
theorem dX8_plan_17 : decode cX8_plan 17 = .ok (.iload_n 3, 1) := zy_b42mt_1.2.2.2.1
theorem dX8_plan_18 : decode cX8_plan 18 = .ok (.iaload, 1) := zy_b42mt_1.2.2.2.2.1
theorem dX8_plan_19 : decode cX8_plan 19 = .ok (.ifCond .ge 7, 3) := zy_b42mt_1.2.2.2.2.2.1
theorem dX8_plan_22 : decode cX8_plan 22 = .ok (.iconst 1, 1) := zy_b42mt_1.2.2.2.2.2.2.1
theorem dX8_plan_23 : decode cX8_plan 23 = .ok (.goto 4, 3) := zy_b42mt_1.2.2.2.2.2.2.2
theorem zy_b42mt_2 : decode cX8_plan 26 = .ok (.iconst 0, 1) ∧ decode cX8_plan 27 = .ok (.iadd, 1) ∧ decode cX8_plan 28 = .ok (.istore_n 2, 1) ∧ decode cX8_plan 29 = .ok (.iinc 3 1, 3) ∧ decode cX8_plan 32 = .ok (.goto (-28), 3) ∧ decode cX8_plan 35 = .ok (.iload_n 1, 1) ∧ decode cX8_plan 36 = .ok (.i2l, 1) ∧ decode cX8_plan 37 = .ok (.lconst 1, 1) := by decide +kernel
theorem dX8_plan_26 : decode cX8_plan 26 = .ok (.iconst 0, 1) := zy_b42mt_2.1
theorem dX8_plan_27 : decode cX8_plan 27 = .ok (.iadd, 1) := zy_b42mt_2.2.1
theorem dX8_plan_28 : decode cX8_plan 28 = .ok (.istore_n 2, 1) := zy_b42mt_2.2.2.1
theorem dX8_plan_29 : decode cX8_plan 29 = .ok (.iinc 3 1, 3) := zy_b42mt_2.2.2.2.1
theorem dX8_plan_32 : decode cX8_plan 32 = .ok (.goto (-28), 3) := zy_b42mt_2.2.2.2.2.1
theorem dX8_plan_35 : decode cX8_plan 35 = .ok (.iload_n 1, 1) := zy_b42mt_2.2.2.2.2.2.1
theorem dX8_plan_36 : decode cX8_plan 36 = .ok (.i2l, 1) := zy_b42mt_2.2.2.2.2.2.2.1
theorem dX8_plan_37 : decode cX8_plan 37 = .ok (.lconst 1, 1) := zy_b42mt_2.2.2.2.2.2.2.2
theorem zy_b42mt_3 : decode cX8_plan 38 = .ok (.ldc2_w 299, 3) ∧ decode cX8_plan 41 = .ok (.invokestatic 118, 3) ∧ decode cX8_plan 44 = .ok (.ifCond .eq 9, 3) ∧ decode cX8_plan 47 = .ok (.iload_n 2, 1) ∧ decode cX8_plan 48 = .ok (.bipush 7, 2) ∧ decode cX8_plan 50 = .ok (.if_icmp .le 5, 3) ∧ decode cX8_plan 53 = .ok (.iconst (-1), 1) ∧ decode cX8_plan 54 = .ok (.ireturn, 1) := by decide +kernel
theorem dX8_plan_38 : decode cX8_plan 38 = .ok (.ldc2_w 299, 3) := zy_b42mt_3.1
theorem dX8_plan_41 : decode cX8_plan 41 = .ok (.invokestatic 118, 3) := zy_b42mt_3.2.1
theorem dX8_plan_44 : decode cX8_plan 44 = .ok (.ifCond .eq 9, 3) := zy_b42mt_3.2.2.1
theorem dX8_plan_47 : decode cX8_plan 47 = .ok (.iload_n 2, 1) := zy_b42mt_3.2.2.2.1
theorem dX8_plan_48 : decode cX8_plan 48 = .ok (.bipush 7, 2) := zy_b42mt_3.2.2.2.2.1
theorem dX8_plan_50 : decode cX8_plan 50 = .ok (.if_icmp .le 5, 3) := zy_b42mt_3.2.2.2.2.2.1
theorem dX8_plan_53 : decode cX8_plan 53 = .ok (.iconst (-1), 1) := zy_b42mt_3.2.2.2.2.2.2.1
theorem dX8_plan_54 : decode cX8_plan 54 = .ok (.ireturn, 1) := zy_b42mt_3.2.2.2.2.2.2.2
theorem zy_b42mt_4 : decode cX8_plan 55 = .ok (.aload_n 0, 1) ∧ decode cX8_plan 56 = .ok (.iconst 0, 1) ∧ decode cX8_plan 57 = .ok (.putfield 292, 3) ∧ decode cX8_plan 60 = .ok (.iconst 0, 1) ∧ decode cX8_plan 61 = .ok (.istore_n 3, 1) ∧ decode cX8_plan 62 = .ok (.iload_n 3, 1) ∧ decode cX8_plan 63 = .ok (.aload_n 0, 1) ∧ decode cX8_plan 64 = .ok (.getfield 122, 3) := by decide +kernel
theorem dX8_plan_55 : decode cX8_plan 55 = .ok (.aload_n 0, 1) := zy_b42mt_4.1
theorem dX8_plan_56 : decode cX8_plan 56 = .ok (.iconst 0, 1) := zy_b42mt_4.2.1
theorem dX8_plan_57 : decode cX8_plan 57 = .ok (.putfield 292, 3) := zy_b42mt_4.2.2.1
theorem dX8_plan_60 : decode cX8_plan 60 = .ok (.iconst 0, 1) := zy_b42mt_4.2.2.2.1
theorem dX8_plan_61 : decode cX8_plan 61 = .ok (.istore_n 3, 1) := zy_b42mt_4.2.2.2.2.1
theorem dX8_plan_62 : decode cX8_plan 62 = .ok (.iload_n 3, 1) := zy_b42mt_4.2.2.2.2.2.1
theorem dX8_plan_63 : decode cX8_plan 63 = .ok (.aload_n 0, 1) := zy_b42mt_4.2.2.2.2.2.2.1
theorem dX8_plan_64 : decode cX8_plan 64 = .ok (.getfield 122, 3) := zy_b42mt_4.2.2.2.2.2.2.2
theorem zy_b42mt_5 : decode cX8_plan 67 = .ok (.if_icmp .ge 38, 3) ∧ decode cX8_plan 70 = .ok (.aload_n 0, 1) ∧ decode cX8_plan 71 = .ok (.getfield 73, 3) ∧ decode cX8_plan 74 = .ok (.iload_n 3, 1) ∧ decode cX8_plan 75 = .ok (.iaload, 1) ∧ decode cX8_plan 76 = .ok (.ifCond .ge 23, 3) ∧ decode cX8_plan 79 = .ok (.aload_n 0, 1) ∧ decode cX8_plan 80 = .ok (.getfield 106, 3) := by decide +kernel
theorem dX8_plan_67 : decode cX8_plan 67 = .ok (.if_icmp .ge 38, 3) := zy_b42mt_5.1
theorem dX8_plan_70 : decode cX8_plan 70 = .ok (.aload_n 0, 1) := zy_b42mt_5.2.1
theorem dX8_plan_71 : decode cX8_plan 71 = .ok (.getfield 73, 3) := zy_b42mt_5.2.2.1
theorem dX8_plan_74 : decode cX8_plan 74 = .ok (.iload_n 3, 1) := zy_b42mt_5.2.2.2.1
theorem dX8_plan_75 : decode cX8_plan 75 = .ok (.iaload, 1) := zy_b42mt_5.2.2.2.2.1
theorem dX8_plan_76 : decode cX8_plan 76 = .ok (.ifCond .ge 23, 3) := zy_b42mt_5.2.2.2.2.2.1
theorem dX8_plan_79 : decode cX8_plan 79 = .ok (.aload_n 0, 1) := zy_b42mt_5.2.2.2.2.2.2.1
theorem dX8_plan_80 : decode cX8_plan 80 = .ok (.getfield 106, 3) := zy_b42mt_5.2.2.2.2.2.2.2
theorem zy_b42mt_6 : decode cX8_plan 83 = .ok (.aload_n 0, 1) ∧ decode cX8_plan 84 = .ok (.getfield 292, 3) ∧ decode cX8_plan 87 = .ok (.iload_n 3, 1) ∧ decode cX8_plan 88 = .ok (.iastore, 1) ∧ decode cX8_plan 89 = .ok (.aload_n 0, 1) ∧ decode cX8_plan 90 = .ok (.dup, 1) ∧ decode cX8_plan 91 = .ok (.getfield 292, 3) ∧ decode cX8_plan 94 = .ok (.iconst 1, 1) := by decide +kernel
theorem dX8_plan_83 : decode cX8_plan 83 = .ok (.aload_n 0, 1) := zy_b42mt_6.1
theorem dX8_plan_84 : decode cX8_plan 84 = .ok (.getfield 292, 3) := zy_b42mt_6.2.1
theorem dX8_plan_87 : decode cX8_plan 87 = .ok (.iload_n 3, 1) := zy_b42mt_6.2.2.1
theorem dX8_plan_88 : decode cX8_plan 88 = .ok (.iastore, 1) := zy_b42mt_6.2.2.2.1
theorem dX8_plan_89 : decode cX8_plan 89 = .ok (.aload_n 0, 1) := zy_b42mt_6.2.2.2.2.1
theorem dX8_plan_90 : decode cX8_plan 90 = .ok (.dup, 1) := zy_b42mt_6.2.2.2.2.2.1
theorem dX8_plan_91 : decode cX8_plan 91 = .ok (.getfield 292, 3) := zy_b42mt_6.2.2.2.2.2.2.1
theorem dX8_plan_94 : decode cX8_plan 94 = .ok (.iconst 1, 1) := zy_b42mt_6.2.2.2.2.2.2.2
theorem zy_b42mt_7 : decode cX8_plan 95 = .ok (.iadd, 1) ∧ decode cX8_plan 96 = .ok (.putfield 292, 3) ∧ decode cX8_plan 99 = .ok (.iinc 3 1, 3) ∧ decode cX8_plan 102 = .ok (.goto (-40), 3) ∧ decode cX8_plan 105 = .ok (.aload_n 0, 1) ∧ decode cX8_plan 106 = .ok (.aload_n 0, 1) ∧ decode cX8_plan 107 = .ok (.getfield 292, 3) ∧ decode cX8_plan 110 = .ok (.putfield 301, 3) := by decide +kernel
theorem dX8_plan_95 : decode cX8_plan 95 = .ok (.iadd, 1) := zy_b42mt_7.1
theorem dX8_plan_96 : decode cX8_plan 96 = .ok (.putfield 292, 3) := zy_b42mt_7.2.1
theorem dX8_plan_99 : decode cX8_plan 99 = .ok (.iinc 3 1, 3) := zy_b42mt_7.2.2.1
theorem dX8_plan_102 : decode cX8_plan 102 = .ok (.goto (-40), 3) := zy_b42mt_7.2.2.2.1
theorem dX8_plan_105 : decode cX8_plan 105 = .ok (.aload_n 0, 1) := zy_b42mt_7.2.2.2.2.1
theorem dX8_plan_106 : decode cX8_plan 106 = .ok (.aload_n 0, 1) := zy_b42mt_7.2.2.2.2.2.1
theorem dX8_plan_107 : decode cX8_plan 107 = .ok (.getfield 292, 3) := zy_b42mt_7.2.2.2.2.2.2.1
theorem dX8_plan_110 : decode cX8_plan 110 = .ok (.putfield 301, 3) := zy_b42mt_7.2.2.2.2.2.2.2
theorem zy_b42mt_8 : decode cX8_plan 113 = .ok (.iconst (-1), 1) ∧ decode cX8_plan 114 = .ok (.istore_n 3, 1) ∧ decode cX8_plan 115 = .ok (.iconst 1, 1) ∧ decode cX8_plan 116 = .ok (.istore 4, 2) ∧ decode cX8_plan 118 = .ok (.iload 4, 2) ∧ decode cX8_plan 120 = .ok (.ifCond .eq 64, 3) ∧ decode cX8_plan 123 = .ok (.aload_n 0, 1) ∧ decode cX8_plan 124 = .ok (.iload_n 1, 1) := by decide +kernel
theorem dX8_plan_113 : decode cX8_plan 113 = .ok (.iconst (-1), 1) := zy_b42mt_8.1
theorem dX8_plan_114 : decode cX8_plan 114 = .ok (.istore_n 3, 1) := zy_b42mt_8.2.1
theorem dX8_plan_115 : decode cX8_plan 115 = .ok (.iconst 1, 1) := zy_b42mt_8.2.2.1
theorem dX8_plan_116 : decode cX8_plan 116 = .ok (.istore 4, 2) := zy_b42mt_8.2.2.2.1
theorem dX8_plan_118 : decode cX8_plan 118 = .ok (.iload 4, 2) := zy_b42mt_8.2.2.2.2.1
theorem dX8_plan_120 : decode cX8_plan 120 = .ok (.ifCond .eq 64, 3) := zy_b42mt_8.2.2.2.2.2.1
theorem dX8_plan_123 : decode cX8_plan 123 = .ok (.aload_n 0, 1) := zy_b42mt_8.2.2.2.2.2.2.1
theorem dX8_plan_124 : decode cX8_plan 124 = .ok (.iload_n 1, 1) := zy_b42mt_8.2.2.2.2.2.2.2
theorem zy_b42mt_9 : decode cX8_plan 125 = .ok (.invokevirtual 304, 3) ∧ decode cX8_plan 128 = .ok (.istore 5, 2) ∧ decode cX8_plan 130 = .ok (.iload_n 3, 1) ∧ decode cX8_plan 131 = .ok (.ifCond .lt 9, 3) ∧ decode cX8_plan 134 = .ok (.iload 5, 2) ∧ decode cX8_plan 136 = .ok (.iload_n 3, 1) ∧ decode cX8_plan 137 = .ok (.if_icmp .ge 38, 3) ∧ decode cX8_plan 140 = .ok (.iload 5, 2) := by decide +kernel
theorem dX8_plan_125 : decode cX8_plan 125 = .ok (.invokevirtual 304, 3) := zy_b42mt_9.1
theorem dX8_plan_128 : decode cX8_plan 128 = .ok (.istore 5, 2) := zy_b42mt_9.2.1
theorem dX8_plan_130 : decode cX8_plan 130 = .ok (.iload_n 3, 1) := zy_b42mt_9.2.2.1
theorem dX8_plan_131 : decode cX8_plan 131 = .ok (.ifCond .lt 9, 3) := zy_b42mt_9.2.2.2.1
theorem dX8_plan_134 : decode cX8_plan 134 = .ok (.iload 5, 2) := zy_b42mt_9.2.2.2.2.1
theorem dX8_plan_136 : decode cX8_plan 136 = .ok (.iload_n 3, 1) := zy_b42mt_9.2.2.2.2.2.1
theorem dX8_plan_137 : decode cX8_plan 137 = .ok (.if_icmp .ge 38, 3) := zy_b42mt_9.2.2.2.2.2.2.1
theorem dX8_plan_140 : decode cX8_plan 140 = .ok (.iload 5, 2) := zy_b42mt_9.2.2.2.2.2.2.2
theorem zy_b42mt_10 : decode cX8_plan 142 = .ok (.istore_n 3, 1) ∧ decode cX8_plan 143 = .ok (.iconst 0, 1) ∧ decode cX8_plan 144 = .ok (.istore 6, 2) ∧ decode cX8_plan 146 = .ok (.iload 6, 2) ∧ decode cX8_plan 148 = .ok (.aload_n 0, 1) ∧ decode cX8_plan 149 = .ok (.getfield 292, 3) ∧ decode cX8_plan 152 = .ok (.if_icmp .ge 23, 3) ∧ decode cX8_plan 155 = .ok (.aload_n 0, 1) := by decide +kernel
theorem dX8_plan_142 : decode cX8_plan 142 = .ok (.istore_n 3, 1) := zy_b42mt_10.1
theorem dX8_plan_143 : decode cX8_plan 143 = .ok (.iconst 0, 1) := zy_b42mt_10.2.1
theorem dX8_plan_144 : decode cX8_plan 144 = .ok (.istore 6, 2) := zy_b42mt_10.2.2.1
theorem dX8_plan_146 : decode cX8_plan 146 = .ok (.iload 6, 2) := zy_b42mt_10.2.2.2.1
theorem dX8_plan_148 : decode cX8_plan 148 = .ok (.aload_n 0, 1) := zy_b42mt_10.2.2.2.2.1
theorem dX8_plan_149 : decode cX8_plan 149 = .ok (.getfield 292, 3) := zy_b42mt_10.2.2.2.2.2.1
theorem dX8_plan_152 : decode cX8_plan 152 = .ok (.if_icmp .ge 23, 3) := zy_b42mt_10.2.2.2.2.2.2.1
theorem dX8_plan_155 : decode cX8_plan 155 = .ok (.aload_n 0, 1) := zy_b42mt_10.2.2.2.2.2.2.2
theorem zy_b42mt_11 : decode cX8_plan 156 = .ok (.getfield 112, 3) ∧ decode cX8_plan 159 = .ok (.iload 6, 2) ∧ decode cX8_plan 161 = .ok (.aload_n 0, 1) ∧ decode cX8_plan 162 = .ok (.getfield 106, 3) ∧ decode cX8_plan 165 = .ok (.iload 6, 2) ∧ decode cX8_plan 167 = .ok (.iaload, 1) ∧ decode cX8_plan 168 = .ok (.iastore, 1) ∧ decode cX8_plan 169 = .ok (.iinc 6 1, 3) := by decide +kernel
theorem dX8_plan_156 : decode cX8_plan 156 = .ok (.getfield 112, 3) := zy_b42mt_11.1
theorem dX8_plan_159 : decode cX8_plan 159 = .ok (.iload 6, 2) := zy_b42mt_11.2.1
theorem dX8_plan_161 : decode cX8_plan 161 = .ok (.aload_n 0, 1) := zy_b42mt_11.2.2.1
theorem dX8_plan_162 : decode cX8_plan 162 = .ok (.getfield 106, 3) := zy_b42mt_11.2.2.2.1
theorem dX8_plan_165 : decode cX8_plan 165 = .ok (.iload 6, 2) := zy_b42mt_11.2.2.2.2.1
theorem dX8_plan_167 : decode cX8_plan 167 = .ok (.iaload, 1) := zy_b42mt_11.2.2.2.2.2.1
theorem dX8_plan_168 : decode cX8_plan 168 = .ok (.iastore, 1) := zy_b42mt_11.2.2.2.2.2.2.1
theorem dX8_plan_169 : decode cX8_plan 169 = .ok (.iinc 6 1, 3) := zy_b42mt_11.2.2.2.2.2.2.2
theorem zy_b42mt_12 : decode cX8_plan 172 = .ok (.goto (-26), 3) ∧ decode cX8_plan 175 = .ok (.aload_n 0, 1) ∧ decode cX8_plan 176 = .ok (.invokevirtual 307, 3) ∧ decode cX8_plan 179 = .ok (.istore 4, 2) ∧ decode cX8_plan 181 = .ok (.goto (-63), 3) ∧ decode cX8_plan 184 = .ok (.iload_n 3, 1) ∧ decode cX8_plan 185 = .ok (.ireturn, 1) := by decide +kernel
theorem dX8_plan_172 : decode cX8_plan 172 = .ok (.goto (-26), 3) := zy_b42mt_12.1
theorem dX8_plan_175 : decode cX8_plan 175 = .ok (.aload_n 0, 1) := zy_b42mt_12.2.1
theorem dX8_plan_176 : decode cX8_plan 176 = .ok (.invokevirtual 307, 3) := zy_b42mt_12.2.2.1
theorem dX8_plan_179 : decode cX8_plan 179 = .ok (.istore 4, 2) := zy_b42mt_12.2.2.2.1
theorem dX8_plan_181 : decode cX8_plan 181 = .ok (.goto (-63), 3) := zy_b42mt_12.2.2.2.2.1
theorem dX8_plan_184 : decode cX8_plan 184 = .ok (.iload_n 3, 1) := zy_b42mt_12.2.2.2.2.2.1
theorem dX8_plan_185 : decode cX8_plan 185 = .ok (.ireturn, 1) := zy_b42mt_12.2.2.2.2.2.2
theorem zy_b42mt_13 : decode cX8_planned 0 = .ok (.iload_n 1, 1) ∧ decode cX8_planned 1 = .ok (.i2l, 1) ∧ decode cX8_planned 2 = .ok (.lconst 0, 1) ∧ decode cX8_planned 3 = .ok (.aload_n 0, 1) ∧ decode cX8_planned 4 = .ok (.getfield 301, 3) ∧ decode cX8_planned 7 = .ok (.iconst 1, 1) ∧ decode cX8_planned 8 = .ok (.isub, 1) ∧ decode cX8_planned 9 = .ok (.i2l, 1) := by decide +kernel
theorem dX8_planned_0 : decode cX8_planned 0 = .ok (.iload_n 1, 1) := zy_b42mt_13.1
theorem dX8_planned_1 : decode cX8_planned 1 = .ok (.i2l, 1) := zy_b42mt_13.2.1
theorem dX8_planned_2 : decode cX8_planned 2 = .ok (.lconst 0, 1) := zy_b42mt_13.2.2.1
theorem dX8_planned_3 : decode cX8_planned 3 = .ok (.aload_n 0, 1) := zy_b42mt_13.2.2.2.1
theorem dX8_planned_4 : decode cX8_planned 4 = .ok (.getfield 301, 3) := zy_b42mt_13.2.2.2.2.1
theorem dX8_planned_7 : decode cX8_planned 7 = .ok (.iconst 1, 1) := zy_b42mt_13.2.2.2.2.2.1
theorem dX8_planned_8 : decode cX8_planned 8 = .ok (.isub, 1) := zy_b42mt_13.2.2.2.2.2.2.1
theorem dX8_planned_9 : decode cX8_planned 9 = .ok (.i2l, 1) := zy_b42mt_13.2.2.2.2.2.2.2
theorem zy_b42mt_14 : decode cX8_planned 10 = .ok (.invokestatic 118, 3) ∧ decode cX8_planned 13 = .ok (.ifCond .eq 12, 3) ∧ decode cX8_planned 16 = .ok (.aload_n 0, 1) ∧ decode cX8_planned 17 = .ok (.getfield 112, 3) ∧ decode cX8_planned 20 = .ok (.iload_n 1, 1) ∧ decode cX8_planned 21 = .ok (.iaload, 1) ∧ decode cX8_planned 22 = .ok (.goto 4, 3) ∧ decode cX8_planned 25 = .ok (.iconst (-1), 1) := by decide +kernel
theorem dX8_planned_10 : decode cX8_planned 10 = .ok (.invokestatic 118, 3) := zy_b42mt_14.1
theorem dX8_planned_13 : decode cX8_planned 13 = .ok (.ifCond .eq 12, 3) := zy_b42mt_14.2.1
theorem dX8_planned_16 : decode cX8_planned 16 = .ok (.aload_n 0, 1) := zy_b42mt_14.2.2.1
theorem dX8_planned_17 : decode cX8_planned 17 = .ok (.getfield 112, 3) := zy_b42mt_14.2.2.2.1
theorem dX8_planned_20 : decode cX8_planned 20 = .ok (.iload_n 1, 1) := zy_b42mt_14.2.2.2.2.1
theorem dX8_planned_21 : decode cX8_planned 21 = .ok (.iaload, 1) := zy_b42mt_14.2.2.2.2.2.1
theorem dX8_planned_22 : decode cX8_planned 22 = .ok (.goto 4, 3) := zy_b42mt_14.2.2.2.2.2.2.1
theorem dX8_planned_25 : decode cX8_planned 25 = .ok (.iconst (-1), 1) := zy_b42mt_14.2.2.2.2.2.2.2
theorem dX8_planned_26 : decode cX8_planned 26 = .ok (.ireturn, 1) := by decide +kernel
theorem zz_pmu {a a2 : Nat} {mv r : Int32} (h : a < 35831808) (hm : ¬ mv = 0) (h2 : r = 0 ∨ (r = 1 ∧ a < a2)) : (if r = 0 then 0 else 35831809 - a2) < (if mv = 0 then 0 else 35831809 - a) := by
  rw [if_neg hm]
  rcases h2 with h2 | ⟨h2, h3⟩
  · rw [if_pos h2]; omega
  · rw [if_neg (by rw [h2]; decide)]; omega
theorem zz_pk1 {x : Int32} (h : 0 ≤ x.toInt) : (x - 1).toInt = x.toInt - 1 := by
  have h3 := Int32.toInt_lt x
  rw [Int32.toInt_sub, show (1 : Int32).toInt = 1 from by decide]
  rw [Int.bmod_eq_of_le] <;> omega
