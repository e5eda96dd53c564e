theorem tw_156 : Cond.fieldLink RX5 27 "HandsReturned$Plan" "leastLost" "[I" ∈ zz_all := zz_m1 232 rfl rfl
theorem tw_157 : Cond.fieldLink RX5 30 "HandsReturned$Plan" "bestNext" "[I" ∈ zz_all := zz_m1 233 rfl rfl
theorem tw_158 : Cond.code yX5_dayDone cX5_dayDone 7 (some .int) ∈ zz_all := zz_m3 149 rfl rfl
theorem tw_159 : Cond.methodLink RX5 73 yX5_dayDone ∈ zz_all := zz_m3 146 rfl rfl
theorem tw_160 : Cond.instanceMethod yX5_dayDone ∈ zz_all := zz_m3 148 rfl rfl
theorem tw_161 : Cond.selects RX5 yX5_dayDone yX5_dayDone ∈ zz_all := zz_ms 36 rfl rfl
theorem tw_162 : Cond.fieldLink RX5 70 "HandsReturned$Plan" "chosenCount" "I" ∈ zz_all := zz_m1 236 rfl rfl
theorem tw_163 : Cond.fieldLink RX5 33 "HandsReturned$Plan" "chosen" "[I" ∈ zz_all := zz_m1 234 rfl rfl
theorem tw_164 : Cond.code yX5_chooseNext cX5_chooseNext 9 none ∈ zz_all := zz_m3 145 rfl rfl
theorem tw_165 : Cond.methodLink RX5 66 yX5_chooseNext ∈ zz_all := zz_m3 142 rfl rfl
theorem tw_166 : Cond.instanceMethod yX5_chooseNext ∈ zz_all := zz_m3 144 rfl rfl
theorem tw_167 : Cond.selects RX5 yX5_chooseNext yX5_chooseNext ∈ zz_all := zz_ms 35 rfl rfl
theorem zy_b13plan2_0 : decode cX5_dayDone 0 = .ok (.aload_n 0, 1) ∧ decode cX5_dayDone 1 = .ok (.getfield 40, 3) ∧ decode cX5_dayDone 4 = .ok (.istore_n 3, 1) ∧ decode cX5_dayDone 5 = .ok (.iconst 0, 1) ∧ decode cX5_dayDone 6 = .ok (.istore 4, 2) ∧ decode cX5_dayDone 8 = .ok (.iconst 0, 1) ∧ decode cX5_dayDone 9 = .ok (.istore 5, 2) ∧ decode cX5_dayDone 11 = .ok (.iload 5, 2) := by decide +kernel
theorem dX5_dayDone_0 : decode cX5_dayDone 0 = .ok (.aload_n 0, 1) := zy_b13plan2_0.1
theorem dX5_dayDone_1 : decode cX5_dayDone 1 = .ok (.getfield 40, 3) := zy_b13plan2_0.2.1
theorem dX5_dayDone_4 : decode cX5_dayDone 4 = .ok (.istore_n 3, 1) := zy_b13plan2_0.2.2.1
theorem dX5_dayDone_5 : decode cX5_dayDone 5 = .ok (.iconst 0, 1) := zy_b13plan2_0.2.2.2.1
theorem dX5_dayDone_6 : decode cX5_dayDone 6 = .ok (.istore 4, 2) := zy_b13plan2_0.2.2.2.2.1
theorem dX5_dayDone_8 : decode cX5_dayDone 8 = .ok (.iconst 0, 1) := zy_b13plan2_0.2.2.2.2.2.1
theorem dX5_dayDone_9 : decode cX5_dayDone 9 = .ok (.istore 5, 2) := zy_b13plan2_0.2.2.2.2.2.2.1
theorem dX5_dayDone_11 : decode cX5_dayDone 11 = .ok (.iload 5, 2) := zy_b13plan2_0.2.2.2.2.2.2.2
theorem zy_b13plan2_1 : decode cX5_dayDone 13 = .ok (.aload_n 0, 1) ∧ decode cX5_dayDone 14 = .ok (.getfield 36, 3) ∧ decode cX5_dayDone 17 = .ok (.if_icmp .ge 80, 3) ∧ decode cX5_dayDone 20 = .ok (.iload_n 1, 1) ∧ decode cX5_dayDone 21 = .ok (.iconst 1, 1) ∧ decode cX5_dayDone 22 = .ok (.iload 5, 2) ∧ decode cX5_dayDone 24 = .ok (.ishl, 1) ∧ decode cX5_dayDone 25 = .ok (.iand, 1) := by decide +kernel
theorem dX5_dayDone_13 : decode cX5_dayDone 13 = .ok (.aload_n 0, 1) := zy_b13plan2_1.1
theorem dX5_dayDone_14 : decode cX5_dayDone 14 = .ok (.getfield 36, 3) := zy_b13plan2_1.2.1
theorem dX5_dayDone_17 : decode cX5_dayDone 17 = .ok (.if_icmp .ge 80, 3) := zy_b13plan2_1.2.2.1
theorem dX5_dayDone_20 : decode cX5_dayDone 20 = .ok (.iload_n 1, 1) := zy_b13plan2_1.2.2.2.1
theorem dX5_dayDone_21 : decode cX5_dayDone 21 = .ok (.iconst 1, 1) := zy_b13plan2_1.2.2.2.2.1
theorem dX5_dayDone_22 : decode cX5_dayDone 22 = .ok (.iload 5, 2) := zy_b13plan2_1.2.2.2.2.2.1
theorem dX5_dayDone_24 : decode cX5_dayDone 24 = .ok (.ishl, 1) := zy_b13plan2_1.2.2.2.2.2.2.1
theorem dX5_dayDone_25 : decode cX5_dayDone 25 = .ok (.iand, 1) := zy_b13plan2_1.2.2.2.2.2.2.2
theorem zy_b13plan2_2 : decode cX5_dayDone 26 = .ok (.ifCond .ne 6, 3) ∧ decode cX5_dayDone 29 = .ok (.goto 62, 3) ∧ decode cX5_dayDone 32 = .ok (.aload_n 0, 1) ∧ decode cX5_dayDone 33 = .ok (.getfield 49, 3) ∧ decode cX5_dayDone 36 = .ok (.aload_n 0, 1) ∧ decode cX5_dayDone 37 = .ok (.getfield 15, 3) ∧ decode cX5_dayDone 40 = .ok (.iload 5, 2) ∧ decode cX5_dayDone 42 = .ok (.iaload, 1) := by decide +kernel
theorem dX5_dayDone_26 : decode cX5_dayDone 26 = .ok (.ifCond .ne 6, 3) := zy_b13plan2_2.1
theorem dX5_dayDone_29 : decode cX5_dayDone 29 = .ok (.goto 62, 3) := zy_b13plan2_2.2.1
theorem dX5_dayDone_32 : decode cX5_dayDone 32 = .ok (.aload_n 0, 1) := zy_b13plan2_2.2.2.1
theorem dX5_dayDone_33 : decode cX5_dayDone 33 = .ok (.getfield 49, 3) := zy_b13plan2_2.2.2.2.1
theorem dX5_dayDone_36 : decode cX5_dayDone 36 = .ok (.aload_n 0, 1) := zy_b13plan2_2.2.2.2.2.1
theorem dX5_dayDone_37 : decode cX5_dayDone 37 = .ok (.getfield 15, 3) := zy_b13plan2_2.2.2.2.2.2.1
theorem dX5_dayDone_40 : decode cX5_dayDone 40 = .ok (.iload 5, 2) := zy_b13plan2_2.2.2.2.2.2.2.1
theorem dX5_dayDone_42 : decode cX5_dayDone 42 = .ok (.iaload, 1) := zy_b13plan2_2.2.2.2.2.2.2.2
theorem zy_b13plan2_3 : decode cX5_dayDone 43 = .ok (.iload_n 3, 1) ∧ decode cX5_dayDone 44 = .ok (.isub, 1) ∧ decode cX5_dayDone 45 = .ok (.imul, 1) ∧ decode cX5_dayDone 46 = .ok (.istore 6, 2) ∧ decode cX5_dayDone 48 = .ok (.iload 5, 2) ∧ decode cX5_dayDone 50 = .ok (.iload_n 2, 1) ∧ decode cX5_dayDone 51 = .ok (.if_icmp .le 13, 3) ∧ decode cX5_dayDone 54 = .ok (.iload 6, 2) := by decide +kernel
theorem dX5_dayDone_43 : decode cX5_dayDone 43 = .ok (.iload_n 3, 1) := zy_b13plan2_3.1
theorem dX5_dayDone_44 : decode cX5_dayDone 44 = .ok (.isub, 1) := zy_b13plan2_3.2.1
theorem dX5_dayDone_45 : decode cX5_dayDone 45 = .ok (.imul, 1) := zy_b13plan2_3.2.2.1
theorem dX5_dayDone_46 : decode cX5_dayDone 46 = .ok (.istore 6, 2) := zy_b13plan2_3.2.2.2.1
theorem dX5_dayDone_48 : decode cX5_dayDone 48 = .ok (.iload 5, 2) := zy_b13plan2_3.2.2.2.2.1
theorem dX5_dayDone_50 : decode cX5_dayDone 50 = .ok (.iload_n 2, 1) := zy_b13plan2_3.2.2.2.2.2.1
theorem dX5_dayDone_51 : decode cX5_dayDone 51 = .ok (.if_icmp .le 13, 3) := zy_b13plan2_3.2.2.2.2.2.2.1
theorem dX5_dayDone_54 : decode cX5_dayDone 54 = .ok (.iload 6, 2) := zy_b13plan2_3.2.2.2.2.2.2.2
theorem zy_b13plan2_4 : decode cX5_dayDone 56 = .ok (.iload 4, 2) ∧ decode cX5_dayDone 58 = .ok (.if_icmp .lt 6, 3) ∧ decode cX5_dayDone 61 = .ok (.goto 36, 3) ∧ decode cX5_dayDone 64 = .ok (.iconst 0, 1) ∧ decode cX5_dayDone 65 = .ok (.iload 4, 2) ∧ decode cX5_dayDone 67 = .ok (.iload 6, 2) ∧ decode cX5_dayDone 69 = .ok (.isub, 1) ∧ decode cX5_dayDone 70 = .ok (.invokestatic 43, 3) := by decide +kernel
theorem dX5_dayDone_56 : decode cX5_dayDone 56 = .ok (.iload 4, 2) := zy_b13plan2_4.1
theorem dX5_dayDone_58 : decode cX5_dayDone 58 = .ok (.if_icmp .lt 6, 3) := zy_b13plan2_4.2.1
theorem dX5_dayDone_61 : decode cX5_dayDone 61 = .ok (.goto 36, 3) := zy_b13plan2_4.2.2.1
theorem dX5_dayDone_64 : decode cX5_dayDone 64 = .ok (.iconst 0, 1) := zy_b13plan2_4.2.2.2.1
theorem dX5_dayDone_65 : decode cX5_dayDone 65 = .ok (.iload 4, 2) := zy_b13plan2_4.2.2.2.2.1
theorem dX5_dayDone_67 : decode cX5_dayDone 67 = .ok (.iload 6, 2) := zy_b13plan2_4.2.2.2.2.2.1
theorem dX5_dayDone_69 : decode cX5_dayDone 69 = .ok (.isub, 1) := zy_b13plan2_4.2.2.2.2.2.2.1
theorem dX5_dayDone_70 : decode cX5_dayDone 70 = .ok (.invokestatic 43, 3) := zy_b13plan2_4.2.2.2.2.2.2.2
theorem zy_b13plan2_5 : decode cX5_dayDone 73 = .ok (.aload_n 0, 1) ∧ decode cX5_dayDone 74 = .ok (.getfield 18, 3) ∧ decode cX5_dayDone 77 = .ok (.iload 5, 2) ∧ decode cX5_dayDone 79 = .ok (.iaload, 1) ∧ decode cX5_dayDone 80 = .ok (.iadd, 1) ∧ decode cX5_dayDone 81 = .ok (.istore 4, 2) ∧ decode cX5_dayDone 83 = .ok (.aload_n 0, 1) ∧ decode cX5_dayDone 84 = .ok (.getfield 15, 3) := by decide +kernel
theorem dX5_dayDone_73 : decode cX5_dayDone 73 = .ok (.aload_n 0, 1) := zy_b13plan2_5.1
theorem dX5_dayDone_74 : decode cX5_dayDone 74 = .ok (.getfield 18, 3) := zy_b13plan2_5.2.1
theorem dX5_dayDone_77 : decode cX5_dayDone 77 = .ok (.iload 5, 2) := zy_b13plan2_5.2.2.1
theorem dX5_dayDone_79 : decode cX5_dayDone 79 = .ok (.iaload, 1) := zy_b13plan2_5.2.2.2.1
theorem dX5_dayDone_80 : decode cX5_dayDone 80 = .ok (.iadd, 1) := zy_b13plan2_5.2.2.2.2.1
theorem dX5_dayDone_81 : decode cX5_dayDone 81 = .ok (.istore 4, 2) := zy_b13plan2_5.2.2.2.2.2.1
theorem dX5_dayDone_83 : decode cX5_dayDone 83 = .ok (.aload_n 0, 1) := zy_b13plan2_5.2.2.2.2.2.2.1
theorem dX5_dayDone_84 : decode cX5_dayDone 84 = .ok (.getfield 15, 3) := zy_b13plan2_5.2.2.2.2.2.2.2
theorem zy_b13plan2_6 : decode cX5_dayDone 87 = .ok (.iload 5, 2) ∧ decode cX5_dayDone 89 = .ok (.iaload, 1) ∧ decode cX5_dayDone 90 = .ok (.istore_n 3, 1) ∧ decode cX5_dayDone 91 = .ok (.iinc 5 1, 3) ∧ decode cX5_dayDone 94 = .ok (.goto (-83), 3) ∧ decode cX5_dayDone 97 = .ok (.aload_n 0, 1) ∧ decode cX5_dayDone 98 = .ok (.getfield 49, 3) ∧ decode cX5_dayDone 101 = .ok (.ifCond .le 17, 3) := by decide +kernel
theorem dX5_dayDone_87 : decode cX5_dayDone 87 = .ok (.iload 5, 2) := zy_b13plan2_6.1
theorem dX5_dayDone_89 : decode cX5_dayDone 89 = .ok (.iaload, 1) := zy_b13plan2_6.2.1
theorem dX5_dayDone_90 : decode cX5_dayDone 90 = .ok (.istore_n 3, 1) := zy_b13plan2_6.2.2.1
theorem dX5_dayDone_91 : decode cX5_dayDone 91 = .ok (.iinc 5 1, 3) := zy_b13plan2_6.2.2.2.1
theorem dX5_dayDone_94 : decode cX5_dayDone 94 = .ok (.goto (-83), 3) := zy_b13plan2_6.2.2.2.2.1
theorem dX5_dayDone_97 : decode cX5_dayDone 97 = .ok (.aload_n 0, 1) := zy_b13plan2_6.2.2.2.2.2.1
theorem dX5_dayDone_98 : decode cX5_dayDone 98 = .ok (.getfield 49, 3) := zy_b13plan2_6.2.2.2.2.2.2.1
theorem dX5_dayDone_101 : decode cX5_dayDone 101 = .ok (.ifCond .le 17, 3) := zy_b13plan2_6.2.2.2.2.2.2.2
theorem zy_b13plan2_7 : decode cX5_dayDone 104 = .ok (.iload_n 3, 1) ∧ decode cX5_dayDone 105 = .ok (.iload 4, 2) ∧ decode cX5_dayDone 107 = .ok (.iconst 1, 1) ∧ decode cX5_dayDone 108 = .ok (.isub, 1) ∧ decode cX5_dayDone 109 = .ok (.aload_n 0, 1) ∧ decode cX5_dayDone 110 = .ok (.getfield 49, 3) ∧ decode cX5_dayDone 113 = .ok (.idiv, 1) ∧ decode cX5_dayDone 114 = .ok (.iadd, 1) := by decide +kernel
theorem dX5_dayDone_104 : decode cX5_dayDone 104 = .ok (.iload_n 3, 1) := zy_b13plan2_7.1
theorem dX5_dayDone_105 : decode cX5_dayDone 105 = .ok (.iload 4, 2) := zy_b13plan2_7.2.1
theorem dX5_dayDone_107 : decode cX5_dayDone 107 = .ok (.iconst 1, 1) := zy_b13plan2_7.2.2.1
theorem dX5_dayDone_108 : decode cX5_dayDone 108 = .ok (.isub, 1) := zy_b13plan2_7.2.2.2.1
theorem dX5_dayDone_109 : decode cX5_dayDone 109 = .ok (.aload_n 0, 1) := zy_b13plan2_7.2.2.2.2.1
theorem dX5_dayDone_110 : decode cX5_dayDone 110 = .ok (.getfield 49, 3) := zy_b13plan2_7.2.2.2.2.2.1
theorem dX5_dayDone_113 : decode cX5_dayDone 113 = .ok (.idiv, 1) := zy_b13plan2_7.2.2.2.2.2.2.1
theorem dX5_dayDone_114 : decode cX5_dayDone 114 = .ok (.iadd, 1) := zy_b13plan2_7.2.2.2.2.2.2.2
theorem zy_b13plan2_8 : decode cX5_dayDone 115 = .ok (.goto 4, 3) ∧ decode cX5_dayDone 118 = .ok (.iload_n 3, 1) ∧ decode cX5_dayDone 119 = .ok (.ireturn, 1) := by decide +kernel
theorem dX5_dayDone_115 : decode cX5_dayDone 115 = .ok (.goto 4, 3) := zy_b13plan2_8.1
theorem dX5_dayDone_118 : decode cX5_dayDone 118 = .ok (.iload_n 3, 1) := zy_b13plan2_8.2.1
theorem dX5_dayDone_119 : decode cX5_dayDone 119 = .ok (.ireturn, 1) := zy_b13plan2_8.2.2
theorem zy_b13plan2_9 : decode cX5_chooseNext 0 = .ok (.iconst (-1), 1) ∧ decode cX5_chooseNext 1 = .ok (.istore_n 3, 1) ∧ decode cX5_chooseNext 2 = .ok (.iconst 0, 1) ∧ decode cX5_chooseNext 3 = .ok (.istore 4, 2) ∧ decode cX5_chooseNext 5 = .ok (.iconst 0, 1) ∧ decode cX5_chooseNext 6 = .ok (.istore 5, 2) ∧ decode cX5_chooseNext 8 = .ok (.iload 5, 2) ∧ decode cX5_chooseNext 10 = .ok (.aload_n 0, 1) := by decide +kernel
theorem dX5_chooseNext_0 : decode cX5_chooseNext 0 = .ok (.iconst (-1), 1) := zy_b13plan2_9.1
theorem dX5_chooseNext_1 : decode cX5_chooseNext 1 = .ok (.istore_n 3, 1) := zy_b13plan2_9.2.1
theorem dX5_chooseNext_2 : decode cX5_chooseNext 2 = .ok (.iconst 0, 1) := zy_b13plan2_9.2.2.1
theorem dX5_chooseNext_3 : decode cX5_chooseNext 3 = .ok (.istore 4, 2) := zy_b13plan2_9.2.2.2.1
theorem dX5_chooseNext_5 : decode cX5_chooseNext 5 = .ok (.iconst 0, 1) := zy_b13plan2_9.2.2.2.2.1
theorem dX5_chooseNext_6 : decode cX5_chooseNext 6 = .ok (.istore 5, 2) := zy_b13plan2_9.2.2.2.2.2.1
theorem dX5_chooseNext_8 : decode cX5_chooseNext 8 = .ok (.iload 5, 2) := zy_b13plan2_9.2.2.2.2.2.2.1
theorem dX5_chooseNext_10 : decode cX5_chooseNext 10 = .ok (.aload_n 0, 1) := zy_b13plan2_9.2.2.2.2.2.2.2
theorem zy_b13plan2_10 : decode cX5_chooseNext 11 = .ok (.getfield 36, 3) ∧ decode cX5_chooseNext 14 = .ok (.if_icmp .ge 117, 3) ∧ decode cX5_chooseNext 17 = .ok (.iload_n 1, 1) ∧ decode cX5_chooseNext 18 = .ok (.iconst 1, 1) ∧ decode cX5_chooseNext 19 = .ok (.iload 5, 2) ∧ decode cX5_chooseNext 21 = .ok (.ishl, 1) ∧ decode cX5_chooseNext 22 = .ok (.ior, 1) ∧ decode cX5_chooseNext 23 = .ok (.istore 6, 2) := by decide +kernel
theorem dX5_chooseNext_11 : decode cX5_chooseNext 11 = .ok (.getfield 36, 3) := zy_b13plan2_10.1
theorem dX5_chooseNext_14 : decode cX5_chooseNext 14 = .ok (.if_icmp .ge 117, 3) := zy_b13plan2_10.2.1
theorem dX5_chooseNext_17 : decode cX5_chooseNext 17 = .ok (.iload_n 1, 1) := zy_b13plan2_10.2.2.1
theorem dX5_chooseNext_18 : decode cX5_chooseNext 18 = .ok (.iconst 1, 1) := zy_b13plan2_10.2.2.2.1
theorem dX5_chooseNext_19 : decode cX5_chooseNext 19 = .ok (.iload 5, 2) := zy_b13plan2_10.2.2.2.2.1
theorem dX5_chooseNext_21 : decode cX5_chooseNext 21 = .ok (.ishl, 1) := zy_b13plan2_10.2.2.2.2.2.1
theorem dX5_chooseNext_22 : decode cX5_chooseNext 22 = .ok (.ior, 1) := zy_b13plan2_10.2.2.2.2.2.2.1
theorem dX5_chooseNext_23 : decode cX5_chooseNext 23 = .ok (.istore 6, 2) := zy_b13plan2_10.2.2.2.2.2.2.2
theorem zy_b13plan2_11 : decode cX5_chooseNext 25 = .ok (.iload 6, 2) ∧ decode cX5_chooseNext 27 = .ok (.iload_n 1, 1) ∧ decode cX5_chooseNext 28 = .ok (.if_icmp .ne 6, 3) ∧ decode cX5_chooseNext 31 = .ok (.goto 94, 3) ∧ decode cX5_chooseNext 34 = .ok (.aload_n 0, 1) ∧ decode cX5_chooseNext 35 = .ok (.iload 6, 2) ∧ decode cX5_chooseNext 37 = .ok (.iload 5, 2) ∧ decode cX5_chooseNext 39 = .ok (.invokevirtual 73, 3) := by decide +kernel
theorem dX5_chooseNext_25 : decode cX5_chooseNext 25 = .ok (.iload 6, 2) := zy_b13plan2_11.1
theorem dX5_chooseNext_27 : decode cX5_chooseNext 27 = .ok (.iload_n 1, 1) := zy_b13plan2_11.2.1
theorem dX5_chooseNext_28 : decode cX5_chooseNext 28 = .ok (.if_icmp .ne 6, 3) := zy_b13plan2_11.2.2.1
theorem dX5_chooseNext_31 : decode cX5_chooseNext 31 = .ok (.goto 94, 3) := zy_b13plan2_11.2.2.2.1
theorem dX5_chooseNext_34 : decode cX5_chooseNext 34 = .ok (.aload_n 0, 1) := zy_b13plan2_11.2.2.2.2.1
theorem dX5_chooseNext_35 : decode cX5_chooseNext 35 = .ok (.iload 6, 2) := zy_b13plan2_11.2.2.2.2.2.1
theorem dX5_chooseNext_37 : decode cX5_chooseNext 37 = .ok (.iload 5, 2) := zy_b13plan2_11.2.2.2.2.2.2.1
theorem dX5_chooseNext_39 : decode cX5_chooseNext 39 = .ok (.invokevirtual 73, 3) := zy_b13plan2_11.2.2.2.2.2.2.2
theorem zy_b13plan2_12 : decode cX5_chooseNext 42 = .ok (.aload_n 0, 1) ∧ decode cX5_chooseNext 43 = .ok (.getfield 21, 3) ∧ decode cX5_chooseNext 46 = .ok (.iload 5, 2) ∧ decode cX5_chooseNext 48 = .ok (.iaload, 1) ∧ decode cX5_chooseNext 49 = .ok (.isub, 1) ∧ decode cX5_chooseNext 50 = .ok (.istore 7, 2) ∧ decode cX5_chooseNext 52 = .ok (.aload_n 0, 1) ∧ decode cX5_chooseNext 53 = .ok (.getfield 24, 3) := by decide +kernel
theorem dX5_chooseNext_42 : decode cX5_chooseNext 42 = .ok (.aload_n 0, 1) := zy_b13plan2_12.1
theorem dX5_chooseNext_43 : decode cX5_chooseNext 43 = .ok (.getfield 21, 3) := zy_b13plan2_12.2.1
theorem dX5_chooseNext_46 : decode cX5_chooseNext 46 = .ok (.iload 5, 2) := zy_b13plan2_12.2.2.1
theorem dX5_chooseNext_48 : decode cX5_chooseNext 48 = .ok (.iaload, 1) := zy_b13plan2_12.2.2.2.1
theorem dX5_chooseNext_49 : decode cX5_chooseNext 49 = .ok (.isub, 1) := zy_b13plan2_12.2.2.2.2.1
theorem dX5_chooseNext_50 : decode cX5_chooseNext 50 = .ok (.istore 7, 2) := zy_b13plan2_12.2.2.2.2.2.1
theorem dX5_chooseNext_52 : decode cX5_chooseNext 52 = .ok (.aload_n 0, 1) := zy_b13plan2_12.2.2.2.2.2.2.1
theorem dX5_chooseNext_53 : decode cX5_chooseNext 53 = .ok (.getfield 24, 3) := zy_b13plan2_12.2.2.2.2.2.2.2
theorem zy_b13plan2_13 : decode cX5_chooseNext 56 = .ok (.iload 5, 2) ∧ decode cX5_chooseNext 58 = .ok (.iaload, 1) ∧ decode cX5_chooseNext 59 = .ok (.aload_n 0, 1) ∧ decode cX5_chooseNext 60 = .ok (.getfield 24, 3) ∧ decode cX5_chooseNext 63 = .ok (.iload 5, 2) ∧ decode cX5_chooseNext 65 = .ok (.iaload, 1) ∧ decode cX5_chooseNext 66 = .ok (.iload 7, 2) ∧ decode cX5_chooseNext 68 = .ok (.aload_n 2, 1) := by decide +kernel
theorem dX5_chooseNext_56 : decode cX5_chooseNext 56 = .ok (.iload 5, 2) := zy_b13plan2_13.1
theorem dX5_chooseNext_58 : decode cX5_chooseNext 58 = .ok (.iaload, 1) := zy_b13plan2_13.2.1
theorem dX5_chooseNext_59 : decode cX5_chooseNext 59 = .ok (.aload_n 0, 1) := zy_b13plan2_13.2.2.1
theorem dX5_chooseNext_60 : decode cX5_chooseNext 60 = .ok (.getfield 24, 3) := zy_b13plan2_13.2.2.2.1
theorem dX5_chooseNext_63 : decode cX5_chooseNext 63 = .ok (.iload 5, 2) := zy_b13plan2_13.2.2.2.2.1
theorem dX5_chooseNext_65 : decode cX5_chooseNext 65 = .ok (.iaload, 1) := zy_b13plan2_13.2.2.2.2.2.1
theorem dX5_chooseNext_66 : decode cX5_chooseNext 66 = .ok (.iload 7, 2) := zy_b13plan2_13.2.2.2.2.2.2.1
theorem dX5_chooseNext_68 : decode cX5_chooseNext 68 = .ok (.aload_n 2, 1) := zy_b13plan2_13.2.2.2.2.2.2.2
theorem zy_b13plan2_14 : decode cX5_chooseNext 69 = .ok (.invokestatic 76, 3) ∧ decode cX5_chooseNext 72 = .ok (.isub, 1) ∧ decode cX5_chooseNext 73 = .ok (.aload_n 0, 1) ∧ decode cX5_chooseNext 74 = .ok (.getfield 27, 3) ∧ decode cX5_chooseNext 77 = .ok (.iload 6, 2) ∧ decode cX5_chooseNext 79 = .ok (.iaload, 1) ∧ decode cX5_chooseNext 80 = .ok (.iadd, 1) ∧ decode cX5_chooseNext 81 = .ok (.istore 8, 2) := by decide +kernel
theorem dX5_chooseNext_69 : decode cX5_chooseNext 69 = .ok (.invokestatic 76, 3) := zy_b13plan2_14.1
theorem dX5_chooseNext_72 : decode cX5_chooseNext 72 = .ok (.isub, 1) := zy_b13plan2_14.2.1
theorem dX5_chooseNext_73 : decode cX5_chooseNext 73 = .ok (.aload_n 0, 1) := zy_b13plan2_14.2.2.1
theorem dX5_chooseNext_74 : decode cX5_chooseNext 74 = .ok (.getfield 27, 3) := zy_b13plan2_14.2.2.2.1
theorem dX5_chooseNext_77 : decode cX5_chooseNext 77 = .ok (.iload 6, 2) := zy_b13plan2_14.2.2.2.2.1
theorem dX5_chooseNext_79 : decode cX5_chooseNext 79 = .ok (.iaload, 1) := zy_b13plan2_14.2.2.2.2.2.1
theorem dX5_chooseNext_80 : decode cX5_chooseNext 80 = .ok (.iadd, 1) := zy_b13plan2_14.2.2.2.2.2.2.1
theorem dX5_chooseNext_81 : decode cX5_chooseNext 81 = .ok (.istore 8, 2) := zy_b13plan2_14.2.2.2.2.2.2.2
theorem zy_b13plan2_15 : decode cX5_chooseNext 83 = .ok (.iload_n 3, 1) ∧ decode cX5_chooseNext 84 = .ok (.iconst (-1), 1) ∧ decode cX5_chooseNext 85 = .ok (.if_icmp .eq 33, 3) ∧ decode cX5_chooseNext 88 = .ok (.iload 8, 2) ∧ decode cX5_chooseNext 90 = .ok (.iload 4, 2) ∧ decode cX5_chooseNext 92 = .ok (.if_icmp .lt 26, 3) ∧ decode cX5_chooseNext 95 = .ok (.iload 8, 2) ∧ decode cX5_chooseNext 97 = .ok (.iload 4, 2) := by decide +kernel
theorem dX5_chooseNext_83 : decode cX5_chooseNext 83 = .ok (.iload_n 3, 1) := zy_b13plan2_15.1
theorem dX5_chooseNext_84 : decode cX5_chooseNext 84 = .ok (.iconst (-1), 1) := zy_b13plan2_15.2.1
theorem dX5_chooseNext_85 : decode cX5_chooseNext 85 = .ok (.if_icmp .eq 33, 3) := zy_b13plan2_15.2.2.1
theorem dX5_chooseNext_88 : decode cX5_chooseNext 88 = .ok (.iload 8, 2) := zy_b13plan2_15.2.2.2.1
theorem dX5_chooseNext_90 : decode cX5_chooseNext 90 = .ok (.iload 4, 2) := zy_b13plan2_15.2.2.2.2.1
theorem dX5_chooseNext_92 : decode cX5_chooseNext 92 = .ok (.if_icmp .lt 26, 3) := zy_b13plan2_15.2.2.2.2.2.1
theorem dX5_chooseNext_95 : decode cX5_chooseNext 95 = .ok (.iload 8, 2) := zy_b13plan2_15.2.2.2.2.2.2.1
theorem dX5_chooseNext_97 : decode cX5_chooseNext 97 = .ok (.iload 4, 2) := zy_b13plan2_15.2.2.2.2.2.2.2
theorem zy_b13plan2_16 : decode cX5_chooseNext 99 = .ok (.if_icmp .ne 26, 3) ∧ decode cX5_chooseNext 102 = .ok (.aload_n 0, 1) ∧ decode cX5_chooseNext 103 = .ok (.getfield 9, 3) ∧ decode cX5_chooseNext 106 = .ok (.iload 5, 2) ∧ decode cX5_chooseNext 108 = .ok (.iaload, 1) ∧ decode cX5_chooseNext 109 = .ok (.aload_n 0, 1) ∧ decode cX5_chooseNext 110 = .ok (.getfield 9, 3) ∧ decode cX5_chooseNext 113 = .ok (.iload_n 3, 1) := by decide +kernel
theorem dX5_chooseNext_99 : decode cX5_chooseNext 99 = .ok (.if_icmp .ne 26, 3) := zy_b13plan2_16.1
theorem dX5_chooseNext_102 : decode cX5_chooseNext 102 = .ok (.aload_n 0, 1) := zy_b13plan2_16.2.1
theorem dX5_chooseNext_103 : decode cX5_chooseNext 103 = .ok (.getfield 9, 3) := zy_b13plan2_16.2.2.1
theorem dX5_chooseNext_106 : decode cX5_chooseNext 106 = .ok (.iload 5, 2) := zy_b13plan2_16.2.2.2.1
theorem dX5_chooseNext_108 : decode cX5_chooseNext 108 = .ok (.iaload, 1) := zy_b13plan2_16.2.2.2.2.1
theorem dX5_chooseNext_109 : decode cX5_chooseNext 109 = .ok (.aload_n 0, 1) := zy_b13plan2_16.2.2.2.2.2.1
theorem dX5_chooseNext_110 : decode cX5_chooseNext 110 = .ok (.getfield 9, 3) := zy_b13plan2_16.2.2.2.2.2.2.1
theorem dX5_chooseNext_113 : decode cX5_chooseNext 113 = .ok (.iload_n 3, 1) := zy_b13plan2_16.2.2.2.2.2.2.2
theorem zy_b13plan2_17 : decode cX5_chooseNext 114 = .ok (.iaload, 1) ∧ decode cX5_chooseNext 115 = .ok (.if_icmp .ge 10, 3) ∧ decode cX5_chooseNext 118 = .ok (.iload 5, 2) ∧ decode cX5_chooseNext 120 = .ok (.istore_n 3, 1) ∧ decode cX5_chooseNext 121 = .ok (.iload 8, 2) ∧ decode cX5_chooseNext 123 = .ok (.istore 4, 2) ∧ decode cX5_chooseNext 125 = .ok (.iinc 5 1, 3) ∧ decode cX5_chooseNext 128 = .ok (.goto (-120), 3) := by decide +kernel
theorem dX5_chooseNext_114 : decode cX5_chooseNext 114 = .ok (.iaload, 1) := zy_b13plan2_17.1
theorem dX5_chooseNext_115 : decode cX5_chooseNext 115 = .ok (.if_icmp .ge 10, 3) := zy_b13plan2_17.2.1
theorem dX5_chooseNext_118 : decode cX5_chooseNext 118 = .ok (.iload 5, 2) := zy_b13plan2_17.2.2.1
theorem dX5_chooseNext_120 : decode cX5_chooseNext 120 = .ok (.istore_n 3, 1) := zy_b13plan2_17.2.2.2.1
theorem dX5_chooseNext_121 : decode cX5_chooseNext 121 = .ok (.iload 8, 2) := zy_b13plan2_17.2.2.2.2.1
theorem dX5_chooseNext_123 : decode cX5_chooseNext 123 = .ok (.istore 4, 2) := zy_b13plan2_17.2.2.2.2.2.1
theorem dX5_chooseNext_125 : decode cX5_chooseNext 125 = .ok (.iinc 5 1, 3) := zy_b13plan2_17.2.2.2.2.2.2.1
theorem dX5_chooseNext_128 : decode cX5_chooseNext 128 = .ok (.goto (-120), 3) := zy_b13plan2_17.2.2.2.2.2.2.2
theorem zy_b13plan2_18 : decode cX5_chooseNext 131 = .ok (.aload_n 0, 1) ∧ decode cX5_chooseNext 132 = .ok (.getfield 27, 3) ∧ decode cX5_chooseNext 135 = .ok (.iload_n 1, 1) ∧ decode cX5_chooseNext 136 = .ok (.iload 4, 2) ∧ decode cX5_chooseNext 138 = .ok (.iastore, 1) ∧ decode cX5_chooseNext 139 = .ok (.aload_n 0, 1) ∧ decode cX5_chooseNext 140 = .ok (.getfield 30, 3) ∧ decode cX5_chooseNext 143 = .ok (.iload_n 1, 1) := by decide +kernel
theorem dX5_chooseNext_131 : decode cX5_chooseNext 131 = .ok (.aload_n 0, 1) := zy_b13plan2_18.1
theorem dX5_chooseNext_132 : decode cX5_chooseNext 132 = .ok (.getfield 27, 3) := zy_b13plan2_18.2.1
theorem dX5_chooseNext_135 : decode cX5_chooseNext 135 = .ok (.iload_n 1, 1) := zy_b13plan2_18.2.2.1
theorem dX5_chooseNext_136 : decode cX5_chooseNext 136 = .ok (.iload 4, 2) := zy_b13plan2_18.2.2.2.1
theorem dX5_chooseNext_138 : decode cX5_chooseNext 138 = .ok (.iastore, 1) := zy_b13plan2_18.2.2.2.2.1
theorem dX5_chooseNext_139 : decode cX5_chooseNext 139 = .ok (.aload_n 0, 1) := zy_b13plan2_18.2.2.2.2.2.1
theorem dX5_chooseNext_140 : decode cX5_chooseNext 140 = .ok (.getfield 30, 3) := zy_b13plan2_18.2.2.2.2.2.2.1
theorem dX5_chooseNext_143 : decode cX5_chooseNext 143 = .ok (.iload_n 1, 1) := zy_b13plan2_18.2.2.2.2.2.2.2
theorem zy_b13plan2_19 : decode cX5_chooseNext 144 = .ok (.iconst 0, 1) ∧ decode cX5_chooseNext 145 = .ok (.iload_n 3, 1) ∧ decode cX5_chooseNext 146 = .ok (.invokestatic 43, 3) ∧ decode cX5_chooseNext 149 = .ok (.iastore, 1) ∧ decode cX5_chooseNext 150 = .ok (.return_, 1) := by decide +kernel
theorem dX5_chooseNext_144 : decode cX5_chooseNext 144 = .ok (.iconst 0, 1) := zy_b13plan2_19.1
theorem dX5_chooseNext_145 : decode cX5_chooseNext 145 = .ok (.iload_n 3, 1) := zy_b13plan2_19.2.1
theorem dX5_chooseNext_146 : decode cX5_chooseNext 146 = .ok (.invokestatic 43, 3) := zy_b13plan2_19.2.2.1
theorem dX5_chooseNext_149 : decode cX5_chooseNext 149 = .ok (.iastore, 1) := zy_b13plan2_19.2.2.2.1
theorem dX5_chooseNext_150 : decode cX5_chooseNext 150 = .ok (.return_, 1) := zy_b13plan2_19.2.2.2.2
theorem zy_b13plan2_20 : decode cX5_choose 0 = .ok (.iconst 1, 1) ∧ decode cX5_choose 1 = .ok (.aload_n 0, 1) ∧ decode cX5_choose 2 = .ok (.getfield 36, 3) ∧ decode cX5_choose 5 = .ok (.ishl, 1) ∧ decode cX5_choose 6 = .ok (.iconst 1, 1) ∧ decode cX5_choose 7 = .ok (.isub, 1) ∧ decode cX5_choose 8 = .ok (.istore_n 2, 1) ∧ decode cX5_choose 9 = .ok (.aload_n 0, 1) := by decide +kernel
theorem dX5_choose_0 : decode cX5_choose 0 = .ok (.iconst 1, 1) := zy_b13plan2_20.1
theorem dX5_choose_1 : decode cX5_choose 1 = .ok (.aload_n 0, 1) := zy_b13plan2_20.2.1
theorem dX5_choose_2 : decode cX5_choose 2 = .ok (.getfield 36, 3) := zy_b13plan2_20.2.2.1
theorem dX5_choose_5 : decode cX5_choose 5 = .ok (.ishl, 1) := zy_b13plan2_20.2.2.2.1
theorem dX5_choose_6 : decode cX5_choose 6 = .ok (.iconst 1, 1) := zy_b13plan2_20.2.2.2.2.1
theorem dX5_choose_7 : decode cX5_choose 7 = .ok (.isub, 1) := zy_b13plan2_20.2.2.2.2.2.1
theorem dX5_choose_8 : decode cX5_choose 8 = .ok (.istore_n 2, 1) := zy_b13plan2_20.2.2.2.2.2.2.1
theorem dX5_choose_9 : decode cX5_choose 9 = .ok (.aload_n 0, 1) := zy_b13plan2_20.2.2.2.2.2.2.2
theorem zy_b13plan2_21 : decode cX5_choose 10 = .ok (.getfield 27, 3) ∧ decode cX5_choose 13 = .ok (.iload_n 2, 1) ∧ decode cX5_choose 14 = .ok (.iconst 0, 1) ∧ decode cX5_choose 15 = .ok (.iastore, 1) ∧ decode cX5_choose 16 = .ok (.iload_n 2, 1) ∧ decode cX5_choose 17 = .ok (.iconst 1, 1) ∧ decode cX5_choose 18 = .ok (.isub, 1) ∧ decode cX5_choose 19 = .ok (.istore_n 3, 1) := by decide +kernel
theorem dX5_choose_10 : decode cX5_choose 10 = .ok (.getfield 27, 3) := zy_b13plan2_21.1
theorem dX5_choose_13 : decode cX5_choose 13 = .ok (.iload_n 2, 1) := zy_b13plan2_21.2.1
theorem dX5_choose_14 : decode cX5_choose 14 = .ok (.iconst 0, 1) := zy_b13plan2_21.2.2.1
theorem dX5_choose_15 : decode cX5_choose 15 = .ok (.iastore, 1) := zy_b13plan2_21.2.2.2.1
theorem dX5_choose_16 : decode cX5_choose 16 = .ok (.iload_n 2, 1) := zy_b13plan2_21.2.2.2.2.1
theorem dX5_choose_17 : decode cX5_choose 17 = .ok (.iconst 1, 1) := zy_b13plan2_21.2.2.2.2.2.1
theorem dX5_choose_18 : decode cX5_choose 18 = .ok (.isub, 1) := zy_b13plan2_21.2.2.2.2.2.2.1
theorem dX5_choose_19 : decode cX5_choose 19 = .ok (.istore_n 3, 1) := zy_b13plan2_21.2.2.2.2.2.2.2
theorem zy_b13plan2_22 : decode cX5_choose 20 = .ok (.iload_n 3, 1) ∧ decode cX5_choose 21 = .ok (.ifCond .lt 15, 3) ∧ decode cX5_choose 24 = .ok (.aload_n 0, 1) ∧ decode cX5_choose 25 = .ok (.iload_n 3, 1) ∧ decode cX5_choose 26 = .ok (.aload_n 1, 1) ∧ decode cX5_choose 27 = .ok (.invokevirtual 66, 3) ∧ decode cX5_choose 30 = .ok (.iinc 3 (-1), 3) ∧ decode cX5_choose 33 = .ok (.goto (-13), 3) := by decide +kernel
theorem dX5_choose_20 : decode cX5_choose 20 = .ok (.iload_n 3, 1) := zy_b13plan2_22.1
theorem dX5_choose_21 : decode cX5_choose 21 = .ok (.ifCond .lt 15, 3) := zy_b13plan2_22.2.1
theorem dX5_choose_24 : decode cX5_choose 24 = .ok (.aload_n 0, 1) := zy_b13plan2_22.2.2.1
theorem dX5_choose_25 : decode cX5_choose 25 = .ok (.iload_n 3, 1) := zy_b13plan2_22.2.2.2.1
theorem dX5_choose_26 : decode cX5_choose 26 = .ok (.aload_n 1, 1) := zy_b13plan2_22.2.2.2.2.1
theorem dX5_choose_27 : decode cX5_choose 27 = .ok (.invokevirtual 66, 3) := zy_b13plan2_22.2.2.2.2.2.1
theorem dX5_choose_30 : decode cX5_choose 30 = .ok (.iinc 3 (-1), 3) := zy_b13plan2_22.2.2.2.2.2.2.1
theorem dX5_choose_33 : decode cX5_choose 33 = .ok (.goto (-13), 3) := zy_b13plan2_22.2.2.2.2.2.2.2
theorem zy_b13plan2_23 : decode cX5_choose 36 = .ok (.aload_n 0, 1) ∧ decode cX5_choose 37 = .ok (.aload_n 0, 1) ∧ decode cX5_choose 38 = .ok (.getfield 36, 3) ∧ decode cX5_choose 41 = .ok (.putfield 70, 3) ∧ decode cX5_choose 44 = .ok (.iconst 0, 1) ∧ decode cX5_choose 45 = .ok (.istore_n 3, 1) ∧ decode cX5_choose 46 = .ok (.iconst 0, 1) ∧ decode cX5_choose 47 = .ok (.istore 4, 2) := by decide +kernel
theorem dX5_choose_36 : decode cX5_choose 36 = .ok (.aload_n 0, 1) := zy_b13plan2_23.1
theorem dX5_choose_37 : decode cX5_choose 37 = .ok (.aload_n 0, 1) := zy_b13plan2_23.2.1
theorem dX5_choose_38 : decode cX5_choose 38 = .ok (.getfield 36, 3) := zy_b13plan2_23.2.2.1
theorem dX5_choose_41 : decode cX5_choose 41 = .ok (.putfield 70, 3) := zy_b13plan2_23.2.2.2.1
theorem dX5_choose_44 : decode cX5_choose 44 = .ok (.iconst 0, 1) := zy_b13plan2_23.2.2.2.2.1
theorem dX5_choose_45 : decode cX5_choose 45 = .ok (.istore_n 3, 1) := zy_b13plan2_23.2.2.2.2.2.1
theorem dX5_choose_46 : decode cX5_choose 46 = .ok (.iconst 0, 1) := zy_b13plan2_23.2.2.2.2.2.2.1
theorem dX5_choose_47 : decode cX5_choose 47 = .ok (.istore 4, 2) := zy_b13plan2_23.2.2.2.2.2.2.2
theorem zy_b13plan2_24 : decode cX5_choose 49 = .ok (.iload 4, 2) ∧ decode cX5_choose 51 = .ok (.aload_n 0, 1) ∧ decode cX5_choose 52 = .ok (.getfield 36, 3) ∧ decode cX5_choose 55 = .ok (.if_icmp .ge 38, 3) ∧ decode cX5_choose 58 = .ok (.aload_n 0, 1) ∧ decode cX5_choose 59 = .ok (.getfield 30, 3) ∧ decode cX5_choose 62 = .ok (.iload_n 3, 1) ∧ decode cX5_choose 63 = .ok (.iaload, 1) := by decide +kernel
theorem dX5_choose_49 : decode cX5_choose 49 = .ok (.iload 4, 2) := zy_b13plan2_24.1
theorem dX5_choose_51 : decode cX5_choose 51 = .ok (.aload_n 0, 1) := zy_b13plan2_24.2.1
theorem dX5_choose_52 : decode cX5_choose 52 = .ok (.getfield 36, 3) := zy_b13plan2_24.2.2.1
theorem dX5_choose_55 : decode cX5_choose 55 = .ok (.if_icmp .ge 38, 3) := zy_b13plan2_24.2.2.2.1
theorem dX5_choose_58 : decode cX5_choose 58 = .ok (.aload_n 0, 1) := zy_b13plan2_24.2.2.2.2.1
theorem dX5_choose_59 : decode cX5_choose 59 = .ok (.getfield 30, 3) := zy_b13plan2_24.2.2.2.2.2.1
theorem dX5_choose_62 : decode cX5_choose 62 = .ok (.iload_n 3, 1) := zy_b13plan2_24.2.2.2.2.2.2.1
theorem dX5_choose_63 : decode cX5_choose 63 = .ok (.iaload, 1) := zy_b13plan2_24.2.2.2.2.2.2.2
theorem zy_b13plan2_25 : decode cX5_choose 64 = .ok (.istore 5, 2) ∧ decode cX5_choose 66 = .ok (.aload_n 0, 1) ∧ decode cX5_choose 67 = .ok (.getfield 33, 3) ∧ decode cX5_choose 70 = .ok (.iload 4, 2) ∧ decode cX5_choose 72 = .ok (.aload_n 0, 1) ∧ decode cX5_choose 73 = .ok (.getfield 9, 3) ∧ decode cX5_choose 76 = .ok (.iload 5, 2) ∧ decode cX5_choose 78 = .ok (.iaload, 1) := by decide +kernel
theorem dX5_choose_64 : decode cX5_choose 64 = .ok (.istore 5, 2) := zy_b13plan2_25.1
theorem dX5_choose_66 : decode cX5_choose 66 = .ok (.aload_n 0, 1) := zy_b13plan2_25.2.1
theorem dX5_choose_67 : decode cX5_choose 67 = .ok (.getfield 33, 3) := zy_b13plan2_25.2.2.1
theorem dX5_choose_70 : decode cX5_choose 70 = .ok (.iload 4, 2) := zy_b13plan2_25.2.2.2.1
theorem dX5_choose_72 : decode cX5_choose 72 = .ok (.aload_n 0, 1) := zy_b13plan2_25.2.2.2.2.1
theorem dX5_choose_73 : decode cX5_choose 73 = .ok (.getfield 9, 3) := zy_b13plan2_25.2.2.2.2.2.1
theorem dX5_choose_76 : decode cX5_choose 76 = .ok (.iload 5, 2) := zy_b13plan2_25.2.2.2.2.2.2.1
theorem dX5_choose_78 : decode cX5_choose 78 = .ok (.iaload, 1) := zy_b13plan2_25.2.2.2.2.2.2.2
theorem zy_b13plan2_26 : decode cX5_choose 79 = .ok (.iastore, 1) ∧ decode cX5_choose 80 = .ok (.iload_n 3, 1) ∧ decode cX5_choose 81 = .ok (.iconst 1, 1) ∧ decode cX5_choose 82 = .ok (.iload 5, 2) ∧ decode cX5_choose 84 = .ok (.ishl, 1) ∧ decode cX5_choose 85 = .ok (.ior, 1) ∧ decode cX5_choose 86 = .ok (.istore_n 3, 1) ∧ decode cX5_choose 87 = .ok (.iinc 4 1, 3) := by decide +kernel
theorem dX5_choose_79 : decode cX5_choose 79 = .ok (.iastore, 1) := zy_b13plan2_26.1
theorem dX5_choose_80 : decode cX5_choose 80 = .ok (.iload_n 3, 1) := zy_b13plan2_26.2.1
theorem dX5_choose_81 : decode cX5_choose 81 = .ok (.iconst 1, 1) := zy_b13plan2_26.2.2.1
theorem dX5_choose_82 : decode cX5_choose 82 = .ok (.iload 5, 2) := zy_b13plan2_26.2.2.2.1
theorem dX5_choose_84 : decode cX5_choose 84 = .ok (.ishl, 1) := zy_b13plan2_26.2.2.2.2.1
theorem dX5_choose_85 : decode cX5_choose 85 = .ok (.ior, 1) := zy_b13plan2_26.2.2.2.2.2.1
theorem dX5_choose_86 : decode cX5_choose 86 = .ok (.istore_n 3, 1) := zy_b13plan2_26.2.2.2.2.2.2.1
theorem dX5_choose_87 : decode cX5_choose 87 = .ok (.iinc 4 1, 3) := zy_b13plan2_26.2.2.2.2.2.2.2
theorem zy_b13plan2_27 : decode cX5_choose 90 = .ok (.goto (-41), 3) ∧ decode cX5_choose 93 = .ok (.aload_n 0, 1) ∧ decode cX5_choose 94 = .ok (.getfield 27, 3) ∧ decode cX5_choose 97 = .ok (.iconst 0, 1) ∧ decode cX5_choose 98 = .ok (.iaload, 1) ∧ decode cX5_choose 99 = .ok (.ireturn, 1) := by decide +kernel
theorem dX5_choose_90 : decode cX5_choose 90 = .ok (.goto (-41), 3) := zy_b13plan2_27.1
theorem dX5_choose_93 : decode cX5_choose 93 = .ok (.aload_n 0, 1) := zy_b13plan2_27.2.1
theorem dX5_choose_94 : decode cX5_choose 94 = .ok (.getfield 27, 3) := zy_b13plan2_27.2.2.1
theorem dX5_choose_97 : decode cX5_choose 97 = .ok (.iconst 0, 1) := zy_b13plan2_27.2.2.2.1
theorem dX5_choose_98 : decode cX5_choose 98 = .ok (.iaload, 1) := zy_b13plan2_27.2.2.2.2.1
theorem dX5_choose_99 : decode cX5_choose 99 = .ok (.ireturn, 1) := zy_b13plan2_27.2.2.2.2.2
