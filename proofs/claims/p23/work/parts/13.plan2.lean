theorem tw_156 : Cond.fieldLink RX5 27 "HandsReturned$Plan" "leastLost" "[I" ∈ zz_all := zz_m1 232 rfl rfl
theorem tw_157 : Cond.fieldLink RX5 30 "HandsReturned$Plan" "bestNext" "[I" ∈ zz_all := zz_m1 233 rfl rfl
theorem tw_158 : Cond.code yX5_dayDone cX5_dayDone 7 (some .int) ∈ zz_all := zz_m3 149 rfl rfl
theorem tw_159 : Cond.methodLink RX5 73 yX5_dayDone ∈ zz_all := zz_m3 146 rfl rfl
theorem tw_160 : Cond.instanceMethod yX5_dayDone ∈ zz_all := zz_m3 148 rfl rfl
theorem tw_161 : Cond.selects RX5 yX5_dayDone yX5_dayDone ∈ zz_all := zz_ms 36 rfl rfl
theorem tw_162 : Cond.fieldLink RX5 70 "HandsReturned$Plan" "chosenCount" "I" ∈ zz_all := zz_m1 236 rfl rfl
theorem tw_163 : Cond.fieldLink RX5 33 "HandsReturned$Plan" "chosen" "[I" ∈ zz_all := zz_m1 234 rfl rfl
theorem tw_164 : Cond.code yX5_chooseNext cX5_chooseNext 9 none ∈ zz_all := zz_m3 145 rfl rfl
theorem tw_165 : Cond.methodLink RX5 66 yX5_chooseNext ∈ zz_all := zz_m3 142 rfl rfl
theorem tw_166 : Cond.instanceMethod yX5_chooseNext ∈ zz_all := zz_m3 144 rfl rfl
theorem tw_167 : Cond.selects RX5 yX5_chooseNext yX5_chooseNext ∈ zz_all := zz_ms 35 rfl rfl
theorem zy_b13plan2_0 : decode cX5_dayDone 0 = .ok (.aload_n 0, 1) ∧ decode cX5_dayDone 1 = .ok (.getfield 40, 3) ∧ decode cX5_dayDone 4 = .ok (.istore_n 3, 1) ∧ decode cX5_dayDone 5 = .ok (.iconst 0, 1) ∧ decode cX5_dayDone 6 = .ok (.istore 4, 2) ∧ decode cX5_dayDone 8 = .ok (.iconst 0, 1) ∧ decode cX5_dayDone 9 = .ok (.istore 5, 2) ∧ decode cX5_dayDone 11 = .ok (.iload 5, 2) := by decide +kernel
theorem dX5_dayDone_0 : decode cX5_dayDone 0 = .ok (.aload_n 0, 1) := zy_b13plan2_0.1
theorem dX5_dayDone_1 : decode cX5_dayDone 1 = .ok (.getfield 40, 3) := zy_b13plan2_0.2.1
theorem dX5_dayDone_4 : decode cX5_dayDone 4 = .ok (.istore_n 3, 1) := zy_b13plan2_0.2.2.1
theorem dX5_dayDone_5 : decode cX5_dayDone 5 = .ok (.iconst 0, 1) := zy_b13plan2_0.2.2.2.1
theorem dX5_dayDone_6 : decode cX5_dayDone 6 = .ok (.istore 4, 2) := zy_b13plan2_0.2.2.2.2.1
theorem dX5_dayDone_8 : decode cX5_dayDone 8 = .ok (.iconst 0, 1) := zy_b13plan2_0.2.2.2.2.2.1
theorem dX5_dayDone_9 : decode cX5_dayDone 9 = .ok (.istore 5, 2) := zy_b13plan2_0.2.2.2.2.2.2.1
theorem dX5_dayDone_11 : decode cX5_dayDone 11 = .ok (.iload 5, 2) := zy_b13plan2_0.2.2.2.2.2.2.2
theorem zy_b13plan2_1 : decode cX5_dayDone 13 = .ok (.aload_n 0, 1) ∧ decode cX5_dayDone 14 = .ok (.getfield 36, 3) ∧ decode cX5_dayDone 17 = .ok (.if_icmp .ge 80, 3) ∧ decode cX5_dayDone 20 = .ok (.iload_n 1, 1) ∧ decode cX5_dayDone 21 = .ok (.iconst 1, 1) ∧ decode cX5_dayDone 22 = .ok (.iload 5, 2) ∧ decode cX5_dayDone 24 = .ok (.ishl, 1) ∧ decode cX5_dayDone 25 = .ok (.iand, 1) := by decide +kernel
theorem dX5_dayDone_13 : decode cX5_dayDone 13 = .ok (.aload_n 0, 1) := zy_b13plan2_1.1
theorem dX5_dayDone_14 : decode cX5_dayDone 14 = .ok (.getfield 36, 3) := zy_b13plan2_1.2.1
theorem dX5_dayDone_17 : decode cX5_dayDone 17 = .ok (.if_icmp .ge 80, 3) := zy_b13plan2_1.2.2.1
theorem dX5_dayDone_20 : decode cX5_dayDone 20 = .ok (.iload_n 1, 1) := zy_b13plan2_1.2.2.2.1
theorem dX5_dayDone_21 : decode cX5_dayDone 21 = .ok (.iconst 1, 1) := zy_b13plan2_1.2.2.2.2.1
theorem dX5_dayDone_22 : decode cX5_dayDone 22 = .ok (.iload 5, 2) := zy_b13plan2_1.2.2.2.2.2.1
theorem dX5_dayDone_24 : decode cX5_dayDone 24 = .ok (.ishl, 1) := zy_b13plan2_1.2.2.2.2.2.2.1
theorem dX5_dayDone_25 : decode cX5_dayDone 25 = .ok (.iand, 1) := zy_b13plan2_1.2.2.2.2.2.2.2
theorem zy_b13plan2_2 : decode cX5_dayDone 26 = .ok (.ifCond .ne 6, 3) ∧ decode cX5_dayDone 29 = .ok (.goto 62, 3) ∧ decode cX5_dayDone 32 = .ok (.aload_n 0, 1) ∧ decode cX5_dayDone 33 = .ok (.getfield 49, 3) ∧ decode cX5_dayDone 36 = .ok (.aload_n 0, 1) ∧ decode cX5_dayDone 37 = .ok (.getfield 15, 3) ∧ decode cX5_dayDone 40 = .ok (.iload 5, 2) ∧ decode cX5_dayDone 42 = .ok (.iaload, 1) := by decide +kernel
theorem dX5_dayDone_26 : decode cX5_dayDone 26 = .ok (.ifCond .ne 6, 3) := zy_b13plan2_2.1
theorem dX5_dayDone_29 : decode cX5_dayDone 29 = .ok (.goto 62, 3) := zy_b13plan2_2.2.1
theorem dX5_dayDone_32 : decode cX5_dayDone 32 = .ok (.aload_n 0, 1) := zy_b13plan2_2.2.2.1
theorem dX5_dayDone_33 : decode cX5_dayDone 33 = .ok (.getfield 49, 3) := zy_b13plan2_2.2.2.2.1
theorem dX5_dayDone_36 : decode cX5_dayDone 36 = .ok (.aload_n 0, 1) := zy_b13plan2_2.2.2.2.2.1
theorem dX5_dayDone_37 : decode cX5_dayDone 37 = .ok (.getfield 15, 3) := zy_b13plan2_2.2.2.2.2.2.1
theorem dX5_dayDone_40 : decode cX5_dayDone 40 = .ok (.iload 5, 2) := zy_b13plan2_2.2.2.2.2.2.2.1
theorem dX5_dayDone_42 : decode cX5_dayDone 42 = .ok (.iaload, 1) := zy_b13plan2_2.2.2.2.2.2.2.2
theorem zy_b13plan2_3 : decode cX5_dayDone 43 = .ok (.iload_n 3, 1) ∧ decode cX5_dayDone 44 = .ok (.isub, 1) ∧ decode cX5_dayDone 45 = .ok (.imul, 1) ∧ decode cX5_dayDone 46 = .ok (.istore 6, 2) ∧ decode cX5_dayDone 48 = .ok (.iload 5, 2) ∧ decode cX5_dayDone 50 = .ok (.iload_n 2, 1) ∧ decode cX5_dayDone 51 = .ok (.if_icmp .le 13, 3) ∧ decode cX5_dayDone 54 = .ok (.iload 6, 2) := by decide +kernel
theorem dX5_dayDone_43 : decode cX5_dayDone 43 = .ok (.iload_n 3, 1) := zy_b13plan2_3.1
theorem dX5_dayDone_44 : decode cX5_dayDone 44 = .ok (.isub, 1) := zy_b13plan2_3.2.1
theorem dX5_dayDone_45 : decode cX5_dayDone 45 = .ok (.imul, 1) := zy_b13plan2_3.2.2.1
theorem dX5_dayDone_46 : decode cX5_dayDone 46 = .ok (.istore 6, 2) := zy_b13plan2_3.2.2.2.1
theorem dX5_dayDone_48 : decode cX5_dayDone 48 = .ok (.iload 5, 2) := zy_b13plan2_3.2.2.2.2.1
theorem dX5_dayDone_50 : decode cX5_dayDone 50 = .ok (.iload_n 2, 1) := zy_b13plan2_3.2.2.2.2.2.1
theorem dX5_dayDone_51 : decode cX5_dayDone 51 = .ok (.if_icmp .le 13, 3) := zy_b13plan2_3.2.2.2.2.2.2.1
theorem dX5_dayDone_54 : decode cX5_dayDone 54 = .ok (.iload 6, 2) := zy_b13plan2_3.2.2.2.2.2.2.2
theorem zy_b13plan2_4 : decode cX5_dayDone 56 = .ok (.iload 4, 2) ∧ decode cX5_dayDone 58 = .ok (.if_icmp .lt 6, 3) ∧ decode cX5_dayDone 61 = .ok (.goto 36, 3) ∧ decode cX5_dayDone 64 = .ok (.iconst 0, 1) ∧ decode cX5_dayDone 65 = .ok (.iload 4, 2) ∧ decode cX5_dayDone 67 = .ok (.iload 6, 2) ∧ decode cX5_dayDone 69 = .ok (.isub, 1) ∧ decode cX5_dayDone 70 = .ok (.invokestatic 43, 3) := by decide +kernel
theorem dX5_dayDone_56 : decode cX5_dayDone 56 = .ok (.iload 4, 2) := zy_b13plan2_4.1
theorem dX5_dayDone_58 : decode cX5_dayDone 58 = .ok (.if_icmp .lt 6, 3) := zy_b13plan2_4.2.1
theorem dX5_dayDone_61 : decode cX5_dayDone 61 = .ok (.goto 36, 3) := zy_b13plan2_4.2.2.1
theorem dX5_dayDone_64 : decode cX5_dayDone 64 = .ok (.iconst 0, 1) := zy_b13plan2_4.2.2.2.1
theorem dX5_dayDone_65 : decode cX5_dayDone 65 = .ok (.iload 4, 2) := zy_b13plan2_4.2.2.2.2.1
theorem dX5_dayDone_67 : decode cX5_dayDone 67 = .ok (.iload 6, 2) := zy_b13plan2_4.2.2.2.2.2.1
theorem dX5_dayDone_69 : decode cX5_dayDone 69 = .ok (.isub, 1) := zy_b13plan2_4.2.2.2.2.2.2.1
theorem dX5_dayDone_70 : decode cX5_dayDone 70 = .ok (.invokestatic 43, 3) := zy_b13plan2_4.2.2.2.2.2.2.2
theorem zy_b13plan2_5 : decode cX5_dayDone 73 = .ok (.aload_n 0, 1) ∧ decode cX5_dayDone 74 = .ok (.getfield 18, 3) ∧ decode cX5_dayDone 77 = .ok (.iload 5, 2) ∧ decode cX5_dayDone 79 = .ok (.iaload, 1) ∧ decode cX5_dayDone 80 = .ok (.iadd, 1) ∧ decode cX5_dayDone 81 = .ok (.istore 4, 2) ∧ decode cX5_dayDone 83 = .ok (.aload_n 0, 1) ∧ decode cX5_dayDone 84 = .ok (.getfield 15, 3) := by decide +kernel
theorem dX5_dayDone_73 : decode cX5_dayDone 73 = .ok (.aload_n 0, 1) := zy_b13plan2_5.1
theorem dX5_dayDone_74 : decode cX5_dayDone 74 = .ok (.getfield 18, 3) := zy_b13plan2_5.2.1
theorem dX5_dayDone_77 : decode cX5_dayDone 77 = .ok (.iload 5, 2) := zy_b13plan2_5.2.2.1
theorem dX5_dayDone_79 : decode cX5_dayDone 79 = .ok (.iaload, 1) := zy_b13plan2_5.2.2.2.1
theorem dX5_dayDone_80 : decode cX5_dayDone 80 = .ok (.iadd, 1) := zy_b13plan2_5.2.2.2.2.1
theorem dX5_dayDone_81 : decode cX5_dayDone 81 = .ok (.istore 4, 2) := zy_b13plan2_5.2.2.2.2.2.1
theorem dX5_dayDone_83 : decode cX5_dayDone 83 = .ok (.aload_n 0, 1) := zy_b13plan2_5.2.2.2.2.2.2.1
theorem dX5_dayDone_84 : decode cX5_dayDone 84 = .ok (.getfield 15, 3) := zy_b13plan2_5.2.2.2.2.2.2.2
theorem zy_b13plan2_6 : decode cX5_dayDone 87 = .ok (.iload 5, 2) ∧ decode cX5_dayDone 89 = .ok (.iaload, 1) ∧ decode cX5_dayDone 90 = .ok (.istore_n 3, 1) ∧ decode cX5_dayDone 91 = .ok (.iinc 5 1, 3) ∧ decode cX5_dayDone 94 = .ok (.goto (-83), 3) ∧ decode cX5_dayDone 97 = .ok (.aload_n 0, 1) ∧ decode cX5_dayDone 98 = .ok (.getfield 49, 3) ∧ decode cX5_dayDone 101 = .ok (.ifCond .le 17, 3) := by decide +kernel
theorem dX5_dayDone_87 : decode cX5_dayDone 87 = .ok (.iload 5, 2) := zy_b13plan2_6.1
theorem dX5_dayDone_89 : decode cX5_dayDone 89 = .ok (.iaload, 1) := zy_b13plan2_6.2.1
theorem dX5_dayDone_90 : decode cX5_dayDone 90 = .ok (.istore_n 3, 1) := zy_b13plan2_6.2.2.1
theorem dX5_dayDone_91 : decode cX5_dayDone 91 = .ok (.iinc 5 1, 3) := zy_b13plan2_6.2.2.2.1
theorem dX5_dayDone_94 : decode cX5_dayDone 94 = .ok (.goto (-83), 3) := zy_b13plan2_6.2.2.2.2.1
theorem dX5_dayDone_97 : decode cX5_dayDone 97 = .ok (.aload_n 0, 1) := zy_b13plan2_6.2.2.2.2.2.1
theorem dX5_dayDone_98 : decode cX5_dayDone 98 = .ok (.getfield 49, 3) := zy_b13plan2_6.2.2.2.2.2.2.1
theorem dX5_dayDone_101 : decode cX5_dayDone 101 = .ok (.ifCond .le 17, 3) := zy_b13plan2_6.2.2.2.2.2.2.2
theorem zy_b13plan2_7 : decode cX5_dayDone 104 = .ok (.iload_n 3, 1) ∧ decode cX5_dayDone 105 = .ok (.iload 4, 2) ∧ decode cX5_dayDone 107 = .ok (.iconst 1, 1) ∧ decode cX5_dayDone 108 = .ok (.isub, 1) ∧ decode cX5_dayDone 109 = .ok (.aload_n 0, 1) ∧ decode cX5_dayDone 110 = .ok (.getfield 49, 3) ∧ decode cX5_dayDone 113 = .ok (.idiv, 1) ∧ decode cX5_dayDone 114 = .ok (.iadd, 1) := by decide +kernel
theorem dX5_dayDone_104 : decode cX5_dayDone 104 = .ok (.iload_n 3, 1) := zy_b13plan2_7.1
theorem dX5_dayDone_105 : decode cX5_dayDone 105 = .ok (.iload 4, 2) := zy_b13plan2_7.2.1
theorem dX5_dayDone_107 : decode cX5_dayDone 107 = .ok (.iconst 1, 1) := zy_b13plan2_7.2.2.1
theorem dX5_dayDone_108 : decode cX5_dayDone 108 = .ok (.isub, 1) := zy_b13plan2_7.2.2.2.1
theorem dX5_dayDone_109 : decode cX5_dayDone 109 = .ok (.aload_n 0, 1) := zy_b13plan2_7.2.2.2.2.1
theorem dX5_dayDone_110 : decode cX5_dayDone 110 = .ok (.getfield 49, 3) := zy_b13plan2_7.2.2.2.2.2.1
theorem dX5_dayDone_113 : decode cX5_dayDone 113 = .ok (.idiv, 1) := zy_b13plan2_7.2.2.2.2.2.2.1
theorem dX5_dayDone_114 : decode cX5_dayDone 114 = .ok (.iadd, 1) := zy_b13plan2_7.2.2.2.2.2.2.2
theorem zy_b13plan2_8 : decode cX5_dayDone 115 = .ok (.goto 4, 3) ∧ decode cX5_dayDone 118 = .ok (.iload_n 3, 1) ∧ decode cX5_dayDone 119 = .ok (.ireturn, 1) := by decide +kernel
theorem dX5_dayDone_115 : decode cX5_dayDone 115 = .ok (.goto 4, 3) := zy_b13plan2_8.1
theorem dX5_dayDone_118 : decode cX5_dayDone 118 = .ok (.iload_n 3, 1) := zy_b13plan2_8.2.1
theorem dX5_dayDone_119 : decode cX5_dayDone 119 = .ok (.ireturn, 1) := zy_b13plan2_8.2.2
theorem zy_b13plan2_9 : decode cX5_chooseNext 0 = .ok (.iconst (-1), 1) ∧ decode cX5_chooseNext 1 = .ok (.istore_n 3, 1) ∧ decode cX5_chooseNext 2 = .ok (.iconst 0, 1) ∧ decode cX5_chooseNext 3 = .ok (.istore 4, 2) ∧ decode cX5_chooseNext 5 = .ok (.iconst 0, 1) ∧ decode cX5_chooseNext 6 = .ok (.istore 5, 2) ∧ decode cX5_chooseNext 8 = .ok (.iload 5, 2) ∧ decode cX5_chooseNext 10 = .ok (.aload_n 0, 1) := by decide +kernel
theorem dX5_chooseNext_0 : decode cX5_chooseNext 0 = .ok (.iconst (-1), 1) := zy_b13plan2_9.1
theorem dX5_chooseNext_1 : decode cX5_chooseNext 1 = .ok (.istore_n 3, 1) := zy_b13plan2_9.2.1
theorem dX5_chooseNext_2 : decode cX5_chooseNext 2 = .ok (.iconst 0, 1) := zy_b13plan2_9.2.2.1
theorem dX5_chooseNext_3 : decode cX5_chooseNext 3 = .ok (.istore 4, 2) := zy_b13plan2_9.2.2.2.1
theorem dX5_chooseNext_5 : decode cX5_chooseNext 5 = .ok (.iconst 0, 1) := zy_b13plan2_9.2.2.2.2.1
theorem dX5_chooseNext_6 : decode cX5_chooseNext 6 = .ok (.istore 5, 2) := zy_b13plan2_9.2.2.2.2.2.1
theorem dX5_chooseNext_8 : decode cX5_chooseNext 8 = .ok (.iload 5, 2) := zy_b13plan2_9.2.2.2.2.2.2.1
theorem dX5_chooseNext_10 : decode cX5_chooseNext 10 = .ok (.aload_n 0, 1) := zy_b13plan2_9.2.2.2.2.2.2.2
theorem zy_b13plan2_10 : decode cX5_chooseNext 11 = .ok (.getfield 36, 3) ∧ decode cX5_chooseNext 14 = .ok (.if_icmp .ge 117, 3) ∧ decode cX5_chooseNext 17 = .ok (.iload_n 1, 1) ∧ decode cX5_chooseNext 18 = .ok (.iconst 1, 1) ∧ decode cX5_chooseNext 19 = .ok (.iload 5, 2) ∧ decode cX5_chooseNext 21 = .ok (.ishl, 1) ∧ decode cX5_chooseNext 22 = .ok (.ior, 1) ∧ decode cX5_chooseNext 23 = .ok (.istore 6, 2) := by decide +kernel
theorem dX5_chooseNext_11 : decode cX5_chooseNext 11 = .ok (.getfield 36, 3) := zy_b13plan2_10.1
theorem dX5_chooseNext_14 : decode cX5_chooseNext 14 = .ok (.if_icmp .ge 117, 3) := zy_b13plan2_10.2.1
theorem dX5_chooseNext_17 : decode cX5_chooseNext 17 = .ok (.iload_n 1, 1) := zy_b13plan2_10.2.2.1
theorem dX5_chooseNext_18 : decode cX5_chooseNext 18 = .ok (.iconst 1, 1) := zy_b13plan2_10.2.2.2.1
theorem dX5_chooseNext_19 : decode cX5_chooseNext 19 = .ok (.iload 5, 2) := zy_b13plan2_10.2.2.2.2.1
theorem dX5_chooseNext_21 : decode cX5_chooseNext 21 = .ok (.ishl, 1) := zy_b13plan2_10.2.2.2.2.2.1
theorem dX5_chooseNext_22 : decode cX5_chooseNext 22 = .ok (.ior, 1) := zy_b13plan2_10.2.2.2.2.2.2.1
theorem dX5_chooseNext_23 : decode cX5_chooseNext 23 = .ok (.istore 6, 2) := zy_b13plan2_10.2.2.2.2.2.2.2
theorem zy_b13plan2_11 : decode cX5_chooseNext 25 = .ok (.iload 6, 2) ∧ decode cX5_chooseNext 27 = .ok (.iload_n 1, 1) ∧ decode cX5_chooseNext 28 = .ok (.if_icmp .ne 6, 3) ∧ decode cX5_chooseNext 31 = .ok (.goto 94, 3) ∧ decode cX5_chooseNext 34 = .ok (.aload_n 0, 1) ∧ decode cX5_chooseNext 35 = .ok (.iload 6, 2) ∧ decode cX5_chooseNext 37 = .ok (.iload 5, 2) ∧ decode cX5_chooseNext 39 = .ok (.invokevirtual 73, 3) := by decide +kernel
theorem dX5_chooseNext_25 : decode cX5_chooseNext 25 = .ok (.iload 6, 2) := zy_b13plan2_11.1
theorem dX5_chooseNext_27 : decode cX5_chooseNext 27 = .ok (.iload_n 1, 1) := zy_b13plan2_11.2.1
theorem dX5_chooseNext_28 : decode cX5_chooseNext 28 = .ok (.if_icmp .ne 6, 3) := zy_b13plan2_11.2.2.1
theorem dX5_chooseNext_31 : decode cX5_chooseNext 31 = .ok (.goto 94, 3) := zy_b13plan2_11.2.2.2.1
theorem dX5_chooseNext_34 : decode cX5_chooseNext 34 = .ok (.aload_n 0, 1) := zy_b13plan2_11.2.2.2.2.1
theorem dX5_chooseNext_35 : decode cX5_chooseNext 35 = .ok (.iload 6, 2) := zy_b13plan2_11.2.2.2.2.2.1
theorem dX5_chooseNext_37 : decode cX5_chooseNext 37 = .ok (.iload 5, 2) := zy_b13plan2_11.2.2.2.2.2.2.1
theorem dX5_chooseNext_39 : decode cX5_chooseNext 39 = .ok (.invokevirtual 73, 3) := zy_b13plan2_11.2.2.2.2.2.2.2
theorem zy_b13plan2_12 : decode cX5_chooseNext 42 = .ok (.aload_n 0, 1) ∧ decode cX5_chooseNext 43 = .ok (.getfield 21, 3) ∧ decode cX5_chooseNext 46 = .ok (.iload 5, 2) ∧ decode cX5_chooseNext 48 = .ok (.iaload, 1) ∧ decode cX5_chooseNext 49 = .ok (.isub, 1) ∧ decode cX5_chooseNext 50 = .ok (.istore 7, 2) ∧ decode cX5_chooseNext 52 = .ok (.aload_n 0, 1) ∧ decode cX5_chooseNext 53 = .ok (.getfield 24, 3) := by decide +kernel
theorem dX5_chooseNext_42 : decode cX5_chooseNext 42 = .ok (.aload_n 0, 1) := zy_b13plan2_12.1
theorem dX5_chooseNext_43 : decode cX5_chooseNext 43 = .ok (.getfield 21, 3) := zy_b13plan2_12.2.1
theorem dX5_chooseNext_46 : decode cX5_chooseNext 46 = .ok (.iload 5, 2) := zy_b13plan2_12.2.2.1
theorem dX5_chooseNext_48 : decode cX5_chooseNext 48 = .ok (.iaload, 1) := zy_b13plan2_12.2.2.2.1
theorem dX5_chooseNext_49 : decode cX5_chooseNext 49 = .ok (.isub, 1) := zy_b13plan2_12.2.2.2.2.1
theorem dX5_chooseNext_50 : decode cX5_chooseNext 50 = .ok (.istore 7, 2) := zy_b13plan2_12.2.2.2.2.2.1
theorem dX5_chooseNext_52 : decode cX5_chooseNext 52 = .ok (.aload_n 0, 1) := zy_b13plan2_12.2.2.2.2.2.2.1
theorem dX5_chooseNext_53 : decode cX5_chooseNext 53 = .ok (.getfield 24, 3) := zy_b13plan2_12.2.2.2.2.2.2.2
theorem zy_b13plan2_13 : decode cX5_chooseNext 56 = .ok (.iload 5, 2) ∧ decode cX5_chooseNext 58 = .ok (.iaload, 1) ∧ decode cX5_chooseNext 59 = .ok (.aload_n 0, 1) ∧ decode cX5_chooseNext 60 = .ok (.getfield 24, 3) ∧ decode cX5_chooseNext 63 = .ok (.iload 5, 2) ∧ decode cX5_chooseNext 65 = .ok (.iaload, 1) ∧ decode cX5_chooseNext 66 = .ok (.iload 7, 2) ∧ decode cX5_chooseNext 68 = .ok (.aload_n 2, 1) := by decide +kernel
theorem dX5_chooseNext_56 : decode cX5_chooseNext 56 = .ok (.iload 5, 2) := zy_b13plan2_13.1
theorem dX5_chooseNext_58 : decode cX5_chooseNext 58 = .ok (.iaload, 1) := zy_b13plan2_13.2.1
theorem dX5_chooseNext_59 : decode cX5_chooseNext 59 = .ok (.aload_n 0, 1) := zy_b13plan2_13.2.2.1
theorem dX5_chooseNext_60 : decode cX5_chooseNext 60 = .ok (.getfield 24, 3) := zy_b13plan2_13.2.2.2.1
theorem dX5_chooseNext_63 : decode cX5_chooseNext 63 = .ok (.iload 5, 2) := zy_b13plan2_13.2.2.2.2.1
theorem dX5_chooseNext_65 : decode cX5_chooseNext 65 = .ok (.iaload, 1) := zy_b13plan2_13.2.2.2.2.2.1
theorem dX5_chooseNext_66 : decode cX5_chooseNext 66 = .ok (.iload 7, 2) := zy_b13plan2_13.2.2.2.2.2.2.1
theorem dX5_chooseNext_68 : decode cX5_chooseNext 68 = .ok (.aload_n 2, 1) := zy_b13plan2_13.2.2.2.2.2.2.2
theorem zy_b13plan2_14 : decode cX5_chooseNext 69 = .ok (.invokestatic 76, 3) ∧ decode cX5_chooseNext 72 = .ok (.isub, 1) ∧ decode cX5_chooseNext 73 = .ok (.aload_n 0, 1) ∧ decode cX5_chooseNext 74 = .ok (.getfield 27, 3) ∧ decode cX5_chooseNext 77 = .ok (.iload 6, 2) ∧ decode cX5_chooseNext 79 = .ok (.iaload, 1) ∧ decode cX5_chooseNext 80 = .ok (.iadd, 1) ∧ decode cX5_chooseNext 81 = .ok (.istore 8, 2) := by decide +kernel
theorem dX5_chooseNext_69 : decode cX5_chooseNext 69 = .ok (.invokestatic 76, 3) := zy_b13plan2_14.1
theorem dX5_chooseNext_72 : decode cX5_chooseNext 72 = .ok (.isub, 1) := zy_b13plan2_14.2.1
theorem dX5_chooseNext_73 : decode cX5_chooseNext 73 = .ok (.aload_n 0, 1) := zy_b13plan2_14.2.2.1
theorem dX5_chooseNext_74 : decode cX5_chooseNext 74 = .ok (.getfield 27, 3) := zy_b13plan2_14.2.2.2.1
theorem dX5_chooseNext_77 : decode cX5_chooseNext 77 = .ok (.iload 6, 2) := zy_b13plan2_14.2.2.2.2.1
theorem dX5_chooseNext_79 : decode cX5_chooseNext 79 = .ok (.iaload, 1) := zy_b13plan2_14.2.2.2.2.2.1
theorem dX5_chooseNext_80 : decode cX5_chooseNext 80 = .ok (.iadd, 1) := zy_b13plan2_14.2.2.2.2.2.2.1
theorem dX5_chooseNext_81 : decode cX5_chooseNext 81 = .ok (.istore 8, 2) := zy_b13plan2_14.2.2.2.2.2.2.2
theorem zy_b13plan2_15 : decode cX5_chooseNext 83 = .ok (.iload_n 3, 1) ∧ decode cX5_chooseNext 84 = .ok (.iconst (-1), 1) ∧ decode cX5_chooseNext 85 = .ok (.if_icmp .eq 33, 3) ∧ decode cX5_chooseNext 88 = .ok (.iload 8, 2) ∧ decode cX5_chooseNext 90 = .ok (.iload 4, 2) ∧ decode cX5_chooseNext 92 = .ok (.if_icmp .lt 26, 3) ∧ decode cX5_chooseNext 95 = .ok (.iload 8, 2) ∧ decode cX5_chooseNext 97 = .ok (.iload 4, 2) := by decide +kernel
theorem dX5_chooseNext_83 : decode cX5_chooseNext 83 = .ok (.iload_n 3, 1) := zy_b13plan2_15.1
theorem dX5_chooseNext_84 : decode cX5_chooseNext 84 = .ok (.iconst (-1), 1) := zy_b13plan2_15.2.1
theorem dX5_chooseNext_85 : decode cX5_chooseNext 85 = .ok (.if_icmp .eq 33, 3) := zy_b13plan2_15.2.2.1
theorem dX5_chooseNext_88 : decode cX5_chooseNext 88 = .ok (.iload 8, 2) := zy_b13plan2_15.2.2.2.1
theorem dX5_chooseNext_90 : decode cX5_chooseNext 90 = .ok (.iload 4, 2) := zy_b13plan2_15.2.2.2.2.1
theorem dX5_chooseNext_92 : decode cX5_chooseNext 92 = .ok (.if_icmp .lt 26, 3) := zy_b13plan2_15.2.2.2.2.2.1
theorem dX5_chooseNext_95 : decode cX5_chooseNext 95 = .ok (.iload 8, 2) := zy_b13plan2_15.2.2.2.2.2.2.1
theorem dX5_chooseNext_97 : decode cX5_chooseNext 97 = .ok (.iload 4, 2) := zy_b13plan2_15.2.2.2.2.2.2.2
theorem zy_b13plan2_16 : decode cX5_chooseNext 99 = .ok (.if_icmp .ne 26, 3) ∧ decode cX5_chooseNext 102 = .ok (.aload_n 0, 1) ∧ decode cX5_chooseNext 103 = .ok (.getfield 9, 3) ∧ decode cX5_chooseNext 106 = .ok (.iload 5, 2) ∧ decode cX5_chooseNext 108 = .ok (.iaload, 1) ∧ decode cX5_chooseNext 109 = .ok (.aload_n 0, 1) ∧ decode cX5_chooseNext 110 = .ok (.getfield 9, 3) ∧ decode cX5_chooseNext 113 = .ok (.iload_n 3, 1) := by decide +kernel
theorem dX5_chooseNext_99 : decode cX5_chooseNext 99 = .ok (.if_icmp .ne 26, 3) := zy_b13plan2_16.1
theorem dX5_chooseNext_102 : decode cX5_chooseNext 102 = .ok (.aload_n 0, 1) := zy_b13plan2_16.2.1
theorem dX5_chooseNext_103 : decode cX5_chooseNext 103 = .ok (.getfield 9, 3) := zy_b13plan2_16.2.2.1
theorem dX5_chooseNext_106 : decode cX5_chooseNext 106 = .ok (.iload 5, 2) := zy_b13plan2_16.2.2.2.1
theorem dX5_chooseNext_108 : decode cX5_chooseNext 108 = .ok (.iaload, 1) := zy_b13plan2_16.2.2.2.2.1
theorem dX5_chooseNext_109 : decode cX5_chooseNext 109 = .ok (.aload_n 0, 1) := zy_b13plan2_16.2.2.2.2.2.1
theorem dX5_chooseNext_110 : decode cX5_chooseNext 110 = .ok (.getfield 9, 3) := zy_b13plan2_16.2.2.2.2.2.2.1
theorem dX5_chooseNext_113 : decode cX5_chooseNext 113 = .ok (.iload_n 3, 1) := zy_b13plan2_16.2.2.2.2.2.2.2
theorem zy_b13plan2_17 : decode cX5_chooseNext 114 = .ok (.iaload, 1) ∧ decode cX5_chooseNext 115 = .ok (.if_icmp .ge 10, 3) ∧ decode cX5_chooseNext 118 = .ok (.iload 5, 2) ∧ decode cX5_chooseNext 120 = .ok (.istore_n 3, 1) ∧ decode cX5_chooseNext 121 = .ok (.iload 8, 2) ∧ decode cX5_chooseNext 123 = .ok (.istore 4, 2) ∧ decode cX5_chooseNext 125 = .ok (.iinc 5 1, 3) ∧ decode cX5_chooseNext 128 = .ok (.goto (-120), 3) := by decide +kernel
theorem dX5_chooseNext_114 : decode cX5_chooseNext 114 = .ok (.iaload, 1) := zy_b13plan2_17.1
theorem dX5_chooseNext_115 : decode cX5_chooseNext 115 = .ok (.if_icmp .ge 10, 3) := zy_b13plan2_17.2.1
theorem dX5_chooseNext_118 : decode cX5_chooseNext 118 = .ok (.iload 5, 2) := zy_b13plan2_17.2.2.1
theorem dX5_chooseNext_120 : decode cX5_chooseNext 120 = .ok (.istore_n 3, 1) := zy_b13plan2_17.2.2.2.1
theorem dX5_chooseNext_121 : decode cX5_chooseNext 121 = .ok (.iload 8, 2) := zy_b13plan2_17.2.2.2.2.1
theorem dX5_chooseNext_123 : decode cX5_chooseNext 123 = .ok (.istore 4, 2) := zy_b13plan2_17.2.2.2.2.2.1
theorem dX5_chooseNext_125 : decode cX5_chooseNext 125 = .ok (.iinc 5 1, 3) := zy_b13plan2_17.2.2.2.2.2.2.1
theorem dX5_chooseNext_128 : decode cX5_chooseNext 128 = .ok (.goto (-120), 3) := zy_b13plan2_17.2.2.2.2.2.2.2
theorem zy_b13plan2_18 : decode cX5_chooseNext 131 = .ok (.aload_n 0, 1) ∧ decode cX5_chooseNext 132 = .ok (.getfield 27, 3) ∧ decode cX5_chooseNext 135 = .ok (.iload_n 1, 1) ∧ decode cX5_chooseNext 136 = .ok (.iload 4, 2) ∧ decode cX5_chooseNext 138 = .ok (.iastore, 1) ∧ decode cX5_chooseNext 139 = .ok (.aload_n 0, 1) ∧ decode cX5_chooseNext 140 = .ok (.getfield 30, 3) ∧ decode cX5_chooseNext 143 = .ok (.iload_n 1, 1) := by decide +kernel
theorem dX5_chooseNext_131 : decode cX5_chooseNext 131 = .ok (.aload_n 0, 1) := zy_b13plan2_18.1
theorem dX5_chooseNext_132 : decode cX5_chooseNext 132 = .ok (.getfield 27, 3) := zy_b13plan2_18.2.1
theorem dX5_chooseNext_135 : decode cX5_chooseNext 135 = .ok (.iload_n 1, 1) := zy_b13plan2_18.2.2.1
theorem dX5_chooseNext_136 : decode cX5_chooseNext 136 = .ok (.iload 4, 2) := zy_b13plan2_18.2.2.2.1
theorem dX5_chooseNext_138 : decode cX5_chooseNext 138 = .ok (.iastore, 1) := zy_b13plan2_18.2.2.2.2.1
theorem dX5_chooseNext_139 : decode cX5_chooseNext 139 = .ok (.aload_n 0, 1) := zy_b13plan2_18.2.2.2.2.2.1
theorem dX5_chooseNext_140 : decode cX5_chooseNext 140 = .ok (.getfield 30, 3) := zy_b13plan2_18.2.2.2.2.2.2.1
theorem dX5_chooseNext_143 : decode cX5_chooseNext 143 = .ok (.iload_n 1, 1) := zy_b13plan2_18.2.2.2.2.2.2.2
theorem zy_b13plan2_19 : decode cX5_chooseNext 144 = .ok (.iconst 0, 1) ∧ decode cX5_chooseNext 145 = .ok (.iload_n 3, 1) ∧ decode cX5_chooseNext 146 = .ok (.invokestatic 43, 3) ∧ decode cX5_chooseNext 149 = .ok (.iastore, 1) ∧ decode cX5_chooseNext 150 = .ok (.return_, 1) := by decide +kernel
theorem dX5_chooseNext_144 : decode cX5_chooseNext 144 = .ok (.iconst 0, 1) := zy_b13plan2_19.1
theorem dX5_chooseNext_145 : decode cX5_chooseNext 145 = .ok (.iload_n 3, 1) := zy_b13plan2_19.2.1
theorem dX5_chooseNext_146 : decode cX5_chooseNext 146 = .ok (.invokestatic 43, 3) := zy_b13plan2_19.2.2.1
theorem dX5_chooseNext_149 : decode cX5_chooseNext 149 = .ok (.iastore, 1) := zy_b13plan2_19.2.2.2.1
theorem dX5_chooseNext_150 : decode cX5_chooseNext 150 = .ok (.return_, 1) := zy_b13plan2_19.2.2.2.2
theorem zy_b13plan2_20 : decode cX5_choose 0 = .ok (.iconst 1, 1) ∧ decode cX5_choose 1 = .ok (.aload_n 0, 1) ∧ decode cX5_choose 2 = .ok (.getfield 36, 3) ∧ decode cX5_choose 5 = .ok (.ishl, 1) ∧ decode cX5_choose 6 = .ok (.iconst 1, 1) ∧ decode cX5_choose 7 = .ok (.isub, 1) ∧ decode cX5_choose 8 = .ok (.istore_n 2, 1) ∧ decode cX5_choose 9 = .ok (.aload_n 0, 1) := by decide +kernel
theorem dX5_choose_0 : decode cX5_choose 0 = .ok (.iconst 1, 1) := zy_b13plan2_20.1
theorem dX5_choose_1 : decode cX5_choose 1 = .ok (.aload_n 0, 1) := zy_b13plan2_20.2.1
theorem dX5_choose_2 : decode cX5_choose 2 = .ok (.getfield 36, 3) := zy_b13plan2_20.2.2.1
theorem dX5_choose_5 : decode cX5_choose 5 = .ok (.ishl, 1) := zy_b13plan2_20.2.2.2.1
theorem dX5_choose_6 : decode cX5_choose 6 = .ok (.iconst 1, 1) := zy_b13plan2_20.2.2.2.2.1
theorem dX5_choose_7 : decode cX5_choose 7 = .ok (.isub, 1) := zy_b13plan2_20.2.2.2.2.2.1
theorem dX5_choose_8 : decode cX5_choose 8 = .ok (.istore_n 2, 1) := zy_b13plan2_20.2.2.2.2.2.2.1
theorem dX5_choose_9 : decode cX5_choose 9 = .ok (.aload_n 0, 1) := zy_b13plan2_20.2.2.2.2.2.2.2
theorem zy_b13plan2_21 : decode cX5_choose 10 = .ok (.getfield 27, 3) ∧ decode cX5_choose 13 = .ok (.iload_n 2, 1) ∧ decode cX5_choose 14 = .ok (.iconst 0, 1) ∧ decode cX5_choose 15 = .ok (.iastore, 1) ∧ decode cX5_choose 16 = .ok (.iload_n 2, 1) ∧ decode cX5_choose 17 = .ok (.iconst 1, 1) ∧ decode cX5_choose 18 = .ok (.isub, 1) ∧ decode cX5_choose 19 = .ok (.istore_n 3, 1) := by decide +kernel
theorem dX5_choose_10 : decode cX5_choose 10 = .ok (.getfield 27, 3) := zy_b13plan2_21.1
theorem dX5_choose_13 : decode cX5_choose 13 = .ok (.iload_n 2, 1) := zy_b13plan2_21.2.1
theorem dX5_choose_14 : decode cX5_choose 14 = .ok (.iconst 0, 1) := zy_b13plan2_21.2.2.1
theorem dX5_choose_15 : decode cX5_choose 15 = .ok (.iastore, 1) := zy_b13plan2_21.2.2.2.1
theorem dX5_choose_16 : decode cX5_choose 16 = .ok (.iload_n 2, 1) := zy_b13plan2_21.2.2.2.2.1
theorem dX5_choose_17 : decode cX5_choose 17 = .ok (.iconst 1, 1) := zy_b13plan2_21.2.2.2.2.2.1
theorem dX5_choose_18 : decode cX5_choose 18 = .ok (.isub, 1) := zy_b13plan2_21.2.2.2.2.2.2.1
theorem dX5_choose_19 : decode cX5_choose 19 = .ok (.istore_n 3, 1) := zy_b13plan2_21.2.2.2.2.2.2.2
theorem zy_b13plan2_22 : decode cX5_choose 20 = .ok (.iload_n 3, 1) ∧ decode cX5_choose 21 = .ok (.ifCond .lt 15, 3) ∧ decode cX5_choose 24 = .ok (.aload_n 0, 1) ∧ decode cX5_choose 25 = .ok (.iload_n 3, 1) ∧ decode cX5_choose 26 = .ok (.aload_n 1, 1) ∧ decode cX5_choose 27 = .ok (.invokevirtual 66, 3) ∧ decode cX5_choose 30 = .ok (.iinc 3 (-1), 3) ∧ decode cX5_choose 33 = .ok (.goto (-13), 3) := by decide +kernel
theorem dX5_choose_20 : decode cX5_choose 20 = .ok (.iload_n 3, 1) := zy_b13plan2_22.1
theorem dX5_choose_21 : decode cX5_choose 21 = .ok (.ifCond .lt 15, 3) := zy_b13plan2_22.2.1
theorem dX5_choose_24 : decode cX5_choose 24 = .ok (.aload_n 0, 1) := zy_b13plan2_22.2.2.1
theorem dX5_choose_25 : decode cX5_choose 25 = .ok (.iload_n 3, 1) := zy_b13plan2_22.2.2.2.1
theorem dX5_choose_26 : decode cX5_choose 26 = .ok (.aload_n 1, 1) := zy_b13plan2_22.2.2.2.2.1
theorem dX5_choose_27 : decode cX5_choose 27 = .ok (.invokevirtual 66, 3) := zy_b13plan2_22.2.2.2.2.2.1
theorem dX5_choose_30 : decode cX5_choose 30 = .ok (.iinc 3 (-1), 3) := zy_b13plan2_22.2.2.2.2.2.2.1
theorem dX5_choose_33 : decode cX5_choose 33 = .ok (.goto (-13), 3) := zy_b13plan2_22.2.2.2.2.2.2.2
theorem zy_b13plan2_23 : decode cX5_choose 36 = .ok (.aload_n 0, 1) ∧ decode cX5_choose 37 = .ok (.aload_n 0, 1) ∧ decode cX5_choose 38 = .ok (.getfield 36, 3) ∧ decode cX5_choose 41 = .ok (.putfield 70, 3) ∧ decode cX5_choose 44 = .ok (.iconst 0, 1) ∧ decode cX5_choose 45 = .ok (.istore_n 3, 1) ∧ decode cX5_choose 46 = .ok (.iconst 0, 1) ∧ decode cX5_choose 47 = .ok (.istore 4, 2) := by decide +kernel
theorem dX5_choose_36 : decode cX5_choose 36 = .ok (.aload_n 0, 1) := zy_b13plan2_23.1
theorem dX5_choose_37 : decode cX5_choose 37 = .ok (.aload_n 0, 1) := zy_b13plan2_23.2.1
theorem dX5_choose_38 : decode cX5_choose 38 = .ok (.getfield 36, 3) := zy_b13plan2_23.2.2.1
theorem dX5_choose_41 : decode cX5_choose 41 = .ok (.putfield 70, 3) := zy_b13plan2_23.2.2.2.1
theorem dX5_choose_44 : decode cX5_choose 44 = .ok (.iconst 0, 1) := zy_b13plan2_23.2.2.2.2.1
theorem dX5_choose_45 : decode cX5_choose 45 = .ok (.istore_n 3, 1) := zy_b13plan2_23.2.2.2.2.2.1
theorem dX5_choose_46 : decode cX5_choose 46 = .ok (.iconst 0, 1) := zy_b13plan2_23.2.2.2.2.2.2.1
theorem dX5_choose_47 : decode cX5_choose 47 = .ok (.istore 4, 2) := zy_b13plan2_23.2.2.2.2.2.2.2
theorem zy_b13plan2_24 : decode cX5_choose 49 = .ok (.iload 4, 2) ∧ decode cX5_choose 51 = .ok (.aload_n 0, 1) ∧ decode cX5_choose 52 = .ok (.getfield 36, 3) ∧ decode cX5_choose 55 = .ok (.if_icmp .ge 38, 3) ∧ decode cX5_choose 58 = .ok (.aload_n 0, 1) ∧ decode cX5_choose 59 = .ok (.getfield 30, 3) ∧ decode cX5_choose 62 = .ok (.iload_n 3, 1) ∧ decode cX5_choose 63 = .ok (.iaload, 1) := by decide +kernel
theorem dX5_choose_49 : decode cX5_choose 49 = .ok (.iload 4, 2) := zy_b13plan2_24.1
theorem dX5_choose_51 : decode cX5_choose 51 = .ok (.aload_n 0, 1) := zy_b13plan2_24.2.1
theorem dX5_choose_52 : decode cX5_choose 52 = .ok (.getfield 36, 3) := zy_b13plan2_24.2.2.1
theorem dX5_choose_55 : decode cX5_choose 55 = .ok (.if_icmp .ge 38, 3) := zy_b13plan2_24.2.2.2.1
theorem dX5_choose_58 : decode cX5_choose 58 = .ok (.aload_n 0, 1) := zy_b13plan2_24.2.2.2.2.1
theorem dX5_choose_59 : decode cX5_choose 59 = .ok (.getfield 30, 3) := zy_b13plan2_24.2.2.2.2.2.1
theorem dX5_choose_62 : decode cX5_choose 62 = .ok (.iload_n 3, 1) := zy_b13plan2_24.2.2.2.2.2.2.1
theorem dX5_choose_63 : decode cX5_choose 63 = .ok (.iaload, 1) := zy_b13plan2_24.2.2.2.2.2.2.2
theorem zy_b13plan2_25 : decode cX5_choose 64 = .ok (.istore 5, 2) ∧ decode cX5_choose 66 = .ok (.aload_n 0, 1) ∧ decode cX5_choose 67 = .ok (.getfield 33, 3) ∧ decode cX5_choose 70 = .ok (.iload 4, 2) ∧ decode cX5_choose 72 = .ok (.aload_n 0, 1) ∧ decode cX5_choose 73 = .ok (.getfield 9, 3) ∧ decode cX5_choose 76 = .ok (.iload 5, 2) ∧ decode cX5_choose 78 = .ok (.iaload, 1) := by decide +kernel
theorem dX5_choose_64 : decode cX5_choose 64 = .ok (.istore 5, 2) := zy_b13plan2_25.1
theorem dX5_choose_66 : decode cX5_choose 66 = .ok (.aload_n 0, 1) := zy_b13plan2_25.2.1
theorem dX5_choose_67 : decode cX5_choose 67 = .ok (.getfield 33, 3) := zy_b13plan2_25.2.2.1
theorem dX5_choose_70 : decode cX5_choose 70 = .ok (.iload 4, 2) := zy_b13plan2_25.2.2.2.1
theorem dX5_choose_72 : decode cX5_choose 72 = .ok (.aload_n 0, 1) := zy_b13plan2_25.2.2.2.2.1
theorem dX5_choose_73 : decode cX5_choose 73 = .ok (.getfield 9, 3) := zy_b13plan2_25.2.2.2.2.2.1
theorem dX5_choose_76 : decode cX5_choose 76 = .ok (.iload 5, 2) := zy_b13plan2_25.2.2.2.2.2.2.1
theorem dX5_choose_78 : decode cX5_choose 78 = .ok (.iaload, 1) := zy_b13plan2_25.2.2.2.2.2.2.2
theorem zy_b13plan2_26 : decode cX5_choose 79 = .ok (.iastore, 1) ∧ decode cX5_choose 80 = .ok (.iload_n 3, 1) ∧ decode cX5_choose 81 = .ok (.iconst 1, 1) ∧ decode cX5_choose 82 = .ok (.iload 5, 2) ∧ decode cX5_choose 84 = .ok (.ishl, 1) ∧ decode cX5_choose 85 = .ok (.ior, 1) ∧ decode cX5_choose 86 = .ok (.istore_n 3, 1) ∧ decode cX5_choose 87 = .ok (.iinc 4 1, 3) := by decide +kernel
theorem dX5_choose_79 : decode cX5_choose 79 = .ok (.iastore, 1) := zy_b13plan2_26.1
theorem dX5_choose_80 : decode cX5_choose 80 = .ok (.iload_n 3, 1) := zy_b13plan2_26.2.1
theorem dX5_choose_81 : decode cX5_choose 81 = .ok (.iconst 1, 1) := zy_b13plan2_26.2.2.1
theorem dX5_choose_82 : decode cX5_choose 82 = .ok (.iload 5, 2) := zy_b13plan2_26.2.2.2.1
theorem dX5_choose_84 : decode cX5_choose 84 = .ok (.ishl, 1) := zy_b13plan2_26.2.2.2.2.1
theorem dX5_choose_85 : decode cX5_choose 85 = .ok (.ior, 1) := zy_b13plan2_26.2.2.2.2.2.1
theorem dX5_choose_86 : decode cX5_choose 86 = .ok (.istore_n 3, 1) := zy_b13plan2_26.2.2.2.2.2.2.1
theorem dX5_choose_87 : decode cX5_choose 87 = .ok (.iinc 4 1, 3) := zy_b13plan2_26.2.2.2.2.2.2.2
theorem zy_b13plan2_27 : decode cX5_choose 90 = .ok (.goto (-41), 3) ∧ decode cX5_choose 93 = .ok (.aload_n 0, 1) ∧ decode cX5_choose 94 = .ok (.getfield 27, 3) ∧ decode cX5_choose 97 = .ok (.iconst 0, 1) ∧ decode cX5_choose 98 = .ok (.iaload, 1) ∧ decode cX5_choose 99 = .ok (.ireturn, 1) := by decide +kernel
theorem dX5_choose_90 : decode cX5_choose 90 = .ok (.goto (-41), 3) := zy_b13plan2_27.1
theorem dX5_choose_93 : decode cX5_choose 93 = .ok (.aload_n 0, 1) := zy_b13plan2_27.2.1
theorem dX5_choose_94 : decode cX5_choose 94 = .ok (.getfield 27, 3) := zy_b13plan2_27.2.2.1
theorem dX5_choose_97 : decode cX5_choose 97 = .ok (.iconst 0, 1) := zy_b13plan2_27.2.2.2.1
theorem dX5_choose_98 : decode cX5_choose 98 = .ok (.iaload, 1) := zy_b13plan2_27.2.2.2.2.1
theorem dX5_choose_99 : decode cX5_choose 99 = .ok (.ireturn, 1) := zy_b13plan2_27.2.2.2.2.2
set_option maxHeartbeats 4000000 in
set_option maxRecDepth 100000 in
theorem k_dayDone (l : Launch) (dC : Nat → ClassId) (dI : Nat → Nat → Nat) (a : Nat → Nat) (cI : ClassId) (np : Nat) (cc : Nat) (td : Int32) (hd : Int32) (q1 : Nat → Int32) (q2 : Nat → Int32) (ns : Nat) (nl : Nat) (sz : Nat) (hnp : np ≤ 7) (hns : ns < 128) (hnl : nl < 7) : Met l yX5_dayDone (zz_w yX5_dayDone cX5_dayDone 7 (some .int)) ({ frames := 1, cells := 0, slots := 0, locals := 13 }) (va_Pc [.ref (a 43), .int (nI ns), .int (nI nl)] (zz_B (dC, dI) sz [(a 43, .inr (5, [.ref (a 44), .ref (a 45), .ref (a 46), .ref (a 47), .ref (a 48), .ref (a 49), .ref (a 50), .ref (a 51), .int (nI cc), .int (nI np), .int td, .int hd])), (a 45, .inl (cI, 7, .inl q1)), (a 46, .inl (cI, 7, .inl q2))] [(cI, .int)])) (va_Qi (fun (_ : Int32) (_ : Unit) => True) (fun _ _ => True) (va_A [] sz)) 0 0 (va_A [] sz) := by
  refine Met.ofW (cc := cX5_dayDone) (maxL := 7) (ret := (some .int)) (by decide) rfl ?_
  intro p e s m args below meth c s₁ B hml hv
  obtain ⟨rfl, hsz, hP, hK, hD0, hN⟩ := hv
  have hx := B.exec
  have hb := B.bytes
  have hr := B.returns
  have hts := atoms_spec (ws := zz_w yX5_dayDone cX5_dayDone 7 (some .int)) B.pre
  have hw : ∀ w ∈ zz_all, w.before _ s = true := fun w h => hts w (List.mem_cons_of_mem _ h)
  have hown : s.vm.findClass RX5 = some m.cls := findClass_of_methodNamed B.named
  have hlocks := B.notSynchronized
  subst hsz
  have hD := hD0
  generalize hAe : va_A [] s.heap.size = A
  have hA : ∀ q : Nat, s.heap.size ≤ q → A q := fun q h => by rw [← hAe]; exact Or.inr h
  have hS : va_S A s.heap s.heap [] := va_S.rf
  have hP : va_P (dC, dI) vwCl [(a 43, .inr (5, [.ref (a 44), .ref (a 45), .ref (a 46), .ref (a 47), .ref (a 48), .ref (a 49), .ref (a 50), .ref (a 51), .int (nI cc), .int (nI np), .int td, .int hd])), (a 45, .inl (cI, 7, .inl q1)), (a 46, .inl (cI, 7, .inl q2))] s.heap := hP
  have hl := lv_entry ([.ref (a 43), .int (nI ns), .int (nI nl)]) (n := 7) (Nat.le_of_ble_eq_true rfl)
  rw [lg_entry_eq]
  generalize (lg_sl ([.ref (a 43), .int (nI ns), .int (nI nl)]) ++ List.replicate (7 - (lg_sl ([.ref (a 43), .int (nI ns), .int (nI nl)])).length) Slot.unset).toArray = ls at hl ⊢
  have hl : lv_has ls 7 [(0, .ref (a 43)), (1, .int (nI ns)), (2, .int (nI nl))] := hl
  refine lv_aload_n hx hb dX5_dayDone_0 rfl (lv_at hl 0 rfl) ?_
  refine va_get (D := (dC, dI)) (ci := 5) (v := .int td) (C := RX5) (T := TX5) (N := 12) hx hb hw zz_inX5 hown hK hP 0 rfl rfl 10 (by decide) (hw _ tw_143) (fun _ h9 => h9) rfl dX5_dayDone_1 ?_
  refine lv_istore_n (lv' := [(3, .int td), (0, .ref (a 43)), (1, .int (nI ns)), (2, .int (nI nl))]) hx hb dX5_dayDone_4 rfl hl (by decide) rfl (fun ls hl => ?_)
  refine lv_iconst (v := 0) hx hb dX5_dayDone_5 (by decide) ?_
  refine lv_istore (lv' := [(4, .int 0), (3, .int td), (0, .ref (a 43)), (1, .int (nI ns)), (2, .int (nI nl))]) hx hb dX5_dayDone_6 hl (by decide) rfl (fun ls hl => ?_)
  refine lv_iconst (v := 0) hx hb dX5_dayDone_8 (by decide) ?_
  refine lv_istore (lv' := [(5, .int 0), (4, .int 0), (3, .int td), (0, .ref (a 43)), (1, .int (nI ns)), (2, .int (nI nl))]) hx hb dX5_dayDone_9 hl (by decide) rfl (fun ls hl => ?_)
  refine zz_loopS (fun (u : (Nat) × (Int32) × (Int32)) => match u with | (k, dy, ud) => [(a 43, .inr (5, [.ref (a 44), .ref (a 45), .ref (a 46), .ref (a 47), .ref (a 48), .ref (a 49), .ref (a 50), .ref (a 51), .int (nI cc), .int (nI np), .int td, .int hd])), (a 45, .inl (cI, 7, .inl q1)), (a 46, .inl (cI, 7, .inl q2))]) (fun (u : (Nat) × (Int32) × (Int32)) => match u with | (k, dy, ud) => [(0, .ref (a 43)), (1, .int (nI ns)), (2, .int (nI nl)), (3, .int dy), (4, .int ud), (5, .int (nI k))]) (fun (u : (Nat) × (Int32) × (Int32)) => match u with | (k, dy, ud) => k ≤ np) (fun (u : (Nat) × (Int32) × (Int32)) => match u with | (k, dy, ud) => np - k) (fun u hI H locs ls hP hD hS hl ih_11 => ?_) (0, td, 0) (show 0 ≤ np from by omega) _ _ _ (hP.sub [0, 1, 2] rfl) (hD.sub [0, 1, 2] (by decide) rfl) hS (lv_sub hl [3, 4, 5, 2, 1, 0] rfl)
  obtain ⟨k, dy, ud⟩ := u
  obtain ⟨hP, hD⟩ := zz_ty (D := (dC, dI)) (cl := vwCl) (A := (fun _ => True)) (H := H) [(a 43, .inr (5, [.ref (a 44), .ref (a 45), .ref (a 46), .ref (a 47), .ref (a 48), .ref (a 49), .ref (a 50), .ref (a 51), .int (nI cc), .int (nI np), .int td, .int hd])), (a 45, .inl (cI, 7, .inl q1)), (a 46, .inl (cI, 7, .inl q2))] hP hD rfl
  have hl : lv_has ls 7 [(0, .ref (a 43)), (1, .int (nI ns)), (2, .int (nI nl)), (3, .int dy), (4, .int ud), (5, .int (nI k))] := hl
  have hI : k ≤ np := hI
  have ik := hI
  refine lv_iload hx hb dX5_dayDone_11 (lv_at hl 5 rfl) ?_
  refine lv_aload_n hx hb dX5_dayDone_13 rfl (lv_at hl 0 rfl) ?_
  refine va_get (D := (dC, dI)) (ci := 5) (v := .int (nI np)) (C := RX5) (T := TX5) (N := 12) hx hb hw zz_inX5 hown hK hP 0 rfl rfl 9 (by decide) (hw _ tw_142) (fun _ h9 => h9) rfl dX5_dayDone_14 ?_
  refine lv_icmp_ge (tgt := 97) hx hb dX5_dayDone_17 (by decide) (fun c_1 => ?_) (fun c_1 => ?_)
  · have zc_1 := c_1
    rw [Int32.le_iff_toInt_le] at zc_1
    try rw [zz_toInt k (by omega)] at zc_1
    try rw [zz_toInt np (by omega)] at zc_1
    refine lv_aload_n hx hb dX5_dayDone_97 rfl (lv_at hl 0 rfl) ?_
    refine va_get (D := (dC, dI)) (ci := 5) (v := .int hd) (C := RX5) (T := TX5) (N := 12) hx hb hw zz_inX5 hown hK hP 0 rfl rfl 11 (by decide) (hw _ tw_145) (fun _ h9 => h9) rfl dX5_dayDone_98 ?_
    refine lv_if_le (tgt := 118) hx hb dX5_dayDone_101 (by decide) (fun c_2 => ?_) (fun c_2 => ?_)
    · have zc_2 := c_2
      rw [Int32.le_iff_toInt_le] at zc_2
      try rw [show (0 : Int32).toInt = 0 from by decide] at zc_2
      refine lv_iload_n hx hb dX5_dayDone_118 rfl (lv_at hl 3 rfl) ?_
      exact W.iret (v := dy) hx hb hr (fun t ht hW => ⟨⟨dy, (), rfl, trivial, trivial⟩, hS.F ht⟩) hS.2.2 dX5_dayDone_119
    · have zc_2 := c_2
      rw [Int32.le_iff_toInt_le] at zc_2
      try rw [show (0 : Int32).toInt = 0 from by decide] at zc_2
      refine lv_iload_n hx hb dX5_dayDone_104 rfl (lv_at hl 3 rfl) ?_
      refine lv_iload hx hb dX5_dayDone_105 (lv_at hl 4 rfl) ?_
      refine lv_iconst (v := 1) hx hb dX5_dayDone_107 (by decide) ?_
      refine lv_isub hx hb dX5_dayDone_108 ?_
      refine lv_aload_n hx hb dX5_dayDone_109 rfl (lv_at hl 0 rfl) ?_
      refine va_get (D := (dC, dI)) (ci := 5) (v := .int hd) (C := RX5) (T := TX5) (N := 12) hx hb hw zz_inX5 hown hK hP 0 rfl rfl 11 (by decide) (hw _ tw_145) (fun _ h9 => h9) rfl dX5_dayDone_110 ?_
      refine lv_idiv hx hb dX5_dayDone_113 (fun h9 => absurd (congrArg Int32.toInt h9) (by rw [show (0 : Int32).toInt = 0 from by decide]; omega)) ?_
      refine lv_iadd hx hb dX5_dayDone_114 ?_
      refine lv_goto (tgt := 119) hx hb dX5_dayDone_115 (by decide) ?_
      exact W.iret (v := (dy + ((ud - 1) / hd))) hx hb hr (fun t ht hW => ⟨⟨(dy + ((ud - 1) / hd)), (), rfl, trivial, trivial⟩, hS.F ht⟩) hS.2.2 dX5_dayDone_119
  · have zc_1 := c_1
    rw [Int32.le_iff_toInt_le] at zc_1
    try rw [zz_toInt k (by omega)] at zc_1
    try rw [zz_toInt np (by omega)] at zc_1
    refine lv_iload_n hx hb dX5_dayDone_20 rfl (lv_at hl 1 rfl) ?_
    refine lv_iconst (v := 1) hx hb dX5_dayDone_21 (by decide) ?_
    refine lv_iload hx hb dX5_dayDone_22 (lv_at hl 5 rfl) ?_
    refine lv_ishl hx hb dX5_dayDone_24 ?_
    obtain ⟨z_3, hz_3, ez_3⟩ := zz_shlE128 (j := k) (by omega)
    refine zz_seti (nI z_3) ez_3 ?_
    refine lv_iand hx hb dX5_dayDone_25 ?_
    obtain ⟨z_4, hz_4, ez_4⟩ := zz_andE128 (a := ns) (by omega) ((nI z_3))
    refine zz_seti (nI z_4) ez_4 ?_
    refine lv_if_ne (tgt := 32) hx hb dX5_dayDone_26 (by decide) (fun c_5 => ?_) (fun c_5 => ?_)
    · have zc_5 := c_5
      rw [← Int32.toInt_inj] at zc_5
      try rw [zz_toInt z_4 (by omega)] at zc_5
      try rw [show (0 : Int32).toInt = 0 from by decide] at zc_5
      refine lv_aload_n hx hb dX5_dayDone_32 rfl (lv_at hl 0 rfl) ?_
      refine va_get (D := (dC, dI)) (ci := 5) (v := .int hd) (C := RX5) (T := TX5) (N := 12) hx hb hw zz_inX5 hown hK hP 0 rfl rfl 11 (by decide) (hw _ tw_145) (fun _ h9 => h9) rfl dX5_dayDone_33 ?_
      refine lv_aload_n hx hb dX5_dayDone_36 rfl (lv_at hl 0 rfl) ?_
      refine va_get (D := (dC, dI)) (ci := 5) (v := .ref (a 45)) (C := RX5) (T := TX5) (N := 12) hx hb hw zz_inX5 hown hK hP 0 rfl rfl 1 (by decide) (hw _ tw_147) (fun _ h9 => h9) rfl dX5_dayDone_37 ?_
      refine lv_iload hx hb dX5_dayDone_40 (lv_at hl 5 rfl) ?_
      refine va_iald hx hb hK hP 1 0 rfl rfl (vp_in_iff.mpr (by rw [zz_toInt k (by omega)]; constructor <;> omega)) dX5_dayDone_42 ?_
      refine lv_iload_n hx hb dX5_dayDone_43 rfl (lv_at hl 3 rfl) ?_
      refine lv_isub hx hb dX5_dayDone_44 ?_
      refine lv_imul hx hb dX5_dayDone_45 ?_
      refine lv_istore (lv' := [(6, .int (hd * ((q1 (Int32.toNatClampNeg (nI k))) - dy))), (0, .ref (a 43)), (1, .int (nI ns)), (2, .int (nI nl)), (3, .int dy), (4, .int ud), (5, .int (nI k))]) hx hb dX5_dayDone_46 hl (by decide) rfl (fun ls hl => ?_)
      refine lv_iload hx hb dX5_dayDone_48 (lv_at hl 6 rfl) ?_
      refine lv_iload_n hx hb dX5_dayDone_50 rfl (lv_at hl 3 rfl) ?_
      refine lv_icmp_le (tgt := 64) hx hb dX5_dayDone_51 (by decide) (fun c_6 => ?_) (fun c_6 => ?_)
      · have zc_6 := c_6
        rw [Int32.le_iff_toInt_le] at zc_6
        try rw [zz_toInt k (by omega)] at zc_6
        try rw [zz_toInt nl (by omega)] at zc_6
        refine lv_iconst (v := 0) hx hb dX5_dayDone_64 (by decide) ?_
        refine lv_iload hx hb dX5_dayDone_65 (lv_at hl 5 rfl) ?_
        refine lv_iload hx hb dX5_dayDone_67 (lv_at hl 0 rfl) ?_
        refine lv_isub hx hb dX5_dayDone_69 ?_
        refine va_mmax hx hb (by rw [hml]; exact hl.1.symm) hown (hw _ tw_144) (hw _ tw_37) (hw _ tw_28) (hw _ tw_38) (Nat.le_of_ble_eq_true rfl) (Nat.le_of_ble_eq_true rfl) (Nat.le_of_ble_eq_true rfl) (Nat.le_of_ble_eq_true rfl) dX5_dayDone_70 ?_
        refine lv_aload_n hx hb dX5_dayDone_73 rfl (lv_at hl 1 rfl) ?_
        refine va_get (D := (dC, dI)) (ci := 5) (v := .ref (a 46)) (C := RX5) (T := TX5) (N := 12) hx hb hw zz_inX5 hown hK hP 0 rfl rfl 2 (by decide) (hw _ tw_148) (fun _ h9 => h9) rfl dX5_dayDone_74 ?_
        refine lv_iload hx hb dX5_dayDone_77 (lv_at hl 6 rfl) ?_
        refine va_iald hx hb hK hP 2 0 rfl rfl (vp_in_iff.mpr (by rw [zz_toInt k (by omega)]; constructor <;> omega)) dX5_dayDone_79 ?_
        refine lv_iadd hx hb dX5_dayDone_80 ?_
        refine lv_istore (lv' := [(4, .int ((if 0 < (ud - (hd * ((q1 (Int32.toNatClampNeg (nI k))) - dy))) then (ud - (hd * ((q1 (Int32.toNatClampNeg (nI k))) - dy))) else 0) + (q2 (Int32.toNatClampNeg (nI k))))), (6, .int (hd * ((q1 (Int32.toNatClampNeg (nI k))) - dy))), (0, .ref (a 43)), (1, .int (nI ns)), (2, .int (nI nl)), (3, .int dy), (5, .int (nI k))]) hx hb dX5_dayDone_81 hl (by decide) rfl (fun ls hl => ?_)
        refine lv_aload_n hx hb dX5_dayDone_83 rfl (lv_at hl 2 rfl) ?_
        refine va_get (D := (dC, dI)) (ci := 5) (v := .ref (a 45)) (C := RX5) (T := TX5) (N := 12) hx hb hw zz_inX5 hown hK hP 0 rfl rfl 1 (by decide) (hw _ tw_147) (fun _ h9 => h9) rfl dX5_dayDone_84 ?_
        refine lv_iload hx hb dX5_dayDone_87 (lv_at hl 6 rfl) ?_
        refine va_iald hx hb hK hP 1 0 rfl rfl (vp_in_iff.mpr (by rw [zz_toInt k (by omega)]; constructor <;> omega)) dX5_dayDone_89 ?_
        refine lv_istore_n (lv' := [(3, .int (q1 (Int32.toNatClampNeg (nI k)))), (4, .int ((if 0 < (ud - (hd * ((q1 (Int32.toNatClampNeg (nI k))) - dy))) then (ud - (hd * ((q1 (Int32.toNatClampNeg (nI k))) - dy))) else 0) + (q2 (Int32.toNatClampNeg (nI k))))), (6, .int (hd * ((q1 (Int32.toNatClampNeg (nI k))) - dy))), (0, .ref (a 43)), (1, .int (nI ns)), (2, .int (nI nl)), (5, .int (nI k))]) hx hb dX5_dayDone_90 rfl hl (by decide) rfl (fun ls hl => ?_)
        refine lv_iinc (v := (nI (k + 1))) (lv' := [(5, .int (nI (k + 1))), (3, .int (q1 (Int32.toNatClampNeg (nI k)))), (4, .int ((if 0 < (ud - (hd * ((q1 (Int32.toNatClampNeg (nI k))) - dy))) then (ud - (hd * ((q1 (Int32.toNatClampNeg (nI k))) - dy))) else 0) + (q2 (Int32.toNatClampNeg (nI k))))), (6, .int (hd * ((q1 (Int32.toNatClampNeg (nI k))) - dy))), (0, .ref (a 43)), (1, .int (nI ns)), (2, .int (nI nl))]) hx hb dX5_dayDone_91 hl (k := 6) rfl (nI_1 _) (by decide) rfl (fun ls hl => ?_)
        refine lv_goto (tgt := 11) hx hb dX5_dayDone_94 (by decide) ?_
        exact ih_11 ((k + 1), (q1 (Int32.toNatClampNeg (nI k))), ((if 0 < (ud - (hd * ((q1 (Int32.toNatClampNeg (nI k))) - dy))) then (ud - (hd * ((q1 (Int32.toNatClampNeg (nI k))) - dy))) else 0) + (q2 (Int32.toNatClampNeg (nI k))))) (show (k + 1) ≤ np from by omega) (show np - (k + 1) < np - k from by omega) _ _ _ (hP.sub [0, 1, 2] rfl) (hD.sub [0, 1, 2] (by decide) rfl) hS (lv_sub hl [4, 5, 6, 1, 2, 0] rfl)
      · have zc_6 := c_6
        rw [Int32.le_iff_toInt_le] at zc_6
        try rw [zz_toInt k (by omega)] at zc_6
        try rw [zz_toInt nl (by omega)] at zc_6
        refine lv_iload hx hb dX5_dayDone_54 (lv_at hl 0 rfl) ?_
        refine lv_iload hx hb dX5_dayDone_56 (lv_at hl 5 rfl) ?_
        refine lv_icmp_lt (tgt := 64) hx hb dX5_dayDone_58 (by decide) (fun c_7 => ?_) (fun c_7 => ?_)
        · have zc_7 := c_7
          rw [Int32.lt_iff_toInt_lt] at zc_7
          refine lv_iconst (v := 0) hx hb dX5_dayDone_64 (by decide) ?_
          refine lv_iload hx hb dX5_dayDone_65 (lv_at hl 5 rfl) ?_
          refine lv_iload hx hb dX5_dayDone_67 (lv_at hl 0 rfl) ?_
          refine lv_isub hx hb dX5_dayDone_69 ?_
          refine va_mmax hx hb (by rw [hml]; exact hl.1.symm) hown (hw _ tw_144) (hw _ tw_37) (hw _ tw_28) (hw _ tw_38) (Nat.le_of_ble_eq_true rfl) (Nat.le_of_ble_eq_true rfl) (Nat.le_of_ble_eq_true rfl) (Nat.le_of_ble_eq_true rfl) dX5_dayDone_70 ?_
          refine lv_aload_n hx hb dX5_dayDone_73 rfl (lv_at hl 1 rfl) ?_
          refine va_get (D := (dC, dI)) (ci := 5) (v := .ref (a 46)) (C := RX5) (T := TX5) (N := 12) hx hb hw zz_inX5 hown hK hP 0 rfl rfl 2 (by decide) (hw _ tw_148) (fun _ h9 => h9) rfl dX5_dayDone_74 ?_
          refine lv_iload hx hb dX5_dayDone_77 (lv_at hl 6 rfl) ?_
          refine va_iald hx hb hK hP 2 0 rfl rfl (vp_in_iff.mpr (by rw [zz_toInt k (by omega)]; constructor <;> omega)) dX5_dayDone_79 ?_
          refine lv_iadd hx hb dX5_dayDone_80 ?_
          refine lv_istore (lv' := [(4, .int ((if 0 < (ud - (hd * ((q1 (Int32.toNatClampNeg (nI k))) - dy))) then (ud - (hd * ((q1 (Int32.toNatClampNeg (nI k))) - dy))) else 0) + (q2 (Int32.toNatClampNeg (nI k))))), (6, .int (hd * ((q1 (Int32.toNatClampNeg (nI k))) - dy))), (0, .ref (a 43)), (1, .int (nI ns)), (2, .int (nI nl)), (3, .int dy), (5, .int (nI k))]) hx hb dX5_dayDone_81 hl (by decide) rfl (fun ls hl => ?_)
          refine lv_aload_n hx hb dX5_dayDone_83 rfl (lv_at hl 2 rfl) ?_
          refine va_get (D := (dC, dI)) (ci := 5) (v := .ref (a 45)) (C := RX5) (T := TX5) (N := 12) hx hb hw zz_inX5 hown hK hP 0 rfl rfl 1 (by decide) (hw _ tw_147) (fun _ h9 => h9) rfl dX5_dayDone_84 ?_
          refine lv_iload hx hb dX5_dayDone_87 (lv_at hl 6 rfl) ?_
          refine va_iald hx hb hK hP 1 0 rfl rfl (vp_in_iff.mpr (by rw [zz_toInt k (by omega)]; constructor <;> omega)) dX5_dayDone_89 ?_
          refine lv_istore_n (lv' := [(3, .int (q1 (Int32.toNatClampNeg (nI k)))), (4, .int ((if 0 < (ud - (hd * ((q1 (Int32.toNatClampNeg (nI k))) - dy))) then (ud - (hd * ((q1 (Int32.toNatClampNeg (nI k))) - dy))) else 0) + (q2 (Int32.toNatClampNeg (nI k))))), (6, .int (hd * ((q1 (Int32.toNatClampNeg (nI k))) - dy))), (0, .ref (a 43)), (1, .int (nI ns)), (2, .int (nI nl)), (5, .int (nI k))]) hx hb dX5_dayDone_90 rfl hl (by decide) rfl (fun ls hl => ?_)
          refine lv_iinc (v := (nI (k + 1))) (lv' := [(5, .int (nI (k + 1))), (3, .int (q1 (Int32.toNatClampNeg (nI k)))), (4, .int ((if 0 < (ud - (hd * ((q1 (Int32.toNatClampNeg (nI k))) - dy))) then (ud - (hd * ((q1 (Int32.toNatClampNeg (nI k))) - dy))) else 0) + (q2 (Int32.toNatClampNeg (nI k))))), (6, .int (hd * ((q1 (Int32.toNatClampNeg (nI k))) - dy))), (0, .ref (a 43)), (1, .int (nI ns)), (2, .int (nI nl))]) hx hb dX5_dayDone_91 hl (k := 6) rfl (nI_1 _) (by decide) rfl (fun ls hl => ?_)
          refine lv_goto (tgt := 11) hx hb dX5_dayDone_94 (by decide) ?_
          exact ih_11 ((k + 1), (q1 (Int32.toNatClampNeg (nI k))), ((if 0 < (ud - (hd * ((q1 (Int32.toNatClampNeg (nI k))) - dy))) then (ud - (hd * ((q1 (Int32.toNatClampNeg (nI k))) - dy))) else 0) + (q2 (Int32.toNatClampNeg (nI k))))) (show (k + 1) ≤ np from by omega) (show np - (k + 1) < np - k from by omega) _ _ _ (hP.sub [0, 1, 2] rfl) (hD.sub [0, 1, 2] (by decide) rfl) hS (lv_sub hl [4, 5, 6, 1, 2, 0] rfl)
        · have zc_7 := c_7
          rw [Int32.lt_iff_toInt_lt] at zc_7
          refine lv_goto (tgt := 97) hx hb dX5_dayDone_61 (by decide) ?_
          refine lv_aload_n hx hb dX5_dayDone_97 rfl (lv_at hl 1 rfl) ?_
          refine va_get (D := (dC, dI)) (ci := 5) (v := .int hd) (C := RX5) (T := TX5) (N := 12) hx hb hw zz_inX5 hown hK hP 0 rfl rfl 11 (by decide) (hw _ tw_145) (fun _ h9 => h9) rfl dX5_dayDone_98 ?_
          refine lv_if_le (tgt := 118) hx hb dX5_dayDone_101 (by decide) (fun c_8 => ?_) (fun c_8 => ?_)
          · have zc_8 := c_8
            rw [Int32.le_iff_toInt_le] at zc_8
            try rw [show (0 : Int32).toInt = 0 from by decide] at zc_8
            refine lv_iload_n hx hb dX5_dayDone_118 rfl (lv_at hl 4 rfl) ?_
            exact W.iret (v := dy) hx hb hr (fun t ht hW => ⟨⟨dy, (), rfl, trivial, trivial⟩, hS.F ht⟩) hS.2.2 dX5_dayDone_119
          · have zc_8 := c_8
            rw [Int32.le_iff_toInt_le] at zc_8
            try rw [show (0 : Int32).toInt = 0 from by decide] at zc_8
            refine lv_iload_n hx hb dX5_dayDone_104 rfl (lv_at hl 4 rfl) ?_
            refine lv_iload hx hb dX5_dayDone_105 (lv_at hl 5 rfl) ?_
            refine lv_iconst (v := 1) hx hb dX5_dayDone_107 (by decide) ?_
            refine lv_isub hx hb dX5_dayDone_108 ?_
            refine lv_aload_n hx hb dX5_dayDone_109 rfl (lv_at hl 1 rfl) ?_
            refine va_get (D := (dC, dI)) (ci := 5) (v := .int hd) (C := RX5) (T := TX5) (N := 12) hx hb hw zz_inX5 hown hK hP 0 rfl rfl 11 (by decide) (hw _ tw_145) (fun _ h9 => h9) rfl dX5_dayDone_110 ?_
            refine lv_idiv hx hb dX5_dayDone_113 (fun h9 => absurd (congrArg Int32.toInt h9) (by rw [show (0 : Int32).toInt = 0 from by decide]; omega)) ?_
            refine lv_iadd hx hb dX5_dayDone_114 ?_
            refine lv_goto (tgt := 119) hx hb dX5_dayDone_115 (by decide) ?_
            exact W.iret (v := (dy + ((ud - 1) / hd))) hx hb hr (fun t ht hW => ⟨⟨(dy + ((ud - 1) / hd)), (), rfl, trivial, trivial⟩, hS.F ht⟩) hS.2.2 dX5_dayDone_119
    · have zc_5 := c_5
      rw [← Int32.toInt_inj] at zc_5
      try rw [zz_toInt z_4 (by omega)] at zc_5
      try rw [show (0 : Int32).toInt = 0 from by decide] at zc_5
      refine lv_goto (tgt := 91) hx hb dX5_dayDone_29 (by decide) ?_
      refine lv_iinc (v := (nI (k + 1))) (lv' := [(5, .int (nI (k + 1))), (0, .ref (a 43)), (1, .int (nI ns)), (2, .int (nI nl)), (3, .int dy), (4, .int ud)]) hx hb dX5_dayDone_91 hl (k := 5) rfl (nI_1 _) (by decide) rfl (fun ls hl => ?_)
      refine lv_goto (tgt := 11) hx hb dX5_dayDone_94 (by decide) ?_
      exact ih_11 ((k + 1), dy, ud) (show (k + 1) ≤ np from by omega) (show np - (k + 1) < np - k from by omega) _ _ _ (hP.sub [0, 1, 2] rfl) (hD.sub [0, 1, 2] (by decide) rfl) hS (lv_sub hl [1, 2, 3, 4, 5, 0] rfl)
set_option maxHeartbeats 4000000 in
set_option maxRecDepth 100000 in
theorem k_chooseNext (l : Launch) (dC : Nat → ClassId) (dI : Nat → Nat → Nat) (a : Nat → Nat) (cI : ClassId) (np : Nat) (cc : Nat) (td : Int32) (hd : Int32) (q0 : Nat → Int32) (q1 : Nat → Int32) (q2 : Nat → Int32) (q3 : Nat → Int32) (q4 : Nat → Int32) (q5 : Nat → Int32) (q6 : Nat → Int32) (fl : Nat → Int32) (nb : Nat) (sz : Nat) (hnp : np ≤ 7) (hnb : nb < 128) (hbn : zz_bnx q6) : Met l yX5_chooseNext (zz_w yX5_chooseNext cX5_chooseNext 9 none) ({ frames := 2, cells := 0, slots := 0, locals := 39 }) (va_Pc [.ref (a 43), .int (nI nb), .ref (a 23)] (zz_B (dC, dI) sz [(a 43, .inr (5, [.ref (a 44), .ref (a 45), .ref (a 46), .ref (a 47), .ref (a 48), .ref (a 49), .ref (a 50), .ref (a 51), .int (nI cc), .int (nI np), .int td, .int hd])), (a 44, .inl (cI, 7, .inl q0)), (a 45, .inl (cI, 7, .inl q1)), (a 46, .inl (cI, 7, .inl q2)), (a 47, .inl (cI, 7, .inl q3)), (a 48, .inl (cI, 7, .inl q4)), (a 49, .inl (cI, 128, .inl q5)), (a 50, .inl (cI, 128, .inl q6)), (a 23, .inl (cI, 10, .inl fl))] [(cI, .int)])) (va_Qv (fun (u : (Nat → Int32) × (Nat → Int32)) => match u with | (_, b2) => zz_bnx b2) (fun (u : (Nat → Int32) × (Nat → Int32)) (t : State) => match u with | (u0, u1) => va_P (dC, dI) vwCl [(a 43, .inr (5, [.ref (a 44), .ref (a 45), .ref (a 46), .ref (a 47), .ref (a 48), .ref (a 49), .ref (a 50), .ref (a 51), .int (nI cc), .int (nI np), .int td, .int hd])), (a 44, .inl (cI, 7, .inl q0)), (a 45, .inl (cI, 7, .inl q1)), (a 46, .inl (cI, 7, .inl q2)), (a 47, .inl (cI, 7, .inl q3)), (a 48, .inl (cI, 7, .inl q4)), (a 49, .inl (cI, 128, .inl u0)), (a 50, .inl (cI, 128, .inl u1)), (a 23, .inl (cI, 10, .inl fl))] t.heap ∧ va_K (dC, dI) vwCl [(cI, .int)] t ∧ va_D (va_A [(a 43, .inr (5, [.ref (a 44), .ref (a 45), .ref (a 46), .ref (a 47), .ref (a 48), .ref (a 49), .ref (a 50), .ref (a 51), .int (nI cc), .int (nI np), .int td, .int hd])), (a 44, .inl (cI, 7, .inl q0)), (a 45, .inl (cI, 7, .inl q1)), (a 46, .inl (cI, 7, .inl q2)), (a 47, .inl (cI, 7, .inl q3)), (a 48, .inl (cI, 7, .inl q4)), (a 49, .inl (cI, 128, .inl q5)), (a 50, .inl (cI, 128, .inl q6)), (a 23, .inl (cI, 10, .inl fl))] sz) [(a 43, .inr (5, [.ref (a 44), .ref (a 45), .ref (a 46), .ref (a 47), .ref (a 48), .ref (a 49), .ref (a 50), .ref (a 51), .int (nI cc), .int (nI np), .int td, .int hd])), (a 44, .inl (cI, 7, .inl q0)), (a 45, .inl (cI, 7, .inl q1)), (a 46, .inl (cI, 7, .inl q2)), (a 47, .inl (cI, 7, .inl q3)), (a 48, .inl (cI, 7, .inl q4)), (a 49, .inl (cI, 128, .inl u0)), (a 50, .inl (cI, 128, .inl u1)), (a 23, .inl (cI, 10, .inl fl))]) (va_A [(a 43, .inr (5, [.ref (a 44), .ref (a 45), .ref (a 46), .ref (a 47), .ref (a 48), .ref (a 49), .ref (a 50), .ref (a 51), .int (nI cc), .int (nI np), .int td, .int hd])), (a 44, .inl (cI, 7, .inl q0)), (a 45, .inl (cI, 7, .inl q1)), (a 46, .inl (cI, 7, .inl q2)), (a 47, .inl (cI, 7, .inl q3)), (a 48, .inl (cI, 7, .inl q4)), (a 49, .inl (cI, 128, .inl q5)), (a 50, .inl (cI, 128, .inl q6)), (a 23, .inl (cI, 10, .inl fl))] sz)) 0 0 (va_A [(a 43, .inr (5, [.ref (a 44), .ref (a 45), .ref (a 46), .ref (a 47), .ref (a 48), .ref (a 49), .ref (a 50), .ref (a 51), .int (nI cc), .int (nI np), .int td, .int hd])), (a 44, .inl (cI, 7, .inl q0)), (a 45, .inl (cI, 7, .inl q1)), (a 46, .inl (cI, 7, .inl q2)), (a 47, .inl (cI, 7, .inl q3)), (a 48, .inl (cI, 7, .inl q4)), (a 49, .inl (cI, 128, .inl q5)), (a 50, .inl (cI, 128, .inl q6)), (a 23, .inl (cI, 10, .inl fl))] sz) := by
  refine Met.ofW (cc := cX5_chooseNext) (maxL := 9) (ret := none) (by decide) rfl ?_
  intro p e s m args below meth c s₁ B hml hv
  obtain ⟨rfl, hsz, hP, hK, hD0, hN⟩ := hv
  have hx := B.exec
  have hb := B.bytes
  have hr := B.returns
  have hts := atoms_spec (ws := zz_w yX5_chooseNext cX5_chooseNext 9 none) B.pre
  have hw : ∀ w ∈ zz_all, w.before _ s = true := fun w h => hts w (List.mem_cons_of_mem _ h)
  have hown : s.vm.findClass RX5 = some m.cls := findClass_of_methodNamed B.named
  have hlocks := B.notSynchronized
  subst hsz
  have hD := hD0.self (sz := s.heap.size)
  generalize hAe : va_A [(a 43, .inr (5, [.ref (a 44), .ref (a 45), .ref (a 46), .ref (a 47), .ref (a 48), .ref (a 49), .ref (a 50), .ref (a 51), .int (nI cc), .int (nI np), .int td, .int hd])), (a 44, .inl (cI, 7, .inl q0)), (a 45, .inl (cI, 7, .inl q1)), (a 46, .inl (cI, 7, .inl q2)), (a 47, .inl (cI, 7, .inl q3)), (a 48, .inl (cI, 7, .inl q4)), (a 49, .inl (cI, 128, .inl q5)), (a 50, .inl (cI, 128, .inl q6)), (a 23, .inl (cI, 10, .inl fl))] s.heap.size = A at hD ⊢
  have hA : ∀ q : Nat, s.heap.size ≤ q → A q := fun q h => by rw [← hAe]; exact Or.inr h
  have hS : va_S A s.heap s.heap [] := va_S.rf
  have hP : va_P (dC, dI) vwCl [(a 43, .inr (5, [.ref (a 44), .ref (a 45), .ref (a 46), .ref (a 47), .ref (a 48), .ref (a 49), .ref (a 50), .ref (a 51), .int (nI cc), .int (nI np), .int td, .int hd])), (a 44, .inl (cI, 7, .inl q0)), (a 45, .inl (cI, 7, .inl q1)), (a 46, .inl (cI, 7, .inl q2)), (a 47, .inl (cI, 7, .inl q3)), (a 48, .inl (cI, 7, .inl q4)), (a 49, .inl (cI, 128, .inl q5)), (a 50, .inl (cI, 128, .inl q6)), (a 23, .inl (cI, 10, .inl fl))] s.heap := hP
  have hl := lv_entry ([.ref (a 43), .int (nI nb), .ref (a 23)]) (n := 9) (Nat.le_of_ble_eq_true rfl)
  rw [lg_entry_eq]
  generalize (lg_sl ([.ref (a 43), .int (nI nb), .ref (a 23)]) ++ List.replicate (9 - (lg_sl ([.ref (a 43), .int (nI nb), .ref (a 23)])).length) Slot.unset).toArray = ls at hl ⊢
  have hl : lv_has ls 9 [(0, .ref (a 43)), (1, .int (nI nb)), (2, .ref (a 23))] := hl
  refine lv_iconst (v := (-1)) hx hb dX5_chooseNext_0 (by decide) ?_
  refine lv_istore_n (lv' := [(3, .int (-1)), (0, .ref (a 43)), (1, .int (nI nb)), (2, .ref (a 23))]) hx hb dX5_chooseNext_1 rfl hl (by decide) rfl (fun ls hl => ?_)
  refine lv_iconst (v := 0) hx hb dX5_chooseNext_2 (by decide) ?_
  refine lv_istore (lv' := [(4, .int 0), (3, .int (-1)), (0, .ref (a 43)), (1, .int (nI nb)), (2, .ref (a 23))]) hx hb dX5_chooseNext_3 hl (by decide) rfl (fun ls hl => ?_)
  refine lv_iconst (v := 0) hx hb dX5_chooseNext_5 (by decide) ?_
  refine lv_istore (lv' := [(5, .int 0), (4, .int 0), (3, .int (-1)), (0, .ref (a 43)), (1, .int (nI nb)), (2, .ref (a 23))]) hx hb dX5_chooseNext_6 hl (by decide) rfl (fun ls hl => ?_)
  refine zz_loopS (fun (u : (Nat) × (Int32) × (Int32)) => match u with | (k, yb, ll) => [(a 43, .inr (5, [.ref (a 44), .ref (a 45), .ref (a 46), .ref (a 47), .ref (a 48), .ref (a 49), .ref (a 50), .ref (a 51), .int (nI cc), .int (nI np), .int td, .int hd])), (a 44, .inl (cI, 7, .inl q0)), (a 45, .inl (cI, 7, .inl q1)), (a 46, .inl (cI, 7, .inl q2)), (a 47, .inl (cI, 7, .inl q3)), (a 48, .inl (cI, 7, .inl q4)), (a 49, .inl (cI, 128, .inl q5)), (a 50, .inl (cI, 128, .inl q6)), (a 23, .inl (cI, 10, .inl fl))]) (fun (u : (Nat) × (Int32) × (Int32)) => match u with | (k, yb, ll) => [(0, .ref (a 43)), (1, .int (nI nb)), (2, .ref (a 23)), (3, .int yb), (4, .int ll), (5, .int (nI k))]) (fun (u : (Nat) × (Int32) × (Int32)) => match u with | (k, yb, ll) => k ≤ np ∧ zz_bst yb) (fun (u : (Nat) × (Int32) × (Int32)) => match u with | (k, yb, ll) => np - k) (fun u hI H locs ls hP hD hS hl ih_8 => ?_) (0, (-1), 0) ⟨by omega, Or.inl rfl⟩ _ _ _ (hP.sub [0, 1, 2, 3, 4, 5, 6, 7, 8] rfl) (hD.sub [0, 1, 2, 3, 4, 5, 6, 7, 8] (by decide) rfl) hS (lv_sub hl [3, 4, 5, 2, 1, 0] rfl)
  obtain ⟨k, yb, ll⟩ := u
  obtain ⟨hP, hD⟩ := zz_ty (D := (dC, dI)) (cl := vwCl) (A := A) (H := H) [(a 43, .inr (5, [.ref (a 44), .ref (a 45), .ref (a 46), .ref (a 47), .ref (a 48), .ref (a 49), .ref (a 50), .ref (a 51), .int (nI cc), .int (nI np), .int td, .int hd])), (a 44, .inl (cI, 7, .inl q0)), (a 45, .inl (cI, 7, .inl q1)), (a 46, .inl (cI, 7, .inl q2)), (a 47, .inl (cI, 7, .inl q3)), (a 48, .inl (cI, 7, .inl q4)), (a 49, .inl (cI, 128, .inl q5)), (a 50, .inl (cI, 128, .inl q6)), (a 23, .inl (cI, 10, .inl fl))] hP hD rfl
  have hl : lv_has ls 9 [(0, .ref (a 43)), (1, .int (nI nb)), (2, .ref (a 23)), (3, .int yb), (4, .int ll), (5, .int (nI k))] := hl
  have hI : k ≤ np ∧ zz_bst yb := hI
  obtain ⟨ik, iy⟩ := hI
  refine lv_iload hx hb dX5_chooseNext_8 (lv_at hl 5 rfl) ?_
  refine lv_aload_n hx hb dX5_chooseNext_10 rfl (lv_at hl 0 rfl) ?_
  refine va_get (D := (dC, dI)) (ci := 5) (v := .int (nI np)) (C := RX5) (T := TX5) (N := 12) hx hb hw zz_inX5 hown hK hP 0 rfl rfl 9 (by decide) (hw _ tw_142) (fun _ h9 => h9) rfl dX5_chooseNext_11 ?_
  refine lv_icmp_ge (tgt := 131) hx hb dX5_chooseNext_14 (by decide) (fun c_1 => ?_) (fun c_1 => ?_)
  · have zc_1 := c_1
    rw [Int32.le_iff_toInt_le] at zc_1
    try rw [zz_toInt k (by omega)] at zc_1
    try rw [zz_toInt np (by omega)] at zc_1
    refine lv_aload_n hx hb dX5_chooseNext_131 rfl (lv_at hl 0 rfl) ?_
    refine va_get (D := (dC, dI)) (ci := 5) (v := .ref (a 49)) (C := RX5) (T := TX5) (N := 12) hx hb hw zz_inX5 hown hK hP 0 rfl rfl 5 (by decide) (hw _ tw_156) (fun _ h9 => h9) rfl dX5_chooseNext_132 ?_
    refine lv_iload_n hx hb dX5_chooseNext_135 rfl (lv_at hl 1 rfl) ?_
    refine lv_iload hx hb dX5_chooseNext_136 (lv_at hl 4 rfl) ?_
    refine va_iast hx hb hK hP hD hS 6 0 rfl rfl (vp_in_iff.mpr (by rw [zz_toInt nb (by omega)]; constructor <;> omega)) dX5_chooseNext_138 (fun H locs hP hD hS => ?_)
    obtain ⟨hP, hD⟩ := zz_ty (D := (dC, dI)) (cl := vwCl) (A := A) (H := H) [(a 43, .inr (5, [.ref (a 44), .ref (a 45), .ref (a 46), .ref (a 47), .ref (a 48), .ref (a 49), .ref (a 50), .ref (a 51), .int (nI cc), .int (nI np), .int td, .int hd])), (a 44, .inl (cI, 7, .inl q0)), (a 45, .inl (cI, 7, .inl q1)), (a 46, .inl (cI, 7, .inl q2)), (a 47, .inl (cI, 7, .inl q3)), (a 48, .inl (cI, 7, .inl q4)), (a 49, .inl (cI, 128, .inl (upd q5 (Int32.toNatClampNeg (nI nb)) ll))), (a 50, .inl (cI, 128, .inl q6)), (a 23, .inl (cI, 10, .inl fl))] hP hD rfl
    refine lv_aload_n hx hb dX5_chooseNext_139 rfl (lv_at hl 0 rfl) ?_
    refine va_get (D := (dC, dI)) (ci := 5) (v := .ref (a 50)) (C := RX5) (T := TX5) (N := 12) hx hb hw zz_inX5 hown hK hP 0 rfl rfl 6 (by decide) (hw _ tw_157) (fun _ h9 => h9) rfl dX5_chooseNext_140 ?_
    refine lv_iload_n hx hb dX5_chooseNext_143 rfl (lv_at hl 1 rfl) ?_
    refine lv_iconst (v := 0) hx hb dX5_chooseNext_144 (by decide) ?_
    refine lv_iload_n hx hb dX5_chooseNext_145 rfl (lv_at hl 3 rfl) ?_
    refine va_mmax hx hb (by rw [hml]; exact hl.1.symm) hown (hw _ tw_144) (hw _ tw_37) (hw _ tw_28) (hw _ tw_38) (Nat.le_of_ble_eq_true rfl) (Nat.le_of_ble_eq_true rfl) (Nat.le_of_ble_eq_true rfl) (Nat.le_of_ble_eq_true rfl) dX5_chooseNext_146 ?_
    refine va_iast hx hb hK hP hD hS 7 0 rfl rfl (vp_in_iff.mpr (by rw [zz_toInt nb (by omega)]; constructor <;> omega)) dX5_chooseNext_149 (fun H locs hP hD hS => ?_)
    obtain ⟨hP, hD⟩ := zz_ty (D := (dC, dI)) (cl := vwCl) (A := A) (H := H) [(a 43, .inr (5, [.ref (a 44), .ref (a 45), .ref (a 46), .ref (a 47), .ref (a 48), .ref (a 49), .ref (a 50), .ref (a 51), .int (nI cc), .int (nI np), .int td, .int hd])), (a 44, .inl (cI, 7, .inl q0)), (a 45, .inl (cI, 7, .inl q1)), (a 46, .inl (cI, 7, .inl q2)), (a 47, .inl (cI, 7, .inl q3)), (a 48, .inl (cI, 7, .inl q4)), (a 49, .inl (cI, 128, .inl (upd q5 (Int32.toNatClampNeg (nI nb)) ll))), (a 50, .inl (cI, 128, .inl (upd q6 (Int32.toNatClampNeg (nI nb)) (if 0 < yb then yb else 0)))), (a 23, .inl (cI, 10, .inl fl))] hP hD rfl
    obtain ⟨hP9, hD9⟩ := zz_sub2 (ws' := [(a 43, .inr (5, [.ref (a 44), .ref (a 45), .ref (a 46), .ref (a 47), .ref (a 48), .ref (a 49), .ref (a 50), .ref (a 51), .int (nI cc), .int (nI np), .int td, .int hd])), (a 44, .inl (cI, 7, .inl q0)), (a 45, .inl (cI, 7, .inl q1)), (a 46, .inl (cI, 7, .inl q2)), (a 47, .inl (cI, 7, .inl q3)), (a 48, .inl (cI, 7, .inl q4)), (a 49, .inl (cI, 128, .inl (upd q5 (Int32.toNatClampNeg (nI nb)) ll))), (a 50, .inl (cI, 128, .inl (upd q6 (Int32.toNatClampNeg (nI nb)) (if 0 < yb then yb else 0)))), (a 23, .inl (cI, 10, .inl fl))]) hP hD [0, 1, 2, 3, 4, 5, 6, 7, 8] (by decide) rfl
    have hK9 := hK.sub (tys' := [(cI, .int)]) [0] rfl
    exact W.vret hx hb hr (fun t ht hW => ⟨⟨((upd q5 (Int32.toNatClampNeg (nI nb)) ll), (upd q6 (Int32.toNatClampNeg (nI nb)) (if 0 < yb then yb else 0))), rfl, (zz_bn hbn iy), by rw [ht]; exact hP9, va_K.moved hW.alike hK9, hD9⟩, hS.F ht⟩) hS.2.2 dX5_chooseNext_150
  · have zc_1 := c_1
    rw [Int32.le_iff_toInt_le] at zc_1
    try rw [zz_toInt k (by omega)] at zc_1
    try rw [zz_toInt np (by omega)] at zc_1
    refine lv_iload_n hx hb dX5_chooseNext_17 rfl (lv_at hl 1 rfl) ?_
    refine lv_iconst (v := 1) hx hb dX5_chooseNext_18 (by decide) ?_
    refine lv_iload hx hb dX5_chooseNext_19 (lv_at hl 5 rfl) ?_
    refine lv_ishl hx hb dX5_chooseNext_21 ?_
    obtain ⟨z_2, hz_2, ez_2⟩ := zz_shlE128 (j := k) (by omega)
    refine zz_seti (nI z_2) ez_2 ?_
    refine lv_ior hx hb dX5_chooseNext_22 ?_
    obtain ⟨z_3, hz_3, ez_3⟩ := zz_orE128 (a := nb) (b := z_2) (by omega) (by omega)
    refine zz_seti (nI z_3) ez_3 ?_
    refine lv_istore (lv' := [(6, .int (nI z_3)), (0, .ref (a 43)), (1, .int (nI nb)), (2, .ref (a 23)), (3, .int yb), (4, .int ll), (5, .int (nI k))]) hx hb dX5_chooseNext_23 hl (by decide) rfl (fun ls hl => ?_)
    refine lv_iload hx hb dX5_chooseNext_25 (lv_at hl 0 rfl) ?_
    refine lv_iload_n hx hb dX5_chooseNext_27 rfl (lv_at hl 2 rfl) ?_
    refine lv_icmp_ne (tgt := 34) hx hb dX5_chooseNext_28 (by decide) (fun c_4 => ?_) (fun c_4 => ?_)
    · have zc_4 := c_4
      rw [← Int32.toInt_inj] at zc_4
      try rw [zz_toInt z_3 (by omega)] at zc_4
      try rw [zz_toInt nb (by omega)] at zc_4
      refine lv_aload_n hx hb dX5_chooseNext_34 rfl (lv_at hl 1 rfl) ?_
      refine lv_iload hx hb dX5_chooseNext_35 (lv_at hl 0 rfl) ?_
      refine lv_iload hx hb dX5_chooseNext_37 (lv_at hl 6 rfl) ?_
      obtain ⟨hPc, hDc⟩ := zz_sub2 (ws' := [(a 43, .inr (5, [.ref (a 44), .ref (a 45), .ref (a 46), .ref (a 47), .ref (a 48), .ref (a 49), .ref (a 50), .ref (a 51), .int (nI cc), .int (nI np), .int td, .int hd])), (a 45, .inl (cI, 7, .inl q1)), (a 46, .inl (cI, 7, .inl q2))]) hP hD [0, 2, 3] (by decide) rfl
      have hKc := hK.sub (tys' := [(cI, .int)]) [0] rfl
      have hFc := zz_free0 hS hA
      refine va_calli (va_runV (As := [.int (nI z_3), .int (nI k)]) (rest := []) ⟨hx, hb, hml, hown, hw⟩ (k_dayDone l dC dI a cI np cc td hd q1 q2 z_3 k H.size (by omega) (by omega) (by omega)) ⟨callB_of 2 hw (zz_good tw_158) rfl rfl rfl (hw _ tw_152) (hw _ tw_159) (by decide +kernel) ⟨Nat.le_of_ble_eq_true rfl, Nat.le_of_ble_eq_true rfl⟩, (hw _ tw_160), (hw _ tw_161)⟩ ⟨zz_blind, va_recv hKc hPc (ci := 5) (q0 := 0) rfl rfl, zz_pre hPc hKc hDc hN⟩ rfl rfl hl.1 rfl (lv_room (Nat.le_of_ble_eq_true rfl)) dX5_chooseNext_39 ⟨Nat.le_of_ble_eq_true rfl, Nat.le_of_ble_eq_true rfl⟩) hS (fun q _ h => hFc q h) hFc (fun r_5 u_5 t H1 locs ht hvm e_5 hB hz1 hk1 hS => ?_)
      try dsimp only at e_5
      have hP := zz_keep hP hk1
      clear hk1 hB ht hvm
      generalize H1 = H at hP hS ⊢
      refine lv_aload_n hx hb dX5_chooseNext_42 rfl (lv_at hl 1 rfl) ?_
      refine va_get (D := (dC, dI)) (ci := 5) (v := .ref (a 47)) (C := RX5) (T := TX5) (N := 12) hx hb hw zz_inX5 hown hK hP 0 rfl rfl 3 (by decide) (hw _ tw_149) (fun _ h9 => h9) rfl dX5_chooseNext_43 ?_
      refine lv_iload hx hb dX5_chooseNext_46 (lv_at hl 6 rfl) ?_
      refine va_iald hx hb hK hP 4 0 rfl rfl (vp_in_iff.mpr (by rw [zz_toInt k (by omega)]; constructor <;> omega)) dX5_chooseNext_48 ?_
      refine lv_isub hx hb dX5_chooseNext_49 ?_
      refine lv_istore (lv' := [(7, .int (r_5 - (q3 (Int32.toNatClampNeg (nI k))))), (6, .int (nI z_3)), (0, .ref (a 43)), (1, .int (nI nb)), (2, .ref (a 23)), (3, .int yb), (4, .int ll), (5, .int (nI k))]) hx hb dX5_chooseNext_50 hl (by decide) rfl (fun ls hl => ?_)
      refine lv_aload_n hx hb dX5_chooseNext_52 rfl (lv_at hl 2 rfl) ?_
      refine va_get (D := (dC, dI)) (ci := 5) (v := .ref (a 48)) (C := RX5) (T := TX5) (N := 12) hx hb hw zz_inX5 hown hK hP 0 rfl rfl 4 (by decide) (hw _ tw_150) (fun _ h9 => h9) rfl dX5_chooseNext_53 ?_
      refine lv_iload hx hb dX5_chooseNext_56 (lv_at hl 7 rfl) ?_
      refine va_iald hx hb hK hP 5 0 rfl rfl (vp_in_iff.mpr (by rw [zz_toInt k (by omega)]; constructor <;> omega)) dX5_chooseNext_58 ?_
      refine lv_aload_n hx hb dX5_chooseNext_59 rfl (lv_at hl 2 rfl) ?_
      refine va_get (D := (dC, dI)) (ci := 5) (v := .ref (a 48)) (C := RX5) (T := TX5) (N := 12) hx hb hw zz_inX5 hown hK hP 0 rfl rfl 4 (by decide) (hw _ tw_150) (fun _ h9 => h9) rfl dX5_chooseNext_60 ?_
      refine lv_iload hx hb dX5_chooseNext_63 (lv_at hl 7 rfl) ?_
      refine va_iald hx hb hK hP 5 0 rfl rfl (vp_in_iff.mpr (by rw [zz_toInt k (by omega)]; constructor <;> omega)) dX5_chooseNext_65 ?_
      refine lv_iload hx hb dX5_chooseNext_66 (lv_at hl 0 rfl) ?_
      refine lv_aload_n hx hb dX5_chooseNext_68 rfl (lv_at hl 4 rfl) ?_
      obtain ⟨hPc, hDc⟩ := zz_sub2 (ws' := [(a 23, .inl (cI, 10, .inl fl))]) hP hD [8] (by decide) rfl
      have hKc := hK.sub (tys' := [(cI, .int)]) [0] rfl
      have hFc := zz_free0 hS hA
      refine va_calli (va_runSN (As := [.int (q4 (Int32.toNatClampNeg (nI k))), .int (r_5 - (q3 (Int32.toNatClampNeg (nI k)))), .ref (a 23)]) (rest := [.int (q4 (Int32.toNatClampNeg (nI k)))]) ⟨hx, hb, hml, hown, hw⟩ (k_proceedsOf l dC dI a cI fl (q4 (Int32.toNatClampNeg (nI k))) (r_5 - (q3 (Int32.toNatClampNeg (nI k)))) H.size) ⟨va_cnB 3 hw (zz_good tw_41) rfl rfl rfl (hN.1 _ zz_n65) (hw _ tw_2) (by decide +kernel) ⟨Nat.le_of_ble_eq_true rfl, Nat.le_of_ble_eq_true rfl⟩, (hw _ tw_43), trivial⟩ ⟨zz_blind, zz_pre hPc hKc hDc hN⟩ rfl rfl hl.1 rfl (lv_room (Nat.le_of_ble_eq_true rfl)) dX5_chooseNext_69 ⟨Nat.le_of_ble_eq_true rfl, Nat.le_of_ble_eq_true rfl⟩) hS (fun q _ h => hFc q h) hFc (fun r_6 u_6 t H1 locs ht hvm e_6 hB hz1 hk1 hS => ?_)
      try dsimp only at e_6
      have hP := zz_keep hP hk1
      clear hk1 hB ht hvm
      generalize H1 = H at hP hS ⊢
      refine lv_isub hx hb dX5_chooseNext_72 ?_
      refine lv_aload_n hx hb dX5_chooseNext_73 rfl (lv_at hl 2 rfl) ?_
      refine va_get (D := (dC, dI)) (ci := 5) (v := .ref (a 49)) (C := RX5) (T := TX5) (N := 12) hx hb hw zz_inX5 hown hK hP 0 rfl rfl 5 (by decide) (hw _ tw_156) (fun _ h9 => h9) rfl dX5_chooseNext_74 ?_
      refine lv_iload hx hb dX5_chooseNext_77 (lv_at hl 1 rfl) ?_
      refine va_iald hx hb hK hP 6 0 rfl rfl (vp_in_iff.mpr (by rw [zz_toInt z_3 (by omega)]; constructor <;> omega)) dX5_chooseNext_79 ?_
      refine lv_iadd hx hb dX5_chooseNext_80 ?_
      refine lv_istore (lv' := [(8, .int (((q4 (Int32.toNatClampNeg (nI k))) - r_6) + (q5 (Int32.toNatClampNeg (nI z_3))))), (7, .int (r_5 - (q3 (Int32.toNatClampNeg (nI k))))), (6, .int (nI z_3)), (0, .ref (a 43)), (1, .int (nI nb)), (2, .ref (a 23)), (3, .int yb), (4, .int ll), (5, .int (nI k))]) hx hb dX5_chooseNext_81 hl (by decide) rfl (fun ls hl => ?_)
      refine lv_iload_n hx hb dX5_chooseNext_83 rfl (lv_at hl 6 rfl) ?_
      refine lv_iconst (v := (-1)) hx hb dX5_chooseNext_84 (by decide) ?_
      refine lv_icmp_eq (tgt := 118) hx hb dX5_chooseNext_85 (by decide) (fun c_7 => ?_) (fun c_7 => ?_)
      · have zc_7 := c_7
        rw [← Int32.toInt_inj] at zc_7
        try rw [show ((-1) : Int32).toInt = (-1) from by decide] at zc_7
        refine lv_iload hx hb dX5_chooseNext_118 (lv_at hl 8 rfl) ?_
        refine lv_istore_n (lv' := [(3, .int (nI k)), (8, .int (((q4 (Int32.toNatClampNeg (nI k))) - r_6) + (q5 (Int32.toNatClampNeg (nI z_3))))), (7, .int (r_5 - (q3 (Int32.toNatClampNeg (nI k))))), (6, .int (nI z_3)), (0, .ref (a 43)), (1, .int (nI nb)), (2, .ref (a 23)), (4, .int ll), (5, .int (nI k))]) hx hb dX5_chooseNext_120 rfl hl (by decide) rfl (fun ls hl => ?_)
        refine lv_iload hx hb dX5_chooseNext_121 (lv_at hl 1 rfl) ?_
        refine lv_istore (lv' := [(4, .int (((q4 (Int32.toNatClampNeg (nI k))) - r_6) + (q5 (Int32.toNatClampNeg (nI z_3))))), (3, .int (nI k)), (8, .int (((q4 (Int32.toNatClampNeg (nI k))) - r_6) + (q5 (Int32.toNatClampNeg (nI z_3))))), (7, .int (r_5 - (q3 (Int32.toNatClampNeg (nI k))))), (6, .int (nI z_3)), (0, .ref (a 43)), (1, .int (nI nb)), (2, .ref (a 23)), (5, .int (nI k))]) hx hb dX5_chooseNext_123 hl (by decide) rfl (fun ls hl => ?_)
        refine lv_iinc (v := (nI (k + 1))) (lv' := [(5, .int (nI (k + 1))), (4, .int (((q4 (Int32.toNatClampNeg (nI k))) - r_6) + (q5 (Int32.toNatClampNeg (nI z_3))))), (3, .int (nI k)), (8, .int (((q4 (Int32.toNatClampNeg (nI k))) - r_6) + (q5 (Int32.toNatClampNeg (nI z_3))))), (7, .int (r_5 - (q3 (Int32.toNatClampNeg (nI k))))), (6, .int (nI z_3)), (0, .ref (a 43)), (1, .int (nI nb)), (2, .ref (a 23))]) hx hb dX5_chooseNext_125 hl (k := 8) rfl (nI_1 _) (by decide) rfl (fun ls hl => ?_)
        refine lv_goto (tgt := 8) hx hb dX5_chooseNext_128 (by decide) ?_
        exact ih_8 ((k + 1), (nI k), (((q4 (Int32.toNatClampNeg (nI k))) - r_6) + (q5 (Int32.toNatClampNeg (nI z_3))))) ⟨by omega, Or.inr ⟨k, by omega, rfl⟩⟩ (show np - (k + 1) < np - k from by omega) _ _ _ (hP.sub [0, 1, 2, 3, 4, 5, 6, 7, 8] rfl) (hD.sub [0, 1, 2, 3, 4, 5, 6, 7, 8] (by decide) rfl) hS (lv_sub hl [6, 7, 8, 2, 1, 0] rfl)
      · have zc_7 := c_7
        rw [← Int32.toInt_inj] at zc_7
        try rw [show ((-1) : Int32).toInt = (-1) from by decide] at zc_7
        refine lv_iload hx hb dX5_chooseNext_88 (lv_at hl 0 rfl) ?_
        refine lv_iload hx hb dX5_chooseNext_90 (lv_at hl 7 rfl) ?_
        refine lv_icmp_lt (tgt := 118) hx hb dX5_chooseNext_92 (by decide) (fun c_8 => ?_) (fun c_8 => ?_)
        · have zc_8 := c_8
          rw [Int32.lt_iff_toInt_lt] at zc_8
          refine lv_iload hx hb dX5_chooseNext_118 (lv_at hl 8 rfl) ?_
          refine lv_istore_n (lv' := [(3, .int (nI k)), (8, .int (((q4 (Int32.toNatClampNeg (nI k))) - r_6) + (q5 (Int32.toNatClampNeg (nI z_3))))), (7, .int (r_5 - (q3 (Int32.toNatClampNeg (nI k))))), (6, .int (nI z_3)), (0, .ref (a 43)), (1, .int (nI nb)), (2, .ref (a 23)), (4, .int ll), (5, .int (nI k))]) hx hb dX5_chooseNext_120 rfl hl (by decide) rfl (fun ls hl => ?_)
          refine lv_iload hx hb dX5_chooseNext_121 (lv_at hl 1 rfl) ?_
          refine lv_istore (lv' := [(4, .int (((q4 (Int32.toNatClampNeg (nI k))) - r_6) + (q5 (Int32.toNatClampNeg (nI z_3))))), (3, .int (nI k)), (8, .int (((q4 (Int32.toNatClampNeg (nI k))) - r_6) + (q5 (Int32.toNatClampNeg (nI z_3))))), (7, .int (r_5 - (q3 (Int32.toNatClampNeg (nI k))))), (6, .int (nI z_3)), (0, .ref (a 43)), (1, .int (nI nb)), (2, .ref (a 23)), (5, .int (nI k))]) hx hb dX5_chooseNext_123 hl (by decide) rfl (fun ls hl => ?_)
          refine lv_iinc (v := (nI (k + 1))) (lv' := [(5, .int (nI (k + 1))), (4, .int (((q4 (Int32.toNatClampNeg (nI k))) - r_6) + (q5 (Int32.toNatClampNeg (nI z_3))))), (3, .int (nI k)), (8, .int (((q4 (Int32.toNatClampNeg (nI k))) - r_6) + (q5 (Int32.toNatClampNeg (nI z_3))))), (7, .int (r_5 - (q3 (Int32.toNatClampNeg (nI k))))), (6, .int (nI z_3)), (0, .ref (a 43)), (1, .int (nI nb)), (2, .ref (a 23))]) hx hb dX5_chooseNext_125 hl (k := 8) rfl (nI_1 _) (by decide) rfl (fun ls hl => ?_)
          refine lv_goto (tgt := 8) hx hb dX5_chooseNext_128 (by decide) ?_
          exact ih_8 ((k + 1), (nI k), (((q4 (Int32.toNatClampNeg (nI k))) - r_6) + (q5 (Int32.toNatClampNeg (nI z_3))))) ⟨by omega, Or.inr ⟨k, by omega, rfl⟩⟩ (show np - (k + 1) < np - k from by omega) _ _ _ (hP.sub [0, 1, 2, 3, 4, 5, 6, 7, 8] rfl) (hD.sub [0, 1, 2, 3, 4, 5, 6, 7, 8] (by decide) rfl) hS (lv_sub hl [6, 7, 8, 2, 1, 0] rfl)
        · have zc_8 := c_8
          rw [Int32.lt_iff_toInt_lt] at zc_8
          refine lv_iload hx hb dX5_chooseNext_95 (lv_at hl 0 rfl) ?_
          refine lv_iload hx hb dX5_chooseNext_97 (lv_at hl 7 rfl) ?_
          refine lv_icmp_ne (tgt := 125) hx hb dX5_chooseNext_99 (by decide) (fun c_9 => ?_) (fun c_9 => ?_)
          · have zc_9 := c_9
            rw [← Int32.toInt_inj] at zc_9
            refine lv_iinc (v := (nI (k + 1))) (lv' := [(5, .int (nI (k + 1))), (8, .int (((q4 (Int32.toNatClampNeg (nI k))) - r_6) + (q5 (Int32.toNatClampNeg (nI z_3))))), (7, .int (r_5 - (q3 (Int32.toNatClampNeg (nI k))))), (6, .int (nI z_3)), (0, .ref (a 43)), (1, .int (nI nb)), (2, .ref (a 23)), (3, .int yb), (4, .int ll)]) hx hb dX5_chooseNext_125 hl (k := 8) rfl (nI_1 _) (by decide) rfl (fun ls hl => ?_)
            refine lv_goto (tgt := 8) hx hb dX5_chooseNext_128 (by decide) ?_
            exact ih_8 ((k + 1), yb, ll) ⟨by omega, iy⟩ (show np - (k + 1) < np - k from by omega) _ _ _ (hP.sub [0, 1, 2, 3, 4, 5, 6, 7, 8] rfl) (hD.sub [0, 1, 2, 3, 4, 5, 6, 7, 8] (by decide) rfl) hS (lv_sub hl [4, 5, 6, 7, 8, 0] rfl)
          · have zc_9 := c_9
            rw [← Int32.toInt_inj] at zc_9
            refine lv_aload_n hx hb dX5_chooseNext_102 rfl (lv_at hl 3 rfl) ?_
            refine va_get (D := (dC, dI)) (ci := 5) (v := .ref (a 44)) (C := RX5) (T := TX5) (N := 12) hx hb hw zz_inX5 hown hK hP 0 rfl rfl 0 (by decide) (hw _ tw_146) (fun _ h9 => h9) rfl dX5_chooseNext_103 ?_
            refine lv_iload hx hb dX5_chooseNext_106 (lv_at hl 8 rfl) ?_
            refine va_iald hx hb hK hP 1 0 rfl rfl (vp_in_iff.mpr (by rw [zz_toInt k (by omega)]; constructor <;> omega)) dX5_chooseNext_108 ?_
            refine lv_aload_n hx hb dX5_chooseNext_109 rfl (lv_at hl 3 rfl) ?_
            refine va_get (D := (dC, dI)) (ci := 5) (v := .ref (a 44)) (C := RX5) (T := TX5) (N := 12) hx hb hw zz_inX5 hown hK hP 0 rfl rfl 0 (by decide) (hw _ tw_146) (fun _ h9 => h9) rfl dX5_chooseNext_110 ?_
            refine lv_iload_n hx hb dX5_chooseNext_113 rfl (lv_at hl 6 rfl) ?_
            refine va_iald hx hb hK hP 1 0 rfl rfl (zz_best iy c_7) dX5_chooseNext_114 ?_
            refine lv_icmp_ge (tgt := 125) hx hb dX5_chooseNext_115 (by decide) (fun c_10 => ?_) (fun c_10 => ?_)
            · have zc_10 := c_10
              rw [Int32.le_iff_toInt_le] at zc_10
              refine lv_iinc (v := (nI (k + 1))) (lv' := [(5, .int (nI (k + 1))), (8, .int (((q4 (Int32.toNatClampNeg (nI k))) - r_6) + (q5 (Int32.toNatClampNeg (nI z_3))))), (7, .int (r_5 - (q3 (Int32.toNatClampNeg (nI k))))), (6, .int (nI z_3)), (0, .ref (a 43)), (1, .int (nI nb)), (2, .ref (a 23)), (3, .int yb), (4, .int ll)]) hx hb dX5_chooseNext_125 hl (k := 8) rfl (nI_1 _) (by decide) rfl (fun ls hl => ?_)
              refine lv_goto (tgt := 8) hx hb dX5_chooseNext_128 (by decide) ?_
              exact ih_8 ((k + 1), yb, ll) ⟨by omega, iy⟩ (show np - (k + 1) < np - k from by omega) _ _ _ (hP.sub [0, 1, 2, 3, 4, 5, 6, 7, 8] rfl) (hD.sub [0, 1, 2, 3, 4, 5, 6, 7, 8] (by decide) rfl) hS (lv_sub hl [4, 5, 6, 7, 8, 0] rfl)
            · have zc_10 := c_10
              rw [Int32.le_iff_toInt_le] at zc_10
              refine lv_iload hx hb dX5_chooseNext_118 (lv_at hl 8 rfl) ?_
              refine lv_istore_n (lv' := [(3, .int (nI k)), (8, .int (((q4 (Int32.toNatClampNeg (nI k))) - r_6) + (q5 (Int32.toNatClampNeg (nI z_3))))), (7, .int (r_5 - (q3 (Int32.toNatClampNeg (nI k))))), (6, .int (nI z_3)), (0, .ref (a 43)), (1, .int (nI nb)), (2, .ref (a 23)), (4, .int ll), (5, .int (nI k))]) hx hb dX5_chooseNext_120 rfl hl (by decide) rfl (fun ls hl => ?_)
              refine lv_iload hx hb dX5_chooseNext_121 (lv_at hl 1 rfl) ?_
              refine lv_istore (lv' := [(4, .int (((q4 (Int32.toNatClampNeg (nI k))) - r_6) + (q5 (Int32.toNatClampNeg (nI z_3))))), (3, .int (nI k)), (8, .int (((q4 (Int32.toNatClampNeg (nI k))) - r_6) + (q5 (Int32.toNatClampNeg (nI z_3))))), (7, .int (r_5 - (q3 (Int32.toNatClampNeg (nI k))))), (6, .int (nI z_3)), (0, .ref (a 43)), (1, .int (nI nb)), (2, .ref (a 23)), (5, .int (nI k))]) hx hb dX5_chooseNext_123 hl (by decide) rfl (fun ls hl => ?_)
              refine lv_iinc (v := (nI (k + 1))) (lv' := [(5, .int (nI (k + 1))), (4, .int (((q4 (Int32.toNatClampNeg (nI k))) - r_6) + (q5 (Int32.toNatClampNeg (nI z_3))))), (3, .int (nI k)), (8, .int (((q4 (Int32.toNatClampNeg (nI k))) - r_6) + (q5 (Int32.toNatClampNeg (nI z_3))))), (7, .int (r_5 - (q3 (Int32.toNatClampNeg (nI k))))), (6, .int (nI z_3)), (0, .ref (a 43)), (1, .int (nI nb)), (2, .ref (a 23))]) hx hb dX5_chooseNext_125 hl (k := 8) rfl (nI_1 _) (by decide) rfl (fun ls hl => ?_)
              refine lv_goto (tgt := 8) hx hb dX5_chooseNext_128 (by decide) ?_
              exact ih_8 ((k + 1), (nI k), (((q4 (Int32.toNatClampNeg (nI k))) - r_6) + (q5 (Int32.toNatClampNeg (nI z_3))))) ⟨by omega, Or.inr ⟨k, by omega, rfl⟩⟩ (show np - (k + 1) < np - k from by omega) _ _ _ (hP.sub [0, 1, 2, 3, 4, 5, 6, 7, 8] rfl) (hD.sub [0, 1, 2, 3, 4, 5, 6, 7, 8] (by decide) rfl) hS (lv_sub hl [6, 7, 8, 2, 1, 0] rfl)
    · have zc_4 := c_4
      rw [← Int32.toInt_inj] at zc_4
      try rw [zz_toInt z_3 (by omega)] at zc_4
      try rw [zz_toInt nb (by omega)] at zc_4
      refine lv_goto (tgt := 125) hx hb dX5_chooseNext_31 (by decide) ?_
      refine lv_iinc (v := (nI (k + 1))) (lv' := [(5, .int (nI (k + 1))), (6, .int (nI z_3)), (0, .ref (a 43)), (1, .int (nI nb)), (2, .ref (a 23)), (3, .int yb), (4, .int ll)]) hx hb dX5_chooseNext_125 hl (k := 6) rfl (nI_1 _) (by decide) rfl (fun ls hl => ?_)
      refine lv_goto (tgt := 8) hx hb dX5_chooseNext_128 (by decide) ?_
      exact ih_8 ((k + 1), yb, ll) ⟨by omega, iy⟩ (show np - (k + 1) < np - k from by omega) _ _ _ (hP.sub [0, 1, 2, 3, 4, 5, 6, 7, 8] rfl) (hD.sub [0, 1, 2, 3, 4, 5, 6, 7, 8] (by decide) rfl) hS (lv_sub hl [2, 3, 4, 5, 6, 0] rfl)
set_option maxHeartbeats 4000000 in
set_option maxRecDepth 100000 in
theorem k_choose (l : Launch) (dC : Nat → ClassId) (dI : Nat → Nat → Nat) (a : Nat → Nat) (cI : ClassId) (np : Nat) (cc : Nat) (td : Int32) (hd : Int32) (q0 : Nat → Int32) (q1 : Nat → Int32) (q2 : Nat → Int32) (q3 : Nat → Int32) (q4 : Nat → Int32) (q5 : Nat → Int32) (q6 : Nat → Int32) (q7 : Nat → Int32) (fl : Nat → Int32) (sz : Nat) (hnp : np ≤ 7) (hbn : zz_bnx q6) : Met l yX5_choose (zz_w yX5_choose cX5_choose 6 (some .int)) ({ frames := 3, cells := 0, slots := 0, locals := 67 }) (va_Pc [.ref (a 43), .ref (a 23)] (zz_B (dC, dI) sz [(a 43, .inr (5, [.ref (a 44), .ref (a 45), .ref (a 46), .ref (a 47), .ref (a 48), .ref (a 49), .ref (a 50), .ref (a 51), .int (nI cc), .int (nI np), .int td, .int hd])), (a 44, .inl (cI, 7, .inl q0)), (a 45, .inl (cI, 7, .inl q1)), (a 46, .inl (cI, 7, .inl q2)), (a 47, .inl (cI, 7, .inl q3)), (a 48, .inl (cI, 7, .inl q4)), (a 49, .inl (cI, 128, .inl q5)), (a 50, .inl (cI, 128, .inl q6)), (a 51, .inl (cI, 7, .inl q7)), (a 23, .inl (cI, 10, .inl fl))] [(cI, .int)])) (va_Qi (fun (_ : Int32) (u : Nat × (Nat → Int32) × (Nat → Int32) × (Nat → Int32)) => match u with | (c2, _, b2, _) => c2 ≤ 7 ∧ zz_bnx b2) (fun (u : Nat × (Nat → Int32) × (Nat → Int32) × (Nat → Int32)) (t : State) => match u with | (u0, u1, u2, u3) => va_P (dC, dI) vwCl [(a 43, .inr (5, [.ref (a 44), .ref (a 45), .ref (a 46), .ref (a 47), .ref (a 48), .ref (a 49), .ref (a 50), .ref (a 51), .int (nI u0), .int (nI np), .int td, .int hd])), (a 44, .inl (cI, 7, .inl q0)), (a 45, .inl (cI, 7, .inl q1)), (a 46, .inl (cI, 7, .inl q2)), (a 47, .inl (cI, 7, .inl q3)), (a 48, .inl (cI, 7, .inl q4)), (a 49, .inl (cI, 128, .inl u1)), (a 50, .inl (cI, 128, .inl u2)), (a 51, .inl (cI, 7, .inl u3)), (a 23, .inl (cI, 10, .inl fl))] t.heap ∧ va_K (dC, dI) vwCl [(cI, .int)] t ∧ va_D (va_A [(a 43, .inr (5, [.ref (a 44), .ref (a 45), .ref (a 46), .ref (a 47), .ref (a 48), .ref (a 49), .ref (a 50), .ref (a 51), .int (nI cc), .int (nI np), .int td, .int hd])), (a 44, .inl (cI, 7, .inl q0)), (a 45, .inl (cI, 7, .inl q1)), (a 46, .inl (cI, 7, .inl q2)), (a 47, .inl (cI, 7, .inl q3)), (a 48, .inl (cI, 7, .inl q4)), (a 49, .inl (cI, 128, .inl q5)), (a 50, .inl (cI, 128, .inl q6)), (a 51, .inl (cI, 7, .inl q7)), (a 23, .inl (cI, 10, .inl fl))] sz) [(a 43, .inr (5, [.ref (a 44), .ref (a 45), .ref (a 46), .ref (a 47), .ref (a 48), .ref (a 49), .ref (a 50), .ref (a 51), .int (nI u0), .int (nI np), .int td, .int hd])), (a 44, .inl (cI, 7, .inl q0)), (a 45, .inl (cI, 7, .inl q1)), (a 46, .inl (cI, 7, .inl q2)), (a 47, .inl (cI, 7, .inl q3)), (a 48, .inl (cI, 7, .inl q4)), (a 49, .inl (cI, 128, .inl u1)), (a 50, .inl (cI, 128, .inl u2)), (a 51, .inl (cI, 7, .inl u3)), (a 23, .inl (cI, 10, .inl fl))]) (va_A [(a 43, .inr (5, [.ref (a 44), .ref (a 45), .ref (a 46), .ref (a 47), .ref (a 48), .ref (a 49), .ref (a 50), .ref (a 51), .int (nI cc), .int (nI np), .int td, .int hd])), (a 44, .inl (cI, 7, .inl q0)), (a 45, .inl (cI, 7, .inl q1)), (a 46, .inl (cI, 7, .inl q2)), (a 47, .inl (cI, 7, .inl q3)), (a 48, .inl (cI, 7, .inl q4)), (a 49, .inl (cI, 128, .inl q5)), (a 50, .inl (cI, 128, .inl q6)), (a 51, .inl (cI, 7, .inl q7)), (a 23, .inl (cI, 10, .inl fl))] sz)) 0 0 (va_A [(a 43, .inr (5, [.ref (a 44), .ref (a 45), .ref (a 46), .ref (a 47), .ref (a 48), .ref (a 49), .ref (a 50), .ref (a 51), .int (nI cc), .int (nI np), .int td, .int hd])), (a 44, .inl (cI, 7, .inl q0)), (a 45, .inl (cI, 7, .inl q1)), (a 46, .inl (cI, 7, .inl q2)), (a 47, .inl (cI, 7, .inl q3)), (a 48, .inl (cI, 7, .inl q4)), (a 49, .inl (cI, 128, .inl q5)), (a 50, .inl (cI, 128, .inl q6)), (a 51, .inl (cI, 7, .inl q7)), (a 23, .inl (cI, 10, .inl fl))] sz) := by
  refine Met.ofW (cc := cX5_choose) (maxL := 6) (ret := (some .int)) (by decide) rfl ?_
  intro p e s m args below meth c s₁ B hml hv
  obtain ⟨rfl, hsz, hP, hK, hD0, hN⟩ := hv
  have hx := B.exec
  have hb := B.bytes
  have hr := B.returns
  have hts := atoms_spec (ws := zz_w yX5_choose cX5_choose 6 (some .int)) B.pre
  have hw : ∀ w ∈ zz_all, w.before _ s = true := fun w h => hts w (List.mem_cons_of_mem _ h)
  have hown : s.vm.findClass RX5 = some m.cls := findClass_of_methodNamed B.named
  have hlocks := B.notSynchronized
  subst hsz
  have hD := hD0.self (sz := s.heap.size)
  generalize hAe : va_A [(a 43, .inr (5, [.ref (a 44), .ref (a 45), .ref (a 46), .ref (a 47), .ref (a 48), .ref (a 49), .ref (a 50), .ref (a 51), .int (nI cc), .int (nI np), .int td, .int hd])), (a 44, .inl (cI, 7, .inl q0)), (a 45, .inl (cI, 7, .inl q1)), (a 46, .inl (cI, 7, .inl q2)), (a 47, .inl (cI, 7, .inl q3)), (a 48, .inl (cI, 7, .inl q4)), (a 49, .inl (cI, 128, .inl q5)), (a 50, .inl (cI, 128, .inl q6)), (a 51, .inl (cI, 7, .inl q7)), (a 23, .inl (cI, 10, .inl fl))] s.heap.size = A at hD ⊢
  have hA : ∀ q : Nat, s.heap.size ≤ q → A q := fun q h => by rw [← hAe]; exact Or.inr h
  have hS : va_S A s.heap s.heap [] := va_S.rf
  have hP : va_P (dC, dI) vwCl [(a 43, .inr (5, [.ref (a 44), .ref (a 45), .ref (a 46), .ref (a 47), .ref (a 48), .ref (a 49), .ref (a 50), .ref (a 51), .int (nI cc), .int (nI np), .int td, .int hd])), (a 44, .inl (cI, 7, .inl q0)), (a 45, .inl (cI, 7, .inl q1)), (a 46, .inl (cI, 7, .inl q2)), (a 47, .inl (cI, 7, .inl q3)), (a 48, .inl (cI, 7, .inl q4)), (a 49, .inl (cI, 128, .inl q5)), (a 50, .inl (cI, 128, .inl q6)), (a 51, .inl (cI, 7, .inl q7)), (a 23, .inl (cI, 10, .inl fl))] s.heap := hP
  have hl := lv_entry ([.ref (a 43), .ref (a 23)]) (n := 6) (Nat.le_of_ble_eq_true rfl)
  rw [lg_entry_eq]
  generalize (lg_sl ([.ref (a 43), .ref (a 23)]) ++ List.replicate (6 - (lg_sl ([.ref (a 43), .ref (a 23)])).length) Slot.unset).toArray = ls at hl ⊢
  have hl : lv_has ls 6 [(0, .ref (a 43)), (1, .ref (a 23))] := hl
  refine lv_iconst (v := 1) hx hb dX5_choose_0 (by decide) ?_
  refine lv_aload_n hx hb dX5_choose_1 rfl (lv_at hl 0 rfl) ?_
  refine va_get (D := (dC, dI)) (ci := 5) (v := .int (nI np)) (C := RX5) (T := TX5) (N := 12) hx hb hw zz_inX5 hown hK hP 0 rfl rfl 9 (by decide) (hw _ tw_142) (fun _ h9 => h9) rfl dX5_choose_2 ?_
  refine lv_ishl hx hb dX5_choose_5 ?_
  refine lv_iconst (v := 1) hx hb dX5_choose_6 (by decide) ?_
  refine lv_isub hx hb dX5_choose_7 ?_
  obtain ⟨zal, hzal, ezal⟩ := zz_allE (k := np) (by omega)
  refine zz_seti (nI zal) ezal ?_
  refine lv_istore_n (lv' := [(2, .int (nI zal)), (0, .ref (a 43)), (1, .ref (a 23))]) hx hb dX5_choose_8 rfl hl (by decide) rfl (fun ls hl => ?_)
  refine lv_aload_n hx hb dX5_choose_9 rfl (lv_at hl 1 rfl) ?_
  refine va_get (D := (dC, dI)) (ci := 5) (v := .ref (a 49)) (C := RX5) (T := TX5) (N := 12) hx hb hw zz_inX5 hown hK hP 0 rfl rfl 5 (by decide) (hw _ tw_156) (fun _ h9 => h9) rfl dX5_choose_10 ?_
  refine lv_iload_n hx hb dX5_choose_13 rfl (lv_at hl 0 rfl) ?_
  refine lv_iconst (v := 0) hx hb dX5_choose_14 (by decide) ?_
  refine va_iast hx hb hK hP hD hS 6 0 rfl rfl (vp_in_iff.mpr (by rw [zz_toInt zal (by omega)]; constructor <;> omega)) dX5_choose_15 (fun H locs hP hD hS => ?_)
  obtain ⟨hP, hD⟩ := zz_ty (D := (dC, dI)) (cl := vwCl) (A := A) (H := H) [(a 43, .inr (5, [.ref (a 44), .ref (a 45), .ref (a 46), .ref (a 47), .ref (a 48), .ref (a 49), .ref (a 50), .ref (a 51), .int (nI cc), .int (nI np), .int td, .int hd])), (a 44, .inl (cI, 7, .inl q0)), (a 45, .inl (cI, 7, .inl q1)), (a 46, .inl (cI, 7, .inl q2)), (a 47, .inl (cI, 7, .inl q3)), (a 48, .inl (cI, 7, .inl q4)), (a 49, .inl (cI, 128, .inl (upd q5 (Int32.toNatClampNeg (nI zal)) 0))), (a 50, .inl (cI, 128, .inl q6)), (a 51, .inl (cI, 7, .inl q7)), (a 23, .inl (cI, 10, .inl fl))] hP hD rfl
  refine lv_iload_n hx hb dX5_choose_16 rfl (lv_at hl 0 rfl) ?_
  refine lv_iconst (v := 1) hx hb dX5_choose_17 (by decide) ?_
  refine lv_isub hx hb dX5_choose_18 ?_
  refine lv_istore_n (lv' := [(3, .int ((nI zal) - 1)), (2, .int (nI zal)), (0, .ref (a 43)), (1, .ref (a 23))]) hx hb dX5_choose_19 rfl hl (by decide) rfl (fun ls hl => ?_)
  refine zz_loopS (fun (u : (Nat) × (Nat → Int32) × (Nat → Int32)) => match u with | (wv, g5, g6) => [(a 43, .inr (5, [.ref (a 44), .ref (a 45), .ref (a 46), .ref (a 47), .ref (a 48), .ref (a 49), .ref (a 50), .ref (a 51), .int (nI cc), .int (nI np), .int td, .int hd])), (a 44, .inl (cI, 7, .inl q0)), (a 45, .inl (cI, 7, .inl q1)), (a 46, .inl (cI, 7, .inl q2)), (a 47, .inl (cI, 7, .inl q3)), (a 48, .inl (cI, 7, .inl q4)), (a 49, .inl (cI, 128, .inl g5)), (a 50, .inl (cI, 128, .inl g6)), (a 51, .inl (cI, 7, .inl q7)), (a 23, .inl (cI, 10, .inl fl))]) (fun (u : (Nat) × (Nat → Int32) × (Nat → Int32)) => match u with | (wv, g5, g6) => [(0, .ref (a 43)), (1, .ref (a 23)), (2, .int (nI zal)), (3, .int ((nI wv) - 1))]) (fun (u : (Nat) × (Nat → Int32) × (Nat → Int32)) => match u with | (wv, g5, g6) => wv ≤ 127 ∧ zz_bnx g6) (fun (u : (Nat) × (Nat → Int32) × (Nat → Int32)) => match u with | (wv, g5, g6) => wv) (fun u hI H locs ls hP hD hS hl ih_20 => ?_) (zal, (upd q5 (Int32.toNatClampNeg (nI zal)) 0), q6) ⟨by omega, hbn⟩ _ _ _ (hP.sub [0, 1, 2, 3, 4, 5, 6, 7, 8, 9] rfl) (hD.sub [0, 1, 2, 3, 4, 5, 6, 7, 8, 9] (by decide) rfl) hS (lv_sub hl [2, 3, 1, 0] rfl)
  obtain ⟨wv, g5, g6⟩ := u
  obtain ⟨hP, hD⟩ := zz_ty (D := (dC, dI)) (cl := vwCl) (A := A) (H := H) [(a 43, .inr (5, [.ref (a 44), .ref (a 45), .ref (a 46), .ref (a 47), .ref (a 48), .ref (a 49), .ref (a 50), .ref (a 51), .int (nI cc), .int (nI np), .int td, .int hd])), (a 44, .inl (cI, 7, .inl q0)), (a 45, .inl (cI, 7, .inl q1)), (a 46, .inl (cI, 7, .inl q2)), (a 47, .inl (cI, 7, .inl q3)), (a 48, .inl (cI, 7, .inl q4)), (a 49, .inl (cI, 128, .inl g5)), (a 50, .inl (cI, 128, .inl g6)), (a 51, .inl (cI, 7, .inl q7)), (a 23, .inl (cI, 10, .inl fl))] hP hD rfl
  have hl : lv_has ls 6 [(0, .ref (a 43)), (1, .ref (a 23)), (2, .int (nI zal)), (3, .int ((nI wv) - 1))] := hl
  have hI : wv ≤ 127 ∧ zz_bnx g6 := hI
  obtain ⟨iw, ib⟩ := hI
  refine lv_iload_n hx hb dX5_choose_20 rfl (lv_at hl 3 rfl) ?_
  refine lv_if_lt (tgt := 36) hx hb dX5_choose_21 (by decide) (fun c_1 => ?_) (fun c_1 => ?_)
  · have zc_1 := c_1
    rw [Int32.lt_iff_toInt_lt] at zc_1
    try rw [zz_pred (c := wv) (by omega)] at zc_1
    try rw [show (0 : Int32).toInt = 0 from by decide] at zc_1
    refine lv_aload_n hx hb dX5_choose_36 rfl (lv_at hl 0 rfl) ?_
    refine lv_aload_n hx hb dX5_choose_37 rfl (lv_at hl 0 rfl) ?_
    refine va_get (D := (dC, dI)) (ci := 5) (v := .int (nI np)) (C := RX5) (T := TX5) (N := 12) hx hb hw zz_inX5 hown hK hP 0 rfl rfl 9 (by decide) (hw _ tw_142) (fun _ h9 => h9) rfl dX5_choose_38 ?_
    refine va_put (D := (dC, dI)) (ci := 5) (v := .int (nI np)) (ty := .int) (C := RX5) (T := TX5) (N := 12) hx hb hw zz_inX5 tyX5 tyX5_ok nmX5 hown hK hP hD hS 0 rfl rfl 8 (by decide) (hw _ tw_162) (fun _ h9 => h9) rfl (by decide +kernel) rfl rfl (Nat.le_of_ble_eq_true rfl) dX5_choose_41 (fun H locs hP hD hS => ?_)
    obtain ⟨hP, hD⟩ := zz_ty (D := (dC, dI)) (cl := vwCl) (A := A) (H := H) [(a 43, .inr (5, [.ref (a 44), .ref (a 45), .ref (a 46), .ref (a 47), .ref (a 48), .ref (a 49), .ref (a 50), .ref (a 51), .int (nI np), .int (nI np), .int td, .int hd])), (a 44, .inl (cI, 7, .inl q0)), (a 45, .inl (cI, 7, .inl q1)), (a 46, .inl (cI, 7, .inl q2)), (a 47, .inl (cI, 7, .inl q3)), (a 48, .inl (cI, 7, .inl q4)), (a 49, .inl (cI, 128, .inl g5)), (a 50, .inl (cI, 128, .inl g6)), (a 51, .inl (cI, 7, .inl q7)), (a 23, .inl (cI, 10, .inl fl))] hP hD rfl
    refine lv_iconst (v := 0) hx hb dX5_choose_44 (by decide) ?_
    refine lv_istore_n (lv' := [(3, .int 0), (0, .ref (a 43)), (1, .ref (a 23)), (2, .int (nI zal))]) hx hb dX5_choose_45 rfl hl (by decide) rfl (fun ls hl => ?_)
    refine lv_iconst (v := 0) hx hb dX5_choose_46 (by decide) ?_
    refine lv_istore (lv' := [(4, .int 0), (3, .int 0), (0, .ref (a 43)), (1, .ref (a 23)), (2, .int (nI zal))]) hx hb dX5_choose_47 hl (by decide) rfl (fun ls hl => ?_)
    refine zz_loopS (fun (u : (Nat) × (Nat) × (Nat → Int32)) => match u with | (i, r3, g7) => [(a 43, .inr (5, [.ref (a 44), .ref (a 45), .ref (a 46), .ref (a 47), .ref (a 48), .ref (a 49), .ref (a 50), .ref (a 51), .int (nI np), .int (nI np), .int td, .int hd])), (a 44, .inl (cI, 7, .inl q0)), (a 45, .inl (cI, 7, .inl q1)), (a 46, .inl (cI, 7, .inl q2)), (a 47, .inl (cI, 7, .inl q3)), (a 48, .inl (cI, 7, .inl q4)), (a 49, .inl (cI, 128, .inl g5)), (a 50, .inl (cI, 128, .inl g6)), (a 51, .inl (cI, 7, .inl g7)), (a 23, .inl (cI, 10, .inl fl))]) (fun (u : (Nat) × (Nat) × (Nat → Int32)) => match u with | (i, r3, g7) => [(0, .ref (a 43)), (1, .ref (a 23)), (2, .int (nI zal)), (3, .int (nI r3)), (4, .int (nI i))]) (fun (u : (Nat) × (Nat) × (Nat → Int32)) => match u with | (i, r3, g7) => i ≤ np ∧ r3 < 128) (fun (u : (Nat) × (Nat) × (Nat → Int32)) => match u with | (i, r3, g7) => np - i) (fun u hI H locs ls hP hD hS hl ih_49 => ?_) (0, 0, q7) (show 0 ≤ np ∧ 0 < 128 from (by refine ⟨?_, ?_⟩ <;> omega)) _ _ _ (hP.sub [0, 1, 2, 3, 4, 5, 6, 7, 8, 9] rfl) (hD.sub [0, 1, 2, 3, 4, 5, 6, 7, 8, 9] (by decide) rfl) hS (lv_sub hl [2, 3, 4, 1, 0] rfl)
    obtain ⟨i, r3, g7⟩ := u
    obtain ⟨hP, hD⟩ := zz_ty (D := (dC, dI)) (cl := vwCl) (A := A) (H := H) [(a 43, .inr (5, [.ref (a 44), .ref (a 45), .ref (a 46), .ref (a 47), .ref (a 48), .ref (a 49), .ref (a 50), .ref (a 51), .int (nI np), .int (nI np), .int td, .int hd])), (a 44, .inl (cI, 7, .inl q0)), (a 45, .inl (cI, 7, .inl q1)), (a 46, .inl (cI, 7, .inl q2)), (a 47, .inl (cI, 7, .inl q3)), (a 48, .inl (cI, 7, .inl q4)), (a 49, .inl (cI, 128, .inl g5)), (a 50, .inl (cI, 128, .inl g6)), (a 51, .inl (cI, 7, .inl g7)), (a 23, .inl (cI, 10, .inl fl))] hP hD rfl
    have hl : lv_has ls 6 [(0, .ref (a 43)), (1, .ref (a 23)), (2, .int (nI zal)), (3, .int (nI r3)), (4, .int (nI i))] := hl
    have hI : i ≤ np ∧ r3 < 128 := hI
    obtain ⟨ii, ir⟩ := hI
    refine lv_iload hx hb dX5_choose_49 (lv_at hl 4 rfl) ?_
    refine lv_aload_n hx hb dX5_choose_51 rfl (lv_at hl 0 rfl) ?_
    refine va_get (D := (dC, dI)) (ci := 5) (v := .int (nI np)) (C := RX5) (T := TX5) (N := 12) hx hb hw zz_inX5 hown hK hP 0 rfl rfl 9 (by decide) (hw _ tw_142) (fun _ h9 => h9) rfl dX5_choose_52 ?_
    refine lv_icmp_ge (tgt := 93) hx hb dX5_choose_55 (by decide) (fun c_2 => ?_) (fun c_2 => ?_)
    · have zc_2 := c_2
      rw [Int32.le_iff_toInt_le] at zc_2
      try rw [zz_toInt i (by omega)] at zc_2
      try rw [zz_toInt np (by omega)] at zc_2
      refine lv_aload_n hx hb dX5_choose_93 rfl (lv_at hl 0 rfl) ?_
      refine va_get (D := (dC, dI)) (ci := 5) (v := .ref (a 49)) (C := RX5) (T := TX5) (N := 12) hx hb hw zz_inX5 hown hK hP 0 rfl rfl 5 (by decide) (hw _ tw_156) (fun _ h9 => h9) rfl dX5_choose_94 ?_
      refine lv_iconst (v := 0) hx hb dX5_choose_97 (by decide) ?_
      refine va_iald hx hb hK hP 6 0 rfl rfl (zz_vin (by decide)) dX5_choose_98 ?_
      obtain ⟨hP9, hD9⟩ := zz_sub2 (ws' := [(a 43, .inr (5, [.ref (a 44), .ref (a 45), .ref (a 46), .ref (a 47), .ref (a 48), .ref (a 49), .ref (a 50), .ref (a 51), .int (nI np), .int (nI np), .int td, .int hd])), (a 44, .inl (cI, 7, .inl q0)), (a 45, .inl (cI, 7, .inl q1)), (a 46, .inl (cI, 7, .inl q2)), (a 47, .inl (cI, 7, .inl q3)), (a 48, .inl (cI, 7, .inl q4)), (a 49, .inl (cI, 128, .inl g5)), (a 50, .inl (cI, 128, .inl g6)), (a 51, .inl (cI, 7, .inl g7)), (a 23, .inl (cI, 10, .inl fl))]) hP hD [0, 1, 2, 3, 4, 5, 6, 7, 8, 9] (by decide) rfl
      have hK9 := hK.sub (tys' := [(cI, .int)]) [0] rfl
      exact W.iret (v := (g5 (Int32.toNatClampNeg 0))) hx hb hr (fun t ht hW => ⟨⟨(g5 (Int32.toNatClampNeg 0)), (np, g5, g6, g7), rfl, ⟨by omega, ib⟩, by rw [ht]; exact hP9, va_K.moved hW.alike hK9, hD9⟩, hS.F ht⟩) hS.2.2 dX5_choose_99
    · have zc_2 := c_2
      rw [Int32.le_iff_toInt_le] at zc_2
      try rw [zz_toInt i (by omega)] at zc_2
      try rw [zz_toInt np (by omega)] at zc_2
      refine lv_aload_n hx hb dX5_choose_58 rfl (lv_at hl 0 rfl) ?_
      refine va_get (D := (dC, dI)) (ci := 5) (v := .ref (a 50)) (C := RX5) (T := TX5) (N := 12) hx hb hw zz_inX5 hown hK hP 0 rfl rfl 6 (by decide) (hw _ tw_157) (fun _ h9 => h9) rfl dX5_choose_59 ?_
      refine lv_iload_n hx hb dX5_choose_62 rfl (lv_at hl 3 rfl) ?_
      refine va_iald hx hb hK hP 7 0 rfl rfl (vp_in_iff.mpr (by rw [zz_toInt r3 (by omega)]; constructor <;> omega)) dX5_choose_63 ?_
      obtain ⟨kb, hkb, ekb⟩ := ib (Int32.toNatClampNeg (nI r3))
      refine zz_seti (nI kb) ekb ?_
      refine lv_istore (lv' := [(5, .int (nI kb)), (0, .ref (a 43)), (1, .ref (a 23)), (2, .int (nI zal)), (3, .int (nI r3)), (4, .int (nI i))]) hx hb dX5_choose_64 hl (by decide) rfl (fun ls hl => ?_)
      refine lv_aload_n hx hb dX5_choose_66 rfl (lv_at hl 1 rfl) ?_
      refine va_get (D := (dC, dI)) (ci := 5) (v := .ref (a 51)) (C := RX5) (T := TX5) (N := 12) hx hb hw zz_inX5 hown hK hP 0 rfl rfl 7 (by decide) (hw _ tw_163) (fun _ h9 => h9) rfl dX5_choose_67 ?_
      refine lv_iload hx hb dX5_choose_70 (lv_at hl 5 rfl) ?_
      refine lv_aload_n hx hb dX5_choose_72 rfl (lv_at hl 1 rfl) ?_
      refine va_get (D := (dC, dI)) (ci := 5) (v := .ref (a 44)) (C := RX5) (T := TX5) (N := 12) hx hb hw zz_inX5 hown hK hP 0 rfl rfl 0 (by decide) (hw _ tw_146) (fun _ h9 => h9) rfl dX5_choose_73 ?_
      refine lv_iload hx hb dX5_choose_76 (lv_at hl 0 rfl) ?_
      refine va_iald hx hb hK hP 1 0 rfl rfl (vp_in_iff.mpr (by rw [zz_toInt kb (by omega)]; constructor <;> omega)) dX5_choose_78 ?_
      refine va_iast hx hb hK hP hD hS 8 0 rfl rfl (vp_in_iff.mpr (by rw [zz_toInt i (by omega)]; constructor <;> omega)) dX5_choose_79 (fun H locs hP hD hS => ?_)
      obtain ⟨hP, hD⟩ := zz_ty (D := (dC, dI)) (cl := vwCl) (A := A) (H := H) [(a 43, .inr (5, [.ref (a 44), .ref (a 45), .ref (a 46), .ref (a 47), .ref (a 48), .ref (a 49), .ref (a 50), .ref (a 51), .int (nI np), .int (nI np), .int td, .int hd])), (a 44, .inl (cI, 7, .inl q0)), (a 45, .inl (cI, 7, .inl q1)), (a 46, .inl (cI, 7, .inl q2)), (a 47, .inl (cI, 7, .inl q3)), (a 48, .inl (cI, 7, .inl q4)), (a 49, .inl (cI, 128, .inl g5)), (a 50, .inl (cI, 128, .inl g6)), (a 51, .inl (cI, 7, .inl (upd g7 (Int32.toNatClampNeg (nI i)) (q0 (Int32.toNatClampNeg (nI kb)))))), (a 23, .inl (cI, 10, .inl fl))] hP hD rfl
      refine lv_iload_n hx hb dX5_choose_80 rfl (lv_at hl 4 rfl) ?_
      refine lv_iconst (v := 1) hx hb dX5_choose_81 (by decide) ?_
      refine lv_iload hx hb dX5_choose_82 (lv_at hl 0 rfl) ?_
      refine lv_ishl hx hb dX5_choose_84 ?_
      obtain ⟨z_3, hz_3, ez_3⟩ := zz_shlE128 (j := kb) (by omega)
      refine zz_seti (nI z_3) ez_3 ?_
      refine lv_ior hx hb dX5_choose_85 ?_
      obtain ⟨z_4, hz_4, ez_4⟩ := zz_orE128 (a := r3) (b := z_3) (by omega) (by omega)
      refine zz_seti (nI z_4) ez_4 ?_
      refine lv_istore_n (lv' := [(3, .int (nI z_4)), (5, .int (nI kb)), (0, .ref (a 43)), (1, .ref (a 23)), (2, .int (nI zal)), (4, .int (nI i))]) hx hb dX5_choose_86 rfl hl (by decide) rfl (fun ls hl => ?_)
      refine lv_iinc (v := (nI (i + 1))) (lv' := [(4, .int (nI (i + 1))), (3, .int (nI z_4)), (5, .int (nI kb)), (0, .ref (a 43)), (1, .ref (a 23)), (2, .int (nI zal))]) hx hb dX5_choose_87 hl (k := 5) rfl (nI_1 _) (by decide) rfl (fun ls hl => ?_)
      refine lv_goto (tgt := 49) hx hb dX5_choose_90 (by decide) ?_
      exact ih_49 ((i + 1), z_4, (upd g7 (Int32.toNatClampNeg (nI i)) (q0 (Int32.toNatClampNeg (nI kb))))) (show (i + 1) ≤ np ∧ z_4 < 128 from (by refine ⟨?_, ?_⟩ <;> omega)) (show np - (i + 1) < np - i from by omega) _ _ _ (hP.sub [0, 1, 2, 3, 4, 5, 6, 7, 8, 9] rfl) (hD.sub [0, 1, 2, 3, 4, 5, 6, 7, 8, 9] (by decide) rfl) hS (lv_sub hl [3, 4, 5, 1, 0] rfl)
  · have zc_1 := c_1
    rw [Int32.lt_iff_toInt_lt] at zc_1
    try rw [zz_pred (c := wv) (by omega)] at zc_1
    try rw [show (0 : Int32).toInt = 0 from by decide] at zc_1
    refine lv_aload_n hx hb dX5_choose_24 rfl (lv_at hl 0 rfl) ?_
    refine lv_iload_n hx hb dX5_choose_25 rfl (lv_at hl 3 rfl) ?_
    refine zz_seti (nI (wv - 1)) (zz_predN (by omega)) ?_
    refine lv_aload_n hx hb dX5_choose_26 rfl (lv_at hl 1 rfl) ?_
    obtain ⟨hPc, hDc⟩ := zz_sub2 (ws' := [(a 43, .inr (5, [.ref (a 44), .ref (a 45), .ref (a 46), .ref (a 47), .ref (a 48), .ref (a 49), .ref (a 50), .ref (a 51), .int (nI cc), .int (nI np), .int td, .int hd])), (a 44, .inl (cI, 7, .inl q0)), (a 45, .inl (cI, 7, .inl q1)), (a 46, .inl (cI, 7, .inl q2)), (a 47, .inl (cI, 7, .inl q3)), (a 48, .inl (cI, 7, .inl q4)), (a 49, .inl (cI, 128, .inl g5)), (a 50, .inl (cI, 128, .inl g6)), (a 23, .inl (cI, 10, .inl fl))]) hP hD [0, 1, 2, 3, 4, 5, 6, 7, 9] (by decide) rfl
    have hKc := hK.sub (tys' := [(cI, .int)]) [0] rfl
    have hFc := zz_free1 hDc hS hA
    refine va_callv (va_runV (As := [.int (nI (wv - 1)), .ref (a 23)]) (rest := []) ⟨hx, hb, hml, hown, hw⟩ (k_chooseNext l dC dI a cI np cc td hd q0 q1 q2 q3 q4 g5 g6 fl (wv - 1) H.size (by omega) (by omega) ib) ⟨callB_of 2 hw (zz_good tw_164) rfl rfl rfl (hw _ tw_152) (hw _ tw_165) (by decide +kernel) ⟨Nat.le_of_ble_eq_true rfl, Nat.le_of_ble_eq_true rfl⟩, (hw _ tw_166), (hw _ tw_167)⟩ ⟨zz_blind, va_recv hKc hPc (ci := 5) (q0 := 0) rfl rfl, zz_pre hPc hKc hDc hN⟩ rfl rfl hl.1 rfl (lv_room (Nat.le_of_ble_eq_true rfl)) dX5_choose_27 ⟨Nat.le_of_ble_eq_true rfl, Nat.le_of_ble_eq_true rfl⟩) hS (fun q _ h => hFc q h) hFc (fun u_5 t H1 locs ht hvm e_5 hB hz1 hk1 hS => ?_)
    try dsimp only at e_5
    obtain ⟨g5n, g6n⟩ := u_5
    obtain ⟨hP1, hK1, hD1⟩ := hB
    rw [ht] at hP1
    have hK1 := va_K.moved hvm.symm hK1
    try dsimp only at e_5
    obtain ⟨hP, hD⟩ := va_join (wr := [(a 51, .inl (cI, 7, .inl q7))]) (w1 := [(a 43, .inr (5, [.ref (a 44), .ref (a 45), .ref (a 46), .ref (a 47), .ref (a 48), .ref (a 49), .ref (a 50), .ref (a 51), .int (nI cc), .int (nI np), .int td, .int hd])), (a 44, .inl (cI, 7, .inl q0)), (a 45, .inl (cI, 7, .inl q1)), (a 46, .inl (cI, 7, .inl q2)), (a 47, .inl (cI, 7, .inl q3)), (a 48, .inl (cI, 7, .inl q4)), (a 49, .inl (cI, 128, .inl g5n)), (a 50, .inl (cI, 128, .inl g6n)), (a 23, .inl (cI, 10, .inl fl))]) hP hD [0, 1, 2, 3, 4, 5, 6, 7, 9] [8] rfl rfl (by decide) (by decide) hk1 hFc hP1 hD1
    clear hk1 ht hvm
    generalize H1 = H at hP hS ⊢
    obtain ⟨hP, hD⟩ := zz_ty (D := (dC, dI)) (cl := vwCl) (A := A) (H := H) [(a 51, .inl (cI, 7, .inl q7)), (a 43, .inr (5, [.ref (a 44), .ref (a 45), .ref (a 46), .ref (a 47), .ref (a 48), .ref (a 49), .ref (a 50), .ref (a 51), .int (nI cc), .int (nI np), .int td, .int hd])), (a 44, .inl (cI, 7, .inl q0)), (a 45, .inl (cI, 7, .inl q1)), (a 46, .inl (cI, 7, .inl q2)), (a 47, .inl (cI, 7, .inl q3)), (a 48, .inl (cI, 7, .inl q4)), (a 49, .inl (cI, 128, .inl g5n)), (a 50, .inl (cI, 128, .inl g6n)), (a 23, .inl (cI, 10, .inl fl))] hP hD rfl
    refine lv_iinc (v := (nI (wv - 1)) - 1) (lv' := [(3, .int ((nI (wv - 1)) - 1)), (0, .ref (a 43)), (1, .ref (a 23)), (2, .int (nI zal))]) hx hb dX5_choose_30 hl (k := 3) rfl (zz_iw (by omega)) (by decide) rfl (fun ls hl => ?_)
    refine lv_goto (tgt := 20) hx hb dX5_choose_33 (by decide) ?_
    exact ih_20 ((wv - 1), g5n, g6n) ⟨by omega, e_5⟩ (show (wv - 1) < wv from by omega) _ _ _ (hP.sub [1, 2, 3, 4, 5, 6, 7, 8, 0, 9] rfl) (hD.sub [1, 2, 3, 4, 5, 6, 7, 8, 0, 9] (by decide) rfl) hS (lv_sub hl [1, 2, 3, 0] rfl)
