theorem tw_281 : Cond.code yX8_debtOf cX8_debtOf 6 (some .int) ∈ zz_all := zz_m4 194 rfl rfl
theorem tw_282 : Cond.methodLink RX8 250 yX8_debtOf ∈ zz_all := zz_m4 191 rfl rfl
theorem tw_283 : Cond.instanceMethod yX8_debtOf ∈ zz_all := zz_m4 193 rfl rfl
theorem tw_284 : Cond.selects RX8 yX8_debtOf yX8_debtOf ∈ zz_all := zz_ms 47 rfl rfl
theorem tw_285 : Cond.code yX8_lessens cX8_lessens 7 none ∈ zz_all := zz_m4 186 rfl rfl
theorem tw_286 : Cond.methodLink RX8 240 yX8_lessens ∈ zz_all := zz_m4 183 rfl rfl
theorem tw_287 : Cond.instanceMethod yX8_lessens ∈ zz_all := zz_m4 185 rfl rfl
theorem tw_288 : Cond.selects RX8 yX8_lessens yX8_lessens ∈ zz_all := zz_ms 45 rfl rfl
theorem zy_b28mi_0 : decode cX8_lessens 0 = .ok (.iload_n 3, 1) ∧ decode cX8_lessens 1 = .ok (.istore 4, 2) ∧ decode cX8_lessens 3 = .ok (.iconst 0, 1) ∧ decode cX8_lessens 4 = .ok (.istore 5, 2) ∧ decode cX8_lessens 6 = .ok (.iload 5, 2) ∧ decode cX8_lessens 8 = .ok (.aload_n 0, 1) ∧ decode cX8_lessens 9 = .ok (.getfield 230, 3) ∧ decode cX8_lessens 12 = .ok (.if_icmp .ge 76, 3) := by decide +kernel
theorem dX8_lessens_0 : decode cX8_lessens 0 = .ok (.iload_n 3, 1) := zy_b28mi_0.1
theorem dX8_lessens_1 : decode cX8_lessens 1 = .ok (.istore 4, 2) := zy_b28mi_0.2.1
theorem dX8_lessens_3 : decode cX8_lessens 3 = .ok (.iconst 0, 1) := zy_b28mi_0.2.2.1
theorem dX8_lessens_4 : decode cX8_lessens 4 = .ok (.istore 5, 2) := zy_b28mi_0.2.2.2.1
theorem dX8_lessens_6 : decode cX8_lessens 6 = .ok (.iload 5, 2) := zy_b28mi_0.2.2.2.2.1
theorem dX8_lessens_8 : decode cX8_lessens 8 = .ok (.aload_n 0, 1) := zy_b28mi_0.2.2.2.2.2.1
theorem dX8_lessens_9 : decode cX8_lessens 9 = .ok (.getfield 230, 3) := zy_b28mi_0.2.2.2.2.2.2.1
theorem dX8_lessens_12 : decode cX8_lessens 12 = .ok (.if_icmp .ge 76, 3) := zy_b28mi_0.2.2.2.2.2.2.2
theorem zy_b28mi_1 : decode cX8_lessens 15 = .ok (.aload_n 0, 1) ∧ decode cX8_lessens 16 = .ok (.getfield 79, 3) ∧ decode cX8_lessens 19 = .ok (.iload 5, 2) ∧ decode cX8_lessens 21 = .ok (.iaload, 1) ∧ decode cX8_lessens 22 = .ok (.iload_n 1, 1) ∧ decode cX8_lessens 23 = .ok (.if_icmp .ne 59, 3) ∧ decode cX8_lessens 26 = .ok (.aload_n 0, 1) ∧ decode cX8_lessens 27 = .ok (.getfield 82, 3) := by decide +kernel
theorem dX8_lessens_15 : decode cX8_lessens 15 = .ok (.aload_n 0, 1) := zy_b28mi_1.1
theorem dX8_lessens_16 : decode cX8_lessens 16 = .ok (.getfield 79, 3) := zy_b28mi_1.2.1
theorem dX8_lessens_19 : decode cX8_lessens 19 = .ok (.iload 5, 2) := zy_b28mi_1.2.2.1
theorem dX8_lessens_21 : decode cX8_lessens 21 = .ok (.iaload, 1) := zy_b28mi_1.2.2.2.1
theorem dX8_lessens_22 : decode cX8_lessens 22 = .ok (.iload_n 1, 1) := zy_b28mi_1.2.2.2.2.1
theorem dX8_lessens_23 : decode cX8_lessens 23 = .ok (.if_icmp .ne 59, 3) := zy_b28mi_1.2.2.2.2.2.1
theorem dX8_lessens_26 : decode cX8_lessens 26 = .ok (.aload_n 0, 1) := zy_b28mi_1.2.2.2.2.2.2.1
theorem dX8_lessens_27 : decode cX8_lessens 27 = .ok (.getfield 82, 3) := zy_b28mi_1.2.2.2.2.2.2.2
theorem zy_b28mi_2 : decode cX8_lessens 30 = .ok (.iload 5, 2) ∧ decode cX8_lessens 32 = .ok (.iaload, 1) ∧ decode cX8_lessens 33 = .ok (.iload_n 2, 1) ∧ decode cX8_lessens 34 = .ok (.if_icmp .ne 48, 3) ∧ decode cX8_lessens 37 = .ok (.aload_n 0, 1) ∧ decode cX8_lessens 38 = .ok (.getfield 88, 3) ∧ decode cX8_lessens 41 = .ok (.iload 5, 2) ∧ decode cX8_lessens 43 = .ok (.iaload, 1) := by decide +kernel
theorem dX8_lessens_30 : decode cX8_lessens 30 = .ok (.iload 5, 2) := zy_b28mi_2.1
theorem dX8_lessens_32 : decode cX8_lessens 32 = .ok (.iaload, 1) := zy_b28mi_2.2.1
theorem dX8_lessens_33 : decode cX8_lessens 33 = .ok (.iload_n 2, 1) := zy_b28mi_2.2.2.1
theorem dX8_lessens_34 : decode cX8_lessens 34 = .ok (.if_icmp .ne 48, 3) := zy_b28mi_2.2.2.2.1
theorem dX8_lessens_37 : decode cX8_lessens 37 = .ok (.aload_n 0, 1) := zy_b28mi_2.2.2.2.2.1
theorem dX8_lessens_38 : decode cX8_lessens 38 = .ok (.getfield 88, 3) := zy_b28mi_2.2.2.2.2.2.1
theorem dX8_lessens_41 : decode cX8_lessens 41 = .ok (.iload 5, 2) := zy_b28mi_2.2.2.2.2.2.2.1
theorem dX8_lessens_43 : decode cX8_lessens 43 = .ok (.iaload, 1) := zy_b28mi_2.2.2.2.2.2.2.2
theorem zy_b28mi_3 : decode cX8_lessens 44 = .ok (.iload 4, 2) ∧ decode cX8_lessens 46 = .ok (.if_icmp .ge 13, 3) ∧ decode cX8_lessens 49 = .ok (.aload_n 0, 1) ∧ decode cX8_lessens 50 = .ok (.getfield 88, 3) ∧ decode cX8_lessens 53 = .ok (.iload 5, 2) ∧ decode cX8_lessens 55 = .ok (.iaload, 1) ∧ decode cX8_lessens 56 = .ok (.goto 5, 3) ∧ decode cX8_lessens 59 = .ok (.iload 4, 2) := by decide +kernel
theorem dX8_lessens_44 : decode cX8_lessens 44 = .ok (.iload 4, 2) := zy_b28mi_3.1
theorem dX8_lessens_46 : decode cX8_lessens 46 = .ok (.if_icmp .ge 13, 3) := zy_b28mi_3.2.1
theorem dX8_lessens_49 : decode cX8_lessens 49 = .ok (.aload_n 0, 1) := zy_b28mi_3.2.2.1
theorem dX8_lessens_50 : decode cX8_lessens 50 = .ok (.getfield 88, 3) := zy_b28mi_3.2.2.2.1
theorem dX8_lessens_53 : decode cX8_lessens 53 = .ok (.iload 5, 2) := zy_b28mi_3.2.2.2.2.1
theorem dX8_lessens_55 : decode cX8_lessens 55 = .ok (.iaload, 1) := zy_b28mi_3.2.2.2.2.2.1
theorem dX8_lessens_56 : decode cX8_lessens 56 = .ok (.goto 5, 3) := zy_b28mi_3.2.2.2.2.2.2.1
theorem dX8_lessens_59 : decode cX8_lessens 59 = .ok (.iload 4, 2) := zy_b28mi_3.2.2.2.2.2.2.2
theorem zy_b28mi_4 : decode cX8_lessens 61 = .ok (.istore 6, 2) ∧ decode cX8_lessens 63 = .ok (.aload_n 0, 1) ∧ decode cX8_lessens 64 = .ok (.getfield 88, 3) ∧ decode cX8_lessens 67 = .ok (.iload 5, 2) ∧ decode cX8_lessens 69 = .ok (.dup2, 1) ∧ decode cX8_lessens 70 = .ok (.iaload, 1) ∧ decode cX8_lessens 71 = .ok (.iload 6, 2) ∧ decode cX8_lessens 73 = .ok (.isub, 1) := by decide +kernel
theorem dX8_lessens_61 : decode cX8_lessens 61 = .ok (.istore 6, 2) := zy_b28mi_4.1
theorem dX8_lessens_63 : decode cX8_lessens 63 = .ok (.aload_n 0, 1) := zy_b28mi_4.2.1
theorem dX8_lessens_64 : decode cX8_lessens 64 = .ok (.getfield 88, 3) := zy_b28mi_4.2.2.1
theorem dX8_lessens_67 : decode cX8_lessens 67 = .ok (.iload 5, 2) := zy_b28mi_4.2.2.2.1
theorem dX8_lessens_69 : decode cX8_lessens 69 = .ok (.dup2, 1) := zy_b28mi_4.2.2.2.2.1
theorem dX8_lessens_70 : decode cX8_lessens 70 = .ok (.iaload, 1) := zy_b28mi_4.2.2.2.2.2.1
theorem dX8_lessens_71 : decode cX8_lessens 71 = .ok (.iload 6, 2) := zy_b28mi_4.2.2.2.2.2.2.1
theorem dX8_lessens_73 : decode cX8_lessens 73 = .ok (.isub, 1) := zy_b28mi_4.2.2.2.2.2.2.2
theorem zy_b28mi_5 : decode cX8_lessens 74 = .ok (.iastore, 1) ∧ decode cX8_lessens 75 = .ok (.iload 4, 2) ∧ decode cX8_lessens 77 = .ok (.iload 6, 2) ∧ decode cX8_lessens 79 = .ok (.isub, 1) ∧ decode cX8_lessens 80 = .ok (.istore 4, 2) ∧ decode cX8_lessens 82 = .ok (.iinc 5 1, 3) ∧ decode cX8_lessens 85 = .ok (.goto (-79), 3) ∧ decode cX8_lessens 88 = .ok (.aload_n 0, 1) := by decide +kernel
theorem dX8_lessens_74 : decode cX8_lessens 74 = .ok (.iastore, 1) := zy_b28mi_5.1
theorem dX8_lessens_75 : decode cX8_lessens 75 = .ok (.iload 4, 2) := zy_b28mi_5.2.1
theorem dX8_lessens_77 : decode cX8_lessens 77 = .ok (.iload 6, 2) := zy_b28mi_5.2.2.1
theorem dX8_lessens_79 : decode cX8_lessens 79 = .ok (.isub, 1) := zy_b28mi_5.2.2.2.1
theorem dX8_lessens_80 : decode cX8_lessens 80 = .ok (.istore 4, 2) := zy_b28mi_5.2.2.2.2.1
theorem dX8_lessens_82 : decode cX8_lessens 82 = .ok (.iinc 5 1, 3) := zy_b28mi_5.2.2.2.2.2.1
theorem dX8_lessens_85 : decode cX8_lessens 85 = .ok (.goto (-79), 3) := zy_b28mi_5.2.2.2.2.2.2.1
theorem dX8_lessens_88 : decode cX8_lessens 88 = .ok (.aload_n 0, 1) := zy_b28mi_5.2.2.2.2.2.2.2
theorem zy_b28mi_6 : decode cX8_lessens 89 = .ok (.invokevirtual 247, 3) ∧ decode cX8_lessens 92 = .ok (.iload 4, 2) ∧ decode cX8_lessens 94 = .ok (.ifCond .ne 4, 3) ∧ decode cX8_lessens 97 = .ok (.return_, 1) ∧ decode cX8_lessens 98 = .ok (.aload_n 0, 1) ∧ decode cX8_lessens 99 = .ok (.iload_n 2, 1) ∧ decode cX8_lessens 100 = .ok (.iload_n 1, 1) ∧ decode cX8_lessens 101 = .ok (.aload_n 0, 1) := by decide +kernel
theorem dX8_lessens_89 : decode cX8_lessens 89 = .ok (.invokevirtual 247, 3) := zy_b28mi_6.1
theorem dX8_lessens_92 : decode cX8_lessens 92 = .ok (.iload 4, 2) := zy_b28mi_6.2.1
theorem dX8_lessens_94 : decode cX8_lessens 94 = .ok (.ifCond .ne 4, 3) := zy_b28mi_6.2.2.1
theorem dX8_lessens_97 : decode cX8_lessens 97 = .ok (.return_, 1) := zy_b28mi_6.2.2.2.1
theorem dX8_lessens_98 : decode cX8_lessens 98 = .ok (.aload_n 0, 1) := zy_b28mi_6.2.2.2.2.1
theorem dX8_lessens_99 : decode cX8_lessens 99 = .ok (.iload_n 2, 1) := zy_b28mi_6.2.2.2.2.2.1
theorem dX8_lessens_100 : decode cX8_lessens 100 = .ok (.iload_n 1, 1) := zy_b28mi_6.2.2.2.2.2.2.1
theorem dX8_lessens_101 : decode cX8_lessens 101 = .ok (.aload_n 0, 1) := zy_b28mi_6.2.2.2.2.2.2.2
theorem zy_b28mi_7 : decode cX8_lessens 102 = .ok (.getfield 223, 3) ∧ decode cX8_lessens 105 = .ok (.invokevirtual 250, 3) ∧ decode cX8_lessens 108 = .ok (.istore 5, 2) ∧ decode cX8_lessens 110 = .ok (.iload 5, 2) ∧ decode cX8_lessens 112 = .ok (.ifCond .ge 54, 3) ∧ decode cX8_lessens 115 = .ok (.aload_n 0, 1) ∧ decode cX8_lessens 116 = .ok (.getfield 230, 3) ∧ decode cX8_lessens 119 = .ok (.istore 5, 2) := by decide +kernel
theorem dX8_lessens_102 : decode cX8_lessens 102 = .ok (.getfield 223, 3) := zy_b28mi_7.1
theorem dX8_lessens_105 : decode cX8_lessens 105 = .ok (.invokevirtual 250, 3) := zy_b28mi_7.2.1
theorem dX8_lessens_108 : decode cX8_lessens 108 = .ok (.istore 5, 2) := zy_b28mi_7.2.2.1
theorem dX8_lessens_110 : decode cX8_lessens 110 = .ok (.iload 5, 2) := zy_b28mi_7.2.2.2.1
theorem dX8_lessens_112 : decode cX8_lessens 112 = .ok (.ifCond .ge 54, 3) := zy_b28mi_7.2.2.2.2.1
theorem dX8_lessens_115 : decode cX8_lessens 115 = .ok (.aload_n 0, 1) := zy_b28mi_7.2.2.2.2.2.1
theorem dX8_lessens_116 : decode cX8_lessens 116 = .ok (.getfield 230, 3) := zy_b28mi_7.2.2.2.2.2.2.1
theorem dX8_lessens_119 : decode cX8_lessens 119 = .ok (.istore 5, 2) := zy_b28mi_7.2.2.2.2.2.2.2
theorem zy_b28mi_8 : decode cX8_lessens 121 = .ok (.aload_n 0, 1) ∧ decode cX8_lessens 122 = .ok (.getfield 79, 3) ∧ decode cX8_lessens 125 = .ok (.iload 5, 2) ∧ decode cX8_lessens 127 = .ok (.iload_n 2, 1) ∧ decode cX8_lessens 128 = .ok (.iastore, 1) ∧ decode cX8_lessens 129 = .ok (.aload_n 0, 1) ∧ decode cX8_lessens 130 = .ok (.getfield 82, 3) ∧ decode cX8_lessens 133 = .ok (.iload 5, 2) := by decide +kernel
theorem dX8_lessens_121 : decode cX8_lessens 121 = .ok (.aload_n 0, 1) := zy_b28mi_8.1
theorem dX8_lessens_122 : decode cX8_lessens 122 = .ok (.getfield 79, 3) := zy_b28mi_8.2.1
theorem dX8_lessens_125 : decode cX8_lessens 125 = .ok (.iload 5, 2) := zy_b28mi_8.2.2.1
theorem dX8_lessens_127 : decode cX8_lessens 127 = .ok (.iload_n 2, 1) := zy_b28mi_8.2.2.2.1
theorem dX8_lessens_128 : decode cX8_lessens 128 = .ok (.iastore, 1) := zy_b28mi_8.2.2.2.2.1
theorem dX8_lessens_129 : decode cX8_lessens 129 = .ok (.aload_n 0, 1) := zy_b28mi_8.2.2.2.2.2.1
theorem dX8_lessens_130 : decode cX8_lessens 130 = .ok (.getfield 82, 3) := zy_b28mi_8.2.2.2.2.2.2.1
theorem dX8_lessens_133 : decode cX8_lessens 133 = .ok (.iload 5, 2) := zy_b28mi_8.2.2.2.2.2.2.2
theorem zy_b28mi_9 : decode cX8_lessens 135 = .ok (.iload_n 1, 1) ∧ decode cX8_lessens 136 = .ok (.iastore, 1) ∧ decode cX8_lessens 137 = .ok (.aload_n 0, 1) ∧ decode cX8_lessens 138 = .ok (.getfield 85, 3) ∧ decode cX8_lessens 141 = .ok (.iload 5, 2) ∧ decode cX8_lessens 143 = .ok (.aload_n 0, 1) ∧ decode cX8_lessens 144 = .ok (.getfield 223, 3) ∧ decode cX8_lessens 147 = .ok (.iastore, 1) := by decide +kernel
theorem dX8_lessens_135 : decode cX8_lessens 135 = .ok (.iload_n 1, 1) := zy_b28mi_9.1
theorem dX8_lessens_136 : decode cX8_lessens 136 = .ok (.iastore, 1) := zy_b28mi_9.2.1
theorem dX8_lessens_137 : decode cX8_lessens 137 = .ok (.aload_n 0, 1) := zy_b28mi_9.2.2.1
theorem dX8_lessens_138 : decode cX8_lessens 138 = .ok (.getfield 85, 3) := zy_b28mi_9.2.2.2.1
theorem dX8_lessens_141 : decode cX8_lessens 141 = .ok (.iload 5, 2) := zy_b28mi_9.2.2.2.2.1
theorem dX8_lessens_143 : decode cX8_lessens 143 = .ok (.aload_n 0, 1) := zy_b28mi_9.2.2.2.2.2.1
theorem dX8_lessens_144 : decode cX8_lessens 144 = .ok (.getfield 223, 3) := zy_b28mi_9.2.2.2.2.2.2.1
theorem dX8_lessens_147 : decode cX8_lessens 147 = .ok (.iastore, 1) := zy_b28mi_9.2.2.2.2.2.2.2
theorem zy_b28mi_10 : decode cX8_lessens 148 = .ok (.aload_n 0, 1) ∧ decode cX8_lessens 149 = .ok (.getfield 88, 3) ∧ decode cX8_lessens 152 = .ok (.iload 5, 2) ∧ decode cX8_lessens 154 = .ok (.iconst 0, 1) ∧ decode cX8_lessens 155 = .ok (.iastore, 1) ∧ decode cX8_lessens 156 = .ok (.aload_n 0, 1) ∧ decode cX8_lessens 157 = .ok (.dup, 1) ∧ decode cX8_lessens 158 = .ok (.getfield 230, 3) := by decide +kernel
theorem dX8_lessens_148 : decode cX8_lessens 148 = .ok (.aload_n 0, 1) := zy_b28mi_10.1
theorem dX8_lessens_149 : decode cX8_lessens 149 = .ok (.getfield 88, 3) := zy_b28mi_10.2.1
theorem dX8_lessens_152 : decode cX8_lessens 152 = .ok (.iload 5, 2) := zy_b28mi_10.2.2.1
theorem dX8_lessens_154 : decode cX8_lessens 154 = .ok (.iconst 0, 1) := zy_b28mi_10.2.2.2.1
theorem dX8_lessens_155 : decode cX8_lessens 155 = .ok (.iastore, 1) := zy_b28mi_10.2.2.2.2.1
theorem dX8_lessens_156 : decode cX8_lessens 156 = .ok (.aload_n 0, 1) := zy_b28mi_10.2.2.2.2.2.1
theorem dX8_lessens_157 : decode cX8_lessens 157 = .ok (.dup, 1) := zy_b28mi_10.2.2.2.2.2.2.1
theorem dX8_lessens_158 : decode cX8_lessens 158 = .ok (.getfield 230, 3) := zy_b28mi_10.2.2.2.2.2.2.2
theorem zy_b28mi_11 : decode cX8_lessens 161 = .ok (.iconst 1, 1) ∧ decode cX8_lessens 162 = .ok (.iadd, 1) ∧ decode cX8_lessens 163 = .ok (.putfield 230, 3) ∧ decode cX8_lessens 166 = .ok (.aload_n 0, 1) ∧ decode cX8_lessens 167 = .ok (.getfield 88, 3) ∧ decode cX8_lessens 170 = .ok (.iload 5, 2) ∧ decode cX8_lessens 172 = .ok (.dup2, 1) ∧ decode cX8_lessens 173 = .ok (.iaload, 1) := by decide +kernel
theorem dX8_lessens_161 : decode cX8_lessens 161 = .ok (.iconst 1, 1) := zy_b28mi_11.1
theorem dX8_lessens_162 : decode cX8_lessens 162 = .ok (.iadd, 1) := zy_b28mi_11.2.1
theorem dX8_lessens_163 : decode cX8_lessens 163 = .ok (.putfield 230, 3) := zy_b28mi_11.2.2.1
theorem dX8_lessens_166 : decode cX8_lessens 166 = .ok (.aload_n 0, 1) := zy_b28mi_11.2.2.2.1
theorem dX8_lessens_167 : decode cX8_lessens 167 = .ok (.getfield 88, 3) := zy_b28mi_11.2.2.2.2.1
theorem dX8_lessens_170 : decode cX8_lessens 170 = .ok (.iload 5, 2) := zy_b28mi_11.2.2.2.2.2.1
theorem dX8_lessens_172 : decode cX8_lessens 172 = .ok (.dup2, 1) := zy_b28mi_11.2.2.2.2.2.2.1
theorem dX8_lessens_173 : decode cX8_lessens 173 = .ok (.iaload, 1) := zy_b28mi_11.2.2.2.2.2.2.2
theorem zy_b28mi_12 : decode cX8_lessens 174 = .ok (.iload 4, 2) ∧ decode cX8_lessens 176 = .ok (.iadd, 1) ∧ decode cX8_lessens 177 = .ok (.iastore, 1) ∧ decode cX8_lessens 178 = .ok (.return_, 1) := by decide +kernel
theorem dX8_lessens_174 : decode cX8_lessens 174 = .ok (.iload 4, 2) := zy_b28mi_12.1
theorem dX8_lessens_176 : decode cX8_lessens 176 = .ok (.iadd, 1) := zy_b28mi_12.2.1
theorem dX8_lessens_177 : decode cX8_lessens 177 = .ok (.iastore, 1) := zy_b28mi_12.2.2.1
theorem dX8_lessens_178 : decode cX8_lessens 178 = .ok (.return_, 1) := zy_b28mi_12.2.2.2
theorem zy_b28mi_13 : decode cX8_work 0 = .ok (.aload_n 0, 1) ∧ decode cX8_work 1 = .ok (.iload_n 1, 1) ∧ decode cX8_work 2 = .ok (.invokevirtual 127, 3) ∧ decode cX8_work 5 = .ok (.ifCond .eq 31, 3) ∧ decode cX8_work 8 = .ok (.aload_n 0, 1) ∧ decode cX8_work 9 = .ok (.iload_n 2, 1) ∧ decode cX8_work 10 = .ok (.iload_n 3, 1) ∧ decode cX8_work 11 = .ok (.invokevirtual 233, 3) := by decide +kernel
theorem dX8_work_0 : decode cX8_work 0 = .ok (.aload_n 0, 1) := zy_b28mi_13.1
theorem dX8_work_1 : decode cX8_work 1 = .ok (.iload_n 1, 1) := zy_b28mi_13.2.1
theorem dX8_work_2 : decode cX8_work 2 = .ok (.invokevirtual 127, 3) := zy_b28mi_13.2.2.1
theorem dX8_work_5 : decode cX8_work 5 = .ok (.ifCond .eq 31, 3) := zy_b28mi_13.2.2.2.1
theorem dX8_work_8 : decode cX8_work 8 = .ok (.aload_n 0, 1) := zy_b28mi_13.2.2.2.2.1
theorem dX8_work_9 : decode cX8_work 9 = .ok (.iload_n 2, 1) := zy_b28mi_13.2.2.2.2.2.1
theorem dX8_work_10 : decode cX8_work 10 = .ok (.iload_n 3, 1) := zy_b28mi_13.2.2.2.2.2.2.1
theorem dX8_work_11 : decode cX8_work 11 = .ok (.invokevirtual 233, 3) := zy_b28mi_13.2.2.2.2.2.2.2
theorem zy_b28mi_14 : decode cX8_work 14 = .ok (.ifCond .eq 22, 3) ∧ decode cX8_work 17 = .ok (.iload_n 3, 1) ∧ decode cX8_work 18 = .ok (.aload_n 0, 1) ∧ decode cX8_work 19 = .ok (.iload_n 1, 1) ∧ decode cX8_work 20 = .ok (.invokevirtual 237, 3) ∧ decode cX8_work 23 = .ok (.if_icmp .gt 13, 3) ∧ decode cX8_work 26 = .ok (.aload_n 0, 1) ∧ decode cX8_work 27 = .ok (.getfield 230, 3) := by decide +kernel
theorem dX8_work_14 : decode cX8_work 14 = .ok (.ifCond .eq 22, 3) := zy_b28mi_14.1
theorem dX8_work_17 : decode cX8_work 17 = .ok (.iload_n 3, 1) := zy_b28mi_14.2.1
theorem dX8_work_18 : decode cX8_work 18 = .ok (.aload_n 0, 1) := zy_b28mi_14.2.2.1
theorem dX8_work_19 : decode cX8_work 19 = .ok (.iload_n 1, 1) := zy_b28mi_14.2.2.2.1
theorem dX8_work_20 : decode cX8_work 20 = .ok (.invokevirtual 237, 3) := zy_b28mi_14.2.2.2.2.1
theorem dX8_work_23 : decode cX8_work 23 = .ok (.if_icmp .gt 13, 3) := zy_b28mi_14.2.2.2.2.2.1
theorem dX8_work_26 : decode cX8_work 26 = .ok (.aload_n 0, 1) := zy_b28mi_14.2.2.2.2.2.2.1
theorem dX8_work_27 : decode cX8_work 27 = .ok (.getfield 230, 3) := zy_b28mi_14.2.2.2.2.2.2.2
theorem zy_b28mi_15 : decode cX8_work 30 = .ok (.sipush 300, 3) ∧ decode cX8_work 33 = .ok (.if_icmp .ne 5, 3) ∧ decode cX8_work 36 = .ok (.iconst (-1), 1) ∧ decode cX8_work 37 = .ok (.ireturn, 1) ∧ decode cX8_work 38 = .ok (.aload_n 0, 1) ∧ decode cX8_work 39 = .ok (.getfield 58, 3) ∧ decode cX8_work 42 = .ok (.iload_n 2, 1) ∧ decode cX8_work 43 = .ok (.iaload, 1) := by decide +kernel
theorem dX8_work_30 : decode cX8_work 30 = .ok (.sipush 300, 3) := zy_b28mi_15.1
theorem dX8_work_33 : decode cX8_work 33 = .ok (.if_icmp .ne 5, 3) := zy_b28mi_15.2.1
theorem dX8_work_36 : decode cX8_work 36 = .ok (.iconst (-1), 1) := zy_b28mi_15.2.2.1
theorem dX8_work_37 : decode cX8_work 37 = .ok (.ireturn, 1) := zy_b28mi_15.2.2.2.1
theorem dX8_work_38 : decode cX8_work 38 = .ok (.aload_n 0, 1) := zy_b28mi_15.2.2.2.2.1
theorem dX8_work_39 : decode cX8_work 39 = .ok (.getfield 58, 3) := zy_b28mi_15.2.2.2.2.2.1
theorem dX8_work_42 : decode cX8_work 42 = .ok (.iload_n 2, 1) := zy_b28mi_15.2.2.2.2.2.2.1
theorem dX8_work_43 : decode cX8_work 43 = .ok (.iaload, 1) := zy_b28mi_15.2.2.2.2.2.2.2
theorem zy_b28mi_16 : decode cX8_work 44 = .ok (.istore 4, 2) ∧ decode cX8_work 46 = .ok (.iload_n 1, 1) ∧ decode cX8_work 47 = .ok (.iload 4, 2) ∧ decode cX8_work 49 = .ok (.if_icmp .ne 7, 3) ∧ decode cX8_work 52 = .ok (.iconst 0, 1) ∧ decode cX8_work 53 = .ok (.goto 16, 3) ∧ decode cX8_work 56 = .ok (.iload_n 3, 1) ∧ decode cX8_work 57 = .ok (.aload_n 0, 1) := by decide +kernel
theorem dX8_work_44 : decode cX8_work 44 = .ok (.istore 4, 2) := zy_b28mi_16.1
theorem dX8_work_46 : decode cX8_work 46 = .ok (.iload_n 1, 1) := zy_b28mi_16.2.1
theorem dX8_work_47 : decode cX8_work 47 = .ok (.iload 4, 2) := zy_b28mi_16.2.2.1
theorem dX8_work_49 : decode cX8_work 49 = .ok (.if_icmp .ne 7, 3) := zy_b28mi_16.2.2.2.1
theorem dX8_work_52 : decode cX8_work 52 = .ok (.iconst 0, 1) := zy_b28mi_16.2.2.2.2.1
theorem dX8_work_53 : decode cX8_work 53 = .ok (.goto 16, 3) := zy_b28mi_16.2.2.2.2.2.1
theorem dX8_work_56 : decode cX8_work 56 = .ok (.iload_n 3, 1) := zy_b28mi_16.2.2.2.2.2.2.1
theorem dX8_work_57 : decode cX8_work 57 = .ok (.aload_n 0, 1) := zy_b28mi_16.2.2.2.2.2.2.2
theorem zy_b28mi_17 : decode cX8_work 58 = .ok (.getfield 28, 3) ∧ decode cX8_work 61 = .ok (.aload_n 0, 1) ∧ decode cX8_work 62 = .ok (.getfield 61, 3) ∧ decode cX8_work 65 = .ok (.iload_n 2, 1) ∧ decode cX8_work 66 = .ok (.iaload, 1) ∧ decode cX8_work 67 = .ok (.iaload, 1) ∧ decode cX8_work 68 = .ok (.imul, 1) ∧ decode cX8_work 69 = .ok (.istore 5, 2) := by decide +kernel
theorem dX8_work_58 : decode cX8_work 58 = .ok (.getfield 28, 3) := zy_b28mi_17.1
theorem dX8_work_61 : decode cX8_work 61 = .ok (.aload_n 0, 1) := zy_b28mi_17.2.1
theorem dX8_work_62 : decode cX8_work 62 = .ok (.getfield 61, 3) := zy_b28mi_17.2.2.1
theorem dX8_work_65 : decode cX8_work 65 = .ok (.iload_n 2, 1) := zy_b28mi_17.2.2.2.1
theorem dX8_work_66 : decode cX8_work 66 = .ok (.iaload, 1) := zy_b28mi_17.2.2.2.2.1
theorem dX8_work_67 : decode cX8_work 67 = .ok (.iaload, 1) := zy_b28mi_17.2.2.2.2.2.1
theorem dX8_work_68 : decode cX8_work 68 = .ok (.imul, 1) := zy_b28mi_17.2.2.2.2.2.2.1
theorem dX8_work_69 : decode cX8_work 69 = .ok (.istore 5, 2) := zy_b28mi_17.2.2.2.2.2.2.2
theorem zy_b28mi_18 : decode cX8_work 71 = .ok (.aload_n 0, 1) ∧ decode cX8_work 72 = .ok (.getfield 40, 3) ∧ decode cX8_work 75 = .ok (.iload_n 1, 1) ∧ decode cX8_work 76 = .ok (.dup2, 1) ∧ decode cX8_work 77 = .ok (.iaload, 1) ∧ decode cX8_work 78 = .ok (.iload_n 3, 1) ∧ decode cX8_work 79 = .ok (.iadd, 1) ∧ decode cX8_work 80 = .ok (.iastore, 1) := by decide +kernel
theorem dX8_work_71 : decode cX8_work 71 = .ok (.aload_n 0, 1) := zy_b28mi_18.1
theorem dX8_work_72 : decode cX8_work 72 = .ok (.getfield 40, 3) := zy_b28mi_18.2.1
theorem dX8_work_75 : decode cX8_work 75 = .ok (.iload_n 1, 1) := zy_b28mi_18.2.2.1
theorem dX8_work_76 : decode cX8_work 76 = .ok (.dup2, 1) := zy_b28mi_18.2.2.2.1
theorem dX8_work_77 : decode cX8_work 77 = .ok (.iaload, 1) := zy_b28mi_18.2.2.2.2.1
theorem dX8_work_78 : decode cX8_work 78 = .ok (.iload_n 3, 1) := zy_b28mi_18.2.2.2.2.2.1
theorem dX8_work_79 : decode cX8_work 79 = .ok (.iadd, 1) := zy_b28mi_18.2.2.2.2.2.2.1
theorem dX8_work_80 : decode cX8_work 80 = .ok (.iastore, 1) := zy_b28mi_18.2.2.2.2.2.2.2
theorem zy_b28mi_19 : decode cX8_work 81 = .ok (.iload_n 1, 1) ∧ decode cX8_work 82 = .ok (.iload 4, 2) ∧ decode cX8_work 84 = .ok (.if_icmp .eq 47, 3) ∧ decode cX8_work 87 = .ok (.aload_n 0, 1) ∧ decode cX8_work 88 = .ok (.getfield 43, 3) ∧ decode cX8_work 91 = .ok (.iload_n 1, 1) ∧ decode cX8_work 92 = .ok (.dup2, 1) ∧ decode cX8_work 93 = .ok (.iaload, 1) := by decide +kernel
theorem dX8_work_81 : decode cX8_work 81 = .ok (.iload_n 1, 1) := zy_b28mi_19.1
theorem dX8_work_82 : decode cX8_work 82 = .ok (.iload 4, 2) := zy_b28mi_19.2.1
theorem dX8_work_84 : decode cX8_work 84 = .ok (.if_icmp .eq 47, 3) := zy_b28mi_19.2.2.1
theorem dX8_work_87 : decode cX8_work 87 = .ok (.aload_n 0, 1) := zy_b28mi_19.2.2.2.1
theorem dX8_work_88 : decode cX8_work 88 = .ok (.getfield 43, 3) := zy_b28mi_19.2.2.2.2.1
theorem dX8_work_91 : decode cX8_work 91 = .ok (.iload_n 1, 1) := zy_b28mi_19.2.2.2.2.2.1
theorem dX8_work_92 : decode cX8_work 92 = .ok (.dup2, 1) := zy_b28mi_19.2.2.2.2.2.2.1
theorem dX8_work_93 : decode cX8_work 93 = .ok (.iaload, 1) := zy_b28mi_19.2.2.2.2.2.2.2
theorem zy_b28mi_20 : decode cX8_work 94 = .ok (.iload_n 3, 1) ∧ decode cX8_work 95 = .ok (.aload_n 0, 1) ∧ decode cX8_work 96 = .ok (.getfield 28, 3) ∧ decode cX8_work 99 = .ok (.iconst 5, 1) ∧ decode cX8_work 100 = .ok (.iaload, 1) ∧ decode cX8_work 101 = .ok (.imul, 1) ∧ decode cX8_work 102 = .ok (.iadd, 1) ∧ decode cX8_work 103 = .ok (.iastore, 1) := by decide +kernel
theorem dX8_work_94 : decode cX8_work 94 = .ok (.iload_n 3, 1) := zy_b28mi_20.1
theorem dX8_work_95 : decode cX8_work 95 = .ok (.aload_n 0, 1) := zy_b28mi_20.2.1
theorem dX8_work_96 : decode cX8_work 96 = .ok (.getfield 28, 3) := zy_b28mi_20.2.2.1
theorem dX8_work_99 : decode cX8_work 99 = .ok (.iconst 5, 1) := zy_b28mi_20.2.2.2.1
theorem dX8_work_100 : decode cX8_work 100 = .ok (.iaload, 1) := zy_b28mi_20.2.2.2.2.1
theorem dX8_work_101 : decode cX8_work 101 = .ok (.imul, 1) := zy_b28mi_20.2.2.2.2.2.1
theorem dX8_work_102 : decode cX8_work 102 = .ok (.iadd, 1) := zy_b28mi_20.2.2.2.2.2.2.1
theorem dX8_work_103 : decode cX8_work 103 = .ok (.iastore, 1) := zy_b28mi_20.2.2.2.2.2.2.2
theorem zy_b28mi_21 : decode cX8_work 104 = .ok (.aload_n 0, 1) ∧ decode cX8_work 105 = .ok (.getfield 46, 3) ∧ decode cX8_work 108 = .ok (.iload 4, 2) ∧ decode cX8_work 110 = .ok (.dup2, 1) ∧ decode cX8_work 111 = .ok (.iaload, 1) ∧ decode cX8_work 112 = .ok (.iload_n 3, 1) ∧ decode cX8_work 113 = .ok (.aload_n 0, 1) ∧ decode cX8_work 114 = .ok (.getfield 28, 3) := by decide +kernel
theorem dX8_work_104 : decode cX8_work 104 = .ok (.aload_n 0, 1) := zy_b28mi_21.1
theorem dX8_work_105 : decode cX8_work 105 = .ok (.getfield 46, 3) := zy_b28mi_21.2.1
theorem dX8_work_108 : decode cX8_work 108 = .ok (.iload 4, 2) := zy_b28mi_21.2.2.1
theorem dX8_work_110 : decode cX8_work 110 = .ok (.dup2, 1) := zy_b28mi_21.2.2.2.1
theorem dX8_work_111 : decode cX8_work 111 = .ok (.iaload, 1) := zy_b28mi_21.2.2.2.2.1
theorem dX8_work_112 : decode cX8_work 112 = .ok (.iload_n 3, 1) := zy_b28mi_21.2.2.2.2.2.1
theorem dX8_work_113 : decode cX8_work 113 = .ok (.aload_n 0, 1) := zy_b28mi_21.2.2.2.2.2.2.1
theorem dX8_work_114 : decode cX8_work 114 = .ok (.getfield 28, 3) := zy_b28mi_21.2.2.2.2.2.2.2
theorem zy_b28mi_22 : decode cX8_work 117 = .ok (.iconst 5, 1) ∧ decode cX8_work 118 = .ok (.iaload, 1) ∧ decode cX8_work 119 = .ok (.imul, 1) ∧ decode cX8_work 120 = .ok (.iadd, 1) ∧ decode cX8_work 121 = .ok (.iastore, 1) ∧ decode cX8_work 122 = .ok (.aload_n 0, 1) ∧ decode cX8_work 123 = .ok (.iload_n 1, 1) ∧ decode cX8_work 124 = .ok (.iload 4, 2) := by decide +kernel
theorem dX8_work_117 : decode cX8_work 117 = .ok (.iconst 5, 1) := zy_b28mi_22.1
theorem dX8_work_118 : decode cX8_work 118 = .ok (.iaload, 1) := zy_b28mi_22.2.1
theorem dX8_work_119 : decode cX8_work 119 = .ok (.imul, 1) := zy_b28mi_22.2.2.1
theorem dX8_work_120 : decode cX8_work 120 = .ok (.iadd, 1) := zy_b28mi_22.2.2.2.1
theorem dX8_work_121 : decode cX8_work 121 = .ok (.iastore, 1) := zy_b28mi_22.2.2.2.2.1
theorem dX8_work_122 : decode cX8_work 122 = .ok (.aload_n 0, 1) := zy_b28mi_22.2.2.2.2.2.1
theorem dX8_work_123 : decode cX8_work 123 = .ok (.iload_n 1, 1) := zy_b28mi_22.2.2.2.2.2.2.1
theorem dX8_work_124 : decode cX8_work 124 = .ok (.iload 4, 2) := zy_b28mi_22.2.2.2.2.2.2.2
theorem zy_b28mi_23 : decode cX8_work 126 = .ok (.iload 5, 2) ∧ decode cX8_work 128 = .ok (.invokevirtual 240, 3) ∧ decode cX8_work 131 = .ok (.aload_n 0, 1) ∧ decode cX8_work 132 = .ok (.iload_n 2, 1) ∧ decode cX8_work 133 = .ok (.iload_n 3, 1) ∧ decode cX8_work 134 = .ok (.invokevirtual 244, 3) ∧ decode cX8_work 137 = .ok (.ireturn, 1) := by decide +kernel
theorem dX8_work_126 : decode cX8_work 126 = .ok (.iload 5, 2) := zy_b28mi_23.1
theorem dX8_work_128 : decode cX8_work 128 = .ok (.invokevirtual 240, 3) := zy_b28mi_23.2.1
theorem dX8_work_131 : decode cX8_work 131 = .ok (.aload_n 0, 1) := zy_b28mi_23.2.2.1
theorem dX8_work_132 : decode cX8_work 132 = .ok (.iload_n 2, 1) := zy_b28mi_23.2.2.2.1
theorem dX8_work_133 : decode cX8_work 133 = .ok (.iload_n 3, 1) := zy_b28mi_23.2.2.2.2.1
theorem dX8_work_134 : decode cX8_work 134 = .ok (.invokevirtual 244, 3) := zy_b28mi_23.2.2.2.2.2.1
theorem dX8_work_137 : decode cX8_work 137 = .ok (.ireturn, 1) := zy_b28mi_23.2.2.2.2.2.2
theorem zz_rg_wk {f : Nat → Int32} {n : Nat} {lo hi hj : Int} (h : zz_rg f n lo hi) (hh : hi ≤ hj) : zz_rg f n lo hj := fun k hk => ⟨(h k hk).1, Int.le_trans (h k hk).2 hh⟩
theorem zz_addI {x y : Int32} (h1 : 0 ≤ x.toInt) (h2 : 0 ≤ y.toInt) (h3 : x.toInt + y.toInt < 2147483648) : (x + y).toInt = x.toInt + y.toInt := by
  rw [Int32.toInt_add]
  rw [Int.bmod_eq_of_le] <;> omega
theorem zz_mulR {x y : Int32} (h1 : 0 ≤ x.toInt ∧ x.toInt ≤ 60) (h2 : 0 ≤ y.toInt ∧ y.toInt ≤ 99) : 0 ≤ (x * y).toInt ∧ (x * y).toInt ≤ 5940 := by
  have a := Int.mul_nonneg h1.1 h2.1
  have b : x.toInt * y.toInt ≤ 60 * 99 := Int.mul_le_mul h1.2 h2.2 h2.1 (by decide)
  rw [Int32.toInt_mul]
  rw [Int.bmod_eq_of_le] <;> omega
