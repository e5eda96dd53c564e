theorem tw_450 : Cond.fieldLink RX8 109 "HandsReturnedModel" "lacks" "[I" ∈ zz_all := zz_m3 211 rfl rfl
theorem zy_b41ms_0 : decode cX8_lost 0 = .ok (.aload_n 0, 1) ∧ decode cX8_lost 1 = .ok (.getfield 292, 3) ∧ decode cX8_lost 4 = .ok (.istore_n 2, 1) ∧ decode cX8_lost 5 = .ok (.iconst 0, 1) ∧ decode cX8_lost 6 = .ok (.istore_n 3, 1) ∧ decode cX8_lost 7 = .ok (.iconst 0, 1) ∧ decode cX8_lost 8 = .ok (.istore 4, 2) ∧ decode cX8_lost 10 = .ok (.iload 4, 2) := by decide +kernel
theorem dX8_lost_0 : decode cX8_lost 0 = .ok (.aload_n 0, 1) := zy_b41ms_0.1
theorem dX8_lost_1 : decode cX8_lost 1 = .ok (.getfield 292, 3) := zy_b41ms_0.2.1
theorem dX8_lost_4 : decode cX8_lost 4 = .ok (.istore_n 2, 1) := zy_b41ms_0.2.2.1
theorem dX8_lost_5 : decode cX8_lost 5 = .ok (.iconst 0, 1) := zy_b41ms_0.2.2.2.1
theorem dX8_lost_6 : decode cX8_lost 6 = .ok (.istore_n 3, 1) := zy_b41ms_0.2.2.2.2.1
theorem dX8_lost_7 : decode cX8_lost 7 = .ok (.iconst 0, 1) := zy_b41ms_0.2.2.2.2.2.1
theorem dX8_lost_8 : decode cX8_lost 8 = .ok (.istore 4, 2) := zy_b41ms_0.2.2.2.2.2.2.1
theorem dX8_lost_10 : decode cX8_lost 10 = .ok (.iload 4, 2) := zy_b41ms_0.2.2.2.2.2.2.2
theorem zy_b41ms_1 : decode cX8_lost 12 = .ok (.aload_n 0, 1) ∧ decode cX8_lost 13 = .ok (.getfield 292, 3) ∧ decode cX8_lost 16 = .ok (.if_icmp .ge 33, 3) ∧ decode cX8_lost 19 = .ok (.aload_n 0, 1) ∧ decode cX8_lost 20 = .ok (.getfield 109, 3) ∧ decode cX8_lost 23 = .ok (.aload_n 0, 1) ∧ decode cX8_lost 24 = .ok (.getfield 106, 3) ∧ decode cX8_lost 27 = .ok (.iload 4, 2) := by decide +kernel
theorem dX8_lost_12 : decode cX8_lost 12 = .ok (.aload_n 0, 1) := zy_b41ms_1.1
theorem dX8_lost_13 : decode cX8_lost 13 = .ok (.getfield 292, 3) := zy_b41ms_1.2.1
theorem dX8_lost_16 : decode cX8_lost 16 = .ok (.if_icmp .ge 33, 3) := zy_b41ms_1.2.2.1
theorem dX8_lost_19 : decode cX8_lost 19 = .ok (.aload_n 0, 1) := zy_b41ms_1.2.2.2.1
theorem dX8_lost_20 : decode cX8_lost 20 = .ok (.getfield 109, 3) := zy_b41ms_1.2.2.2.2.1
theorem dX8_lost_23 : decode cX8_lost 23 = .ok (.aload_n 0, 1) := zy_b41ms_1.2.2.2.2.2.1
theorem dX8_lost_24 : decode cX8_lost 24 = .ok (.getfield 106, 3) := zy_b41ms_1.2.2.2.2.2.2.1
theorem dX8_lost_27 : decode cX8_lost 27 = .ok (.iload 4, 2) := zy_b41ms_1.2.2.2.2.2.2.2
theorem zy_b41ms_2 : decode cX8_lost 29 = .ok (.iaload, 1) ∧ decode cX8_lost 30 = .ok (.aload_n 0, 1) ∧ decode cX8_lost 31 = .ok (.getfield 64, 3) ∧ decode cX8_lost 34 = .ok (.aload_n 0, 1) ∧ decode cX8_lost 35 = .ok (.getfield 106, 3) ∧ decode cX8_lost 38 = .ok (.iload 4, 2) ∧ decode cX8_lost 40 = .ok (.iaload, 1) ∧ decode cX8_lost 41 = .ok (.iaload, 1) := by decide +kernel
theorem dX8_lost_29 : decode cX8_lost 29 = .ok (.iaload, 1) := zy_b41ms_2.1
theorem dX8_lost_30 : decode cX8_lost 30 = .ok (.aload_n 0, 1) := zy_b41ms_2.2.1
theorem dX8_lost_31 : decode cX8_lost 31 = .ok (.getfield 64, 3) := zy_b41ms_2.2.2.1
theorem dX8_lost_34 : decode cX8_lost 34 = .ok (.aload_n 0, 1) := zy_b41ms_2.2.2.2.1
theorem dX8_lost_35 : decode cX8_lost 35 = .ok (.getfield 106, 3) := zy_b41ms_2.2.2.2.2.1
theorem dX8_lost_38 : decode cX8_lost 38 = .ok (.iload 4, 2) := zy_b41ms_2.2.2.2.2.2.1
theorem dX8_lost_40 : decode cX8_lost 40 = .ok (.iaload, 1) := zy_b41ms_2.2.2.2.2.2.2.1
theorem dX8_lost_41 : decode cX8_lost 41 = .ok (.iaload, 1) := zy_b41ms_2.2.2.2.2.2.2.2
theorem zy_b41ms_3 : decode cX8_lost 42 = .ok (.iastore, 1) ∧ decode cX8_lost 43 = .ok (.iinc 4 1, 3) ∧ decode cX8_lost 46 = .ok (.goto (-36), 3) ∧ decode cX8_lost 49 = .ok (.aload_n 0, 1) ∧ decode cX8_lost 50 = .ok (.getfield 223, 3) ∧ decode cX8_lost 53 = .ok (.istore 4, 2) ∧ decode cX8_lost 55 = .ok (.iload_n 2, 1) ∧ decode cX8_lost 56 = .ok (.ifCond .le 141, 3) := by decide +kernel
theorem dX8_lost_42 : decode cX8_lost 42 = .ok (.iastore, 1) := zy_b41ms_3.1
theorem dX8_lost_43 : decode cX8_lost 43 = .ok (.iinc 4 1, 3) := zy_b41ms_3.2.1
theorem dX8_lost_46 : decode cX8_lost 46 = .ok (.goto (-36), 3) := zy_b41ms_3.2.2.1
theorem dX8_lost_49 : decode cX8_lost 49 = .ok (.aload_n 0, 1) := zy_b41ms_3.2.2.2.1
theorem dX8_lost_50 : decode cX8_lost 50 = .ok (.getfield 223, 3) := zy_b41ms_3.2.2.2.2.1
theorem dX8_lost_53 : decode cX8_lost 53 = .ok (.istore 4, 2) := zy_b41ms_3.2.2.2.2.2.1
theorem dX8_lost_55 : decode cX8_lost 55 = .ok (.iload_n 2, 1) := zy_b41ms_3.2.2.2.2.2.2.1
theorem dX8_lost_56 : decode cX8_lost 56 = .ok (.ifCond .le 141, 3) := zy_b41ms_3.2.2.2.2.2.2.2
theorem zy_b41ms_4 : decode cX8_lost 59 = .ok (.iload_n 1, 1) ∧ decode cX8_lost 60 = .ok (.istore 5, 2) ∧ decode cX8_lost 62 = .ok (.iconst 0, 1) ∧ decode cX8_lost 63 = .ok (.istore 6, 2) ∧ decode cX8_lost 65 = .ok (.iload 6, 2) ∧ decode cX8_lost 67 = .ok (.aload_n 0, 1) ∧ decode cX8_lost 68 = .ok (.getfield 292, 3) ∧ decode cX8_lost 71 = .ok (.if_icmp .ge 120, 3) := by decide +kernel
theorem dX8_lost_59 : decode cX8_lost 59 = .ok (.iload_n 1, 1) := zy_b41ms_4.1
theorem dX8_lost_60 : decode cX8_lost 60 = .ok (.istore 5, 2) := zy_b41ms_4.2.1
theorem dX8_lost_62 : decode cX8_lost 62 = .ok (.iconst 0, 1) := zy_b41ms_4.2.2.1
theorem dX8_lost_63 : decode cX8_lost 63 = .ok (.istore 6, 2) := zy_b41ms_4.2.2.2.1
theorem dX8_lost_65 : decode cX8_lost 65 = .ok (.iload 6, 2) := zy_b41ms_4.2.2.2.2.1
theorem dX8_lost_67 : decode cX8_lost 67 = .ok (.aload_n 0, 1) := zy_b41ms_4.2.2.2.2.2.1
theorem dX8_lost_68 : decode cX8_lost 68 = .ok (.getfield 292, 3) := zy_b41ms_4.2.2.2.2.2.2.1
theorem dX8_lost_71 : decode cX8_lost 71 = .ok (.if_icmp .ge 120, 3) := zy_b41ms_4.2.2.2.2.2.2.2
theorem zy_b41ms_5 : decode cX8_lost 74 = .ok (.aload_n 0, 1) ∧ decode cX8_lost 75 = .ok (.getfield 106, 3) ∧ decode cX8_lost 78 = .ok (.iload 6, 2) ∧ decode cX8_lost 80 = .ok (.iaload, 1) ∧ decode cX8_lost 81 = .ok (.istore 7, 2) ∧ decode cX8_lost 83 = .ok (.aload_n 0, 1) ∧ decode cX8_lost 84 = .ok (.getfield 109, 3) ∧ decode cX8_lost 87 = .ok (.iload 7, 2) := by decide +kernel
theorem dX8_lost_74 : decode cX8_lost 74 = .ok (.aload_n 0, 1) := zy_b41ms_5.1
theorem dX8_lost_75 : decode cX8_lost 75 = .ok (.getfield 106, 3) := zy_b41ms_5.2.1
theorem dX8_lost_78 : decode cX8_lost 78 = .ok (.iload 6, 2) := zy_b41ms_5.2.2.1
theorem dX8_lost_80 : decode cX8_lost 80 = .ok (.iaload, 1) := zy_b41ms_5.2.2.2.1
theorem dX8_lost_81 : decode cX8_lost 81 = .ok (.istore 7, 2) := zy_b41ms_5.2.2.2.2.1
theorem dX8_lost_83 : decode cX8_lost 83 = .ok (.aload_n 0, 1) := zy_b41ms_5.2.2.2.2.2.1
theorem dX8_lost_84 : decode cX8_lost 84 = .ok (.getfield 109, 3) := zy_b41ms_5.2.2.2.2.2.2.1
theorem dX8_lost_87 : decode cX8_lost 87 = .ok (.iload 7, 2) := zy_b41ms_5.2.2.2.2.2.2.2
theorem zy_b41ms_6 : decode cX8_lost 89 = .ok (.iaload, 1) ∧ decode cX8_lost 90 = .ok (.ifCond .eq 95, 3) ∧ decode cX8_lost 93 = .ok (.aload_n 0, 1) ∧ decode cX8_lost 94 = .ok (.getfield 67, 3) ∧ decode cX8_lost 97 = .ok (.iload 7, 2) ∧ decode cX8_lost 99 = .ok (.iaload, 1) ∧ decode cX8_lost 100 = .ok (.iload 4, 2) ∧ decode cX8_lost 102 = .ok (.if_icmp .le 6, 3) := by decide +kernel
theorem dX8_lost_89 : decode cX8_lost 89 = .ok (.iaload, 1) := zy_b41ms_6.1
theorem dX8_lost_90 : decode cX8_lost 90 = .ok (.ifCond .eq 95, 3) := zy_b41ms_6.2.1
theorem dX8_lost_93 : decode cX8_lost 93 = .ok (.aload_n 0, 1) := zy_b41ms_6.2.2.1
theorem dX8_lost_94 : decode cX8_lost 94 = .ok (.getfield 67, 3) := zy_b41ms_6.2.2.2.1
theorem dX8_lost_97 : decode cX8_lost 97 = .ok (.iload 7, 2) := zy_b41ms_6.2.2.2.2.1
theorem dX8_lost_99 : decode cX8_lost 99 = .ok (.iaload, 1) := zy_b41ms_6.2.2.2.2.2.1
theorem dX8_lost_100 : decode cX8_lost 100 = .ok (.iload 4, 2) := zy_b41ms_6.2.2.2.2.2.2.1
theorem dX8_lost_102 : decode cX8_lost 102 = .ok (.if_icmp .le 6, 3) := zy_b41ms_6.2.2.2.2.2.2.2
theorem zy_b41ms_7 : decode cX8_lost 105 = .ok (.goto 80, 3) ∧ decode cX8_lost 108 = .ok (.aload_n 0, 1) ∧ decode cX8_lost 109 = .ok (.getfield 109, 3) ∧ decode cX8_lost 112 = .ok (.iload 7, 2) ∧ decode cX8_lost 114 = .ok (.iaload, 1) ∧ decode cX8_lost 115 = .ok (.iload 5, 2) ∧ decode cX8_lost 117 = .ok (.if_icmp .ge 13, 3) ∧ decode cX8_lost 120 = .ok (.aload_n 0, 1) := by decide +kernel
theorem dX8_lost_105 : decode cX8_lost 105 = .ok (.goto 80, 3) := zy_b41ms_7.1
theorem dX8_lost_108 : decode cX8_lost 108 = .ok (.aload_n 0, 1) := zy_b41ms_7.2.1
theorem dX8_lost_109 : decode cX8_lost 109 = .ok (.getfield 109, 3) := zy_b41ms_7.2.2.1
theorem dX8_lost_112 : decode cX8_lost 112 = .ok (.iload 7, 2) := zy_b41ms_7.2.2.2.1
theorem dX8_lost_114 : decode cX8_lost 114 = .ok (.iaload, 1) := zy_b41ms_7.2.2.2.2.1
theorem dX8_lost_115 : decode cX8_lost 115 = .ok (.iload 5, 2) := zy_b41ms_7.2.2.2.2.2.1
theorem dX8_lost_117 : decode cX8_lost 117 = .ok (.if_icmp .ge 13, 3) := zy_b41ms_7.2.2.2.2.2.2.1
theorem dX8_lost_120 : decode cX8_lost 120 = .ok (.aload_n 0, 1) := zy_b41ms_7.2.2.2.2.2.2.2
theorem zy_b41ms_8 : decode cX8_lost 121 = .ok (.getfield 109, 3) ∧ decode cX8_lost 124 = .ok (.iload 7, 2) ∧ decode cX8_lost 126 = .ok (.iaload, 1) ∧ decode cX8_lost 127 = .ok (.goto 5, 3) ∧ decode cX8_lost 130 = .ok (.iload 5, 2) ∧ decode cX8_lost 132 = .ok (.istore 8, 2) ∧ decode cX8_lost 134 = .ok (.aload_n 0, 1) ∧ decode cX8_lost 135 = .ok (.getfield 109, 3) := by decide +kernel
theorem dX8_lost_121 : decode cX8_lost 121 = .ok (.getfield 109, 3) := zy_b41ms_8.1
theorem dX8_lost_124 : decode cX8_lost 124 = .ok (.iload 7, 2) := zy_b41ms_8.2.1
theorem dX8_lost_126 : decode cX8_lost 126 = .ok (.iaload, 1) := zy_b41ms_8.2.2.1
theorem dX8_lost_127 : decode cX8_lost 127 = .ok (.goto 5, 3) := zy_b41ms_8.2.2.2.1
theorem dX8_lost_130 : decode cX8_lost 130 = .ok (.iload 5, 2) := zy_b41ms_8.2.2.2.2.1
theorem dX8_lost_132 : decode cX8_lost 132 = .ok (.istore 8, 2) := zy_b41ms_8.2.2.2.2.2.1
theorem dX8_lost_134 : decode cX8_lost 134 = .ok (.aload_n 0, 1) := zy_b41ms_8.2.2.2.2.2.2.1
theorem dX8_lost_135 : decode cX8_lost 135 = .ok (.getfield 109, 3) := zy_b41ms_8.2.2.2.2.2.2.2
theorem zy_b41ms_9 : decode cX8_lost 138 = .ok (.iload 7, 2) ∧ decode cX8_lost 140 = .ok (.dup2, 1) ∧ decode cX8_lost 141 = .ok (.iaload, 1) ∧ decode cX8_lost 142 = .ok (.iload 8, 2) ∧ decode cX8_lost 144 = .ok (.isub, 1) ∧ decode cX8_lost 145 = .ok (.iastore, 1) ∧ decode cX8_lost 146 = .ok (.iload 5, 2) ∧ decode cX8_lost 148 = .ok (.iload 8, 2) := by decide +kernel
theorem dX8_lost_138 : decode cX8_lost 138 = .ok (.iload 7, 2) := zy_b41ms_9.1
theorem dX8_lost_140 : decode cX8_lost 140 = .ok (.dup2, 1) := zy_b41ms_9.2.1
theorem dX8_lost_141 : decode cX8_lost 141 = .ok (.iaload, 1) := zy_b41ms_9.2.2.1
theorem dX8_lost_142 : decode cX8_lost 142 = .ok (.iload 8, 2) := zy_b41ms_9.2.2.2.1
theorem dX8_lost_144 : decode cX8_lost 144 = .ok (.isub, 1) := zy_b41ms_9.2.2.2.2.1
theorem dX8_lost_145 : decode cX8_lost 145 = .ok (.iastore, 1) := zy_b41ms_9.2.2.2.2.2.1
theorem dX8_lost_146 : decode cX8_lost 146 = .ok (.iload 5, 2) := zy_b41ms_9.2.2.2.2.2.2.1
theorem dX8_lost_148 : decode cX8_lost 148 = .ok (.iload 8, 2) := zy_b41ms_9.2.2.2.2.2.2.2
theorem zy_b41ms_10 : decode cX8_lost 150 = .ok (.isub, 1) ∧ decode cX8_lost 151 = .ok (.istore 5, 2) ∧ decode cX8_lost 153 = .ok (.aload_n 0, 1) ∧ decode cX8_lost 154 = .ok (.getfield 109, 3) ∧ decode cX8_lost 157 = .ok (.iload 7, 2) ∧ decode cX8_lost 159 = .ok (.iaload, 1) ∧ decode cX8_lost 160 = .ok (.ifCond .ne 25, 3) ∧ decode cX8_lost 163 = .ok (.iinc 2 (-1), 3) := by decide +kernel
theorem dX8_lost_150 : decode cX8_lost 150 = .ok (.isub, 1) := zy_b41ms_10.1
theorem dX8_lost_151 : decode cX8_lost 151 = .ok (.istore 5, 2) := zy_b41ms_10.2.1
theorem dX8_lost_153 : decode cX8_lost 153 = .ok (.aload_n 0, 1) := zy_b41ms_10.2.2.1
theorem dX8_lost_154 : decode cX8_lost 154 = .ok (.getfield 109, 3) := zy_b41ms_10.2.2.2.1
theorem dX8_lost_157 : decode cX8_lost 157 = .ok (.iload 7, 2) := zy_b41ms_10.2.2.2.2.1
theorem dX8_lost_159 : decode cX8_lost 159 = .ok (.iaload, 1) := zy_b41ms_10.2.2.2.2.2.1
theorem dX8_lost_160 : decode cX8_lost 160 = .ok (.ifCond .ne 25, 3) := zy_b41ms_10.2.2.2.2.2.2.1
theorem dX8_lost_163 : decode cX8_lost 163 = .ok (.iinc 2 (-1), 3) := zy_b41ms_10.2.2.2.2.2.2.2
theorem zy_b41ms_11 : decode cX8_lost 166 = .ok (.iload_n 3, 1) ∧ decode cX8_lost 167 = .ok (.aload_n 0, 1) ∧ decode cX8_lost 168 = .ok (.getfield 70, 3) ∧ decode cX8_lost 171 = .ok (.iload 7, 2) ∧ decode cX8_lost 173 = .ok (.iaload, 1) ∧ decode cX8_lost 174 = .ok (.aload_n 0, 1) ∧ decode cX8_lost 175 = .ok (.iload 7, 2) ∧ decode cX8_lost 177 = .ok (.iload 4, 2) := by decide +kernel
theorem dX8_lost_166 : decode cX8_lost 166 = .ok (.iload_n 3, 1) := zy_b41ms_11.1
theorem dX8_lost_167 : decode cX8_lost 167 = .ok (.aload_n 0, 1) := zy_b41ms_11.2.1
theorem dX8_lost_168 : decode cX8_lost 168 = .ok (.getfield 70, 3) := zy_b41ms_11.2.2.1
theorem dX8_lost_171 : decode cX8_lost 171 = .ok (.iload 7, 2) := zy_b41ms_11.2.2.2.1
theorem dX8_lost_173 : decode cX8_lost 173 = .ok (.iaload, 1) := zy_b41ms_11.2.2.2.2.1
theorem dX8_lost_174 : decode cX8_lost 174 = .ok (.aload_n 0, 1) := zy_b41ms_11.2.2.2.2.2.1
theorem dX8_lost_175 : decode cX8_lost 175 = .ok (.iload 7, 2) := zy_b41ms_11.2.2.2.2.2.2.1
theorem dX8_lost_177 : decode cX8_lost 177 = .ok (.iload 4, 2) := zy_b41ms_11.2.2.2.2.2.2.2
theorem zy_b41ms_12 : decode cX8_lost 179 = .ok (.invokevirtual 226, 3) ∧ decode cX8_lost 182 = .ok (.isub, 1) ∧ decode cX8_lost 183 = .ok (.iadd, 1) ∧ decode cX8_lost 184 = .ok (.istore_n 3, 1) ∧ decode cX8_lost 185 = .ok (.iinc 6 1, 3) ∧ decode cX8_lost 188 = .ok (.goto (-123), 3) ∧ decode cX8_lost 191 = .ok (.iinc 4 1, 3) ∧ decode cX8_lost 194 = .ok (.goto (-139), 3) := by decide +kernel
theorem dX8_lost_179 : decode cX8_lost 179 = .ok (.invokevirtual 226, 3) := zy_b41ms_12.1
theorem dX8_lost_182 : decode cX8_lost 182 = .ok (.isub, 1) := zy_b41ms_12.2.1
theorem dX8_lost_183 : decode cX8_lost 183 = .ok (.iadd, 1) := zy_b41ms_12.2.2.1
theorem dX8_lost_184 : decode cX8_lost 184 = .ok (.istore_n 3, 1) := zy_b41ms_12.2.2.2.1
theorem dX8_lost_185 : decode cX8_lost 185 = .ok (.iinc 6 1, 3) := zy_b41ms_12.2.2.2.2.1
theorem dX8_lost_188 : decode cX8_lost 188 = .ok (.goto (-123), 3) := zy_b41ms_12.2.2.2.2.2.1
theorem dX8_lost_191 : decode cX8_lost 191 = .ok (.iinc 4 1, 3) := zy_b41ms_12.2.2.2.2.2.2.1
theorem dX8_lost_194 : decode cX8_lost 194 = .ok (.goto (-139), 3) := zy_b41ms_12.2.2.2.2.2.2.2
theorem dX8_lost_197 : decode cX8_lost 197 = .ok (.iload_n 3, 1) := by decide +kernel
theorem dX8_lost_198 : decode cX8_lost 198 = .ok (.ireturn, 1) := by decide +kernel
theorem zz_pr_go {lk l2 l0 od re : Nat → Int32} {wt dy i : Nat} {y y2 h0 : Int32} {x : Nat} (h : zz_pr lk l0 od re wt dy i y h0) (ht : zz_tl (zz_cv l2 od) wt + x = zz_tl (zz_cv lk od) wt) (h1 : 1 ≤ h0.toInt) (hx : 1 ≤ y.toInt → 1 ≤ x) : zz_pr l2 l0 od re wt dy (i + 1) y2 h0 := by
  rcases h with h | ⟨a, b, c⟩
  · exact Or.inl (by omega)
  · refine Or.inl ?_
    rw [← b]
    have := hx (by rw [a]; exact h1)
    omega
