theorem tw_242 : Cond.constantLong RX8 131 2 ∈ zz_all := zz_m4 90 rfl rfl
theorem tw_243 : Cond.constantLong RX8 133 60 ∈ zz_all := zz_m4 91 rfl rfl
theorem tw_244 : Cond.constantLong RX8 137 10000 ∈ zz_all := zz_m4 93 rfl rfl
theorem tw_245 : Cond.code yX8_free cX8_free 2 (some .int) ∈ zz_all := zz_m4 182 rfl rfl
theorem tw_246 : Cond.methodLink RX8 237 yX8_free ∈ zz_all := zz_m4 179 rfl rfl
theorem tw_247 : Cond.instanceMethod yX8_free ∈ zz_all := zz_m4 181 rfl rfl
theorem tw_248 : Cond.selects RX8 yX8_free yX8_free ∈ zz_all := zz_ms 44 rfl rfl
theorem tw_249 : Cond.code yX8_net cX8_net 4 (some .int) ∈ zz_all := zz_m4 227 rfl rfl
theorem tw_250 : Cond.methodLink RX8 264 yX8_net ∈ zz_all := zz_m4 224 rfl rfl
theorem tw_251 : Cond.instanceMethod yX8_net ∈ zz_all := zz_m4 226 rfl rfl
theorem tw_252 : Cond.selects RX8 yX8_net yX8_net ∈ zz_all := zz_ms 52 rfl rfl
theorem tw_253 : Cond.fieldLink RX8 43 "HandsReturnedModel" "foodTo" "[I" ∈ zz_all := zz_m3 184 rfl rfl
theorem tw_254 : Cond.fieldLink RX8 46 "HandsReturnedModel" "foodOf" "[I" ∈ zz_all := zz_m3 185 rfl rfl
theorem tw_255 : Cond.fieldLink RX8 49 "HandsReturnedModel" "paid" "[I" ∈ zz_all := zz_m3 186 rfl rfl
theorem tw_256 : Cond.fieldLink RX8 52 "HandsReturnedModel" "lapsed" "[I" ∈ zz_all := zz_m3 187 rfl rfl
theorem tw_257 : Cond.constant RX8 263 (-1000000) ∈ zz_all := zz_m4 223 rfl rfl
theorem dX8_field_0 : decode cX8_field 0 = .ok (.aload_n 0, 1) := by decide +kernel
theorem dX8_field_1 : decode cX8_field 1 = .ok (.iload_n 1, 1) := by decide +kernel
theorem dX8_field_2 : decode cX8_field 2 = .ok (.invokevirtual 127, 3) := by decide +kernel
theorem dX8_field_5 : decode cX8_field 5 = .ok (.ifCond .eq 62, 3) := by decide +kernel
theorem dX8_field_8 : decode cX8_field 8 = .ok (.iload_n 2, 1) := by decide +kernel
theorem dX8_field_9 : decode cX8_field 9 = .ok (.i2l, 1) := by decide +kernel
theorem dX8_field_10 : decode cX8_field 10 = .ok (.lconst 0, 1) := by decide +kernel
theorem dX8_field_11 : decode cX8_field 11 = .ok (.ldc2_w 131, 3) := by decide +kernel
theorem dX8_field_14 : decode cX8_field 14 = .ok (.invokestatic 118, 3) := by decide +kernel
theorem dX8_field_17 : decode cX8_field 17 = .ok (.ifCond .eq 50, 3) := by decide +kernel
theorem dX8_field_20 : decode cX8_field 20 = .ok (.iload_n 3, 1) := by decide +kernel
theorem dX8_field_21 : decode cX8_field 21 = .ok (.i2l, 1) := by decide +kernel
theorem dX8_field_22 : decode cX8_field 22 = .ok (.lconst 1, 1) := by decide +kernel
theorem dX8_field_23 : decode cX8_field 23 = .ok (.ldc2_w 133, 3) := by decide +kernel
theorem dX8_field_26 : decode cX8_field 26 = .ok (.invokestatic 118, 3) := by decide +kernel
theorem dX8_field_29 : decode cX8_field 29 = .ok (.ifCond .eq 38, 3) := by decide +kernel
theorem dX8_field_32 : decode cX8_field 32 = .ok (.iload 4, 2) := by decide +kernel
theorem dX8_field_34 : decode cX8_field 34 = .ok (.i2l, 1) := by decide +kernel
theorem dX8_field_35 : decode cX8_field 35 = .ok (.lconst 0, 1) := by decide +kernel
theorem dX8_field_36 : decode cX8_field 36 = .ok (.ldc2_w 135, 3) := by decide +kernel
theorem dX8_field_39 : decode cX8_field 39 = .ok (.invokestatic 118, 3) := by decide +kernel
theorem dX8_field_42 : decode cX8_field 42 = .ok (.ifCond .eq 25, 3) := by decide +kernel
theorem dX8_field_45 : decode cX8_field 45 = .ok (.iload 5, 2) := by decide +kernel
theorem dX8_field_47 : decode cX8_field 47 = .ok (.i2l, 1) := by decide +kernel
theorem dX8_field_48 : decode cX8_field 48 = .ok (.lconst 0, 1) := by decide +kernel
theorem dX8_field_49 : decode cX8_field 49 = .ok (.ldc2_w 137, 3) := by decide +kernel
theorem dX8_field_52 : decode cX8_field 52 = .ok (.invokestatic 118, 3) := by decide +kernel
theorem dX8_field_55 : decode cX8_field 55 = .ok (.ifCond .eq 12, 3) := by decide +kernel
theorem dX8_field_58 : decode cX8_field 58 = .ok (.aload_n 0, 1) := by decide +kernel
theorem dX8_field_59 : decode cX8_field 59 = .ok (.getfield 122, 3) := by decide +kernel
theorem dX8_field_62 : decode cX8_field 62 = .ok (.bipush 12, 2) := by decide +kernel
theorem dX8_field_64 : decode cX8_field 64 = .ok (.if_icmp .ne 5, 3) := by decide +kernel
theorem dX8_field_67 : decode cX8_field 67 = .ok (.iconst (-1), 1) := by decide +kernel
theorem dX8_field_68 : decode cX8_field 68 = .ok (.ireturn, 1) := by decide +kernel
theorem dX8_field_69 : decode cX8_field 69 = .ok (.aload_n 0, 1) := by decide +kernel
theorem dX8_field_70 : decode cX8_field 70 = .ok (.getfield 58, 3) := by decide +kernel
theorem dX8_field_73 : decode cX8_field 73 = .ok (.aload_n 0, 1) := by decide +kernel
theorem dX8_field_74 : decode cX8_field 74 = .ok (.getfield 122, 3) := by decide +kernel
theorem dX8_field_77 : decode cX8_field 77 = .ok (.iload_n 1, 1) := by decide +kernel
theorem dX8_field_78 : decode cX8_field 78 = .ok (.iastore, 1) := by decide +kernel
theorem dX8_field_79 : decode cX8_field 79 = .ok (.aload_n 0, 1) := by decide +kernel
theorem dX8_field_80 : decode cX8_field 80 = .ok (.getfield 61, 3) := by decide +kernel
theorem dX8_field_83 : decode cX8_field 83 = .ok (.aload_n 0, 1) := by decide +kernel
theorem dX8_field_84 : decode cX8_field 84 = .ok (.getfield 122, 3) := by decide +kernel
theorem dX8_field_87 : decode cX8_field 87 = .ok (.iload_n 2, 1) := by decide +kernel
theorem dX8_field_88 : decode cX8_field 88 = .ok (.iastore, 1) := by decide +kernel
theorem dX8_field_89 : decode cX8_field 89 = .ok (.aload_n 0, 1) := by decide +kernel
theorem dX8_field_90 : decode cX8_field 90 = .ok (.getfield 64, 3) := by decide +kernel
theorem dX8_field_93 : decode cX8_field 93 = .ok (.aload_n 0, 1) := by decide +kernel
theorem dX8_field_94 : decode cX8_field 94 = .ok (.getfield 122, 3) := by decide +kernel
theorem dX8_field_97 : decode cX8_field 97 = .ok (.iload_n 3, 1) := by decide +kernel
theorem dX8_field_98 : decode cX8_field 98 = .ok (.iastore, 1) := by decide +kernel
theorem dX8_field_99 : decode cX8_field 99 = .ok (.aload_n 0, 1) := by decide +kernel
theorem dX8_field_100 : decode cX8_field 100 = .ok (.getfield 67, 3) := by decide +kernel
theorem dX8_field_103 : decode cX8_field 103 = .ok (.aload_n 0, 1) := by decide +kernel
theorem dX8_field_104 : decode cX8_field 104 = .ok (.getfield 122, 3) := by decide +kernel
theorem dX8_field_107 : decode cX8_field 107 = .ok (.iload 4, 2) := by decide +kernel
theorem dX8_field_109 : decode cX8_field 109 = .ok (.iastore, 1) := by decide +kernel
theorem dX8_field_110 : decode cX8_field 110 = .ok (.aload_n 0, 1) := by decide +kernel
theorem dX8_field_111 : decode cX8_field 111 = .ok (.getfield 70, 3) := by decide +kernel
theorem dX8_field_114 : decode cX8_field 114 = .ok (.aload_n 0, 1) := by decide +kernel
theorem dX8_field_115 : decode cX8_field 115 = .ok (.getfield 122, 3) := by decide +kernel
theorem dX8_field_118 : decode cX8_field 118 = .ok (.iload 5, 2) := by decide +kernel
theorem dX8_field_120 : decode cX8_field 120 = .ok (.iastore, 1) := by decide +kernel
theorem dX8_field_121 : decode cX8_field 121 = .ok (.aload_n 0, 1) := by decide +kernel
theorem dX8_field_122 : decode cX8_field 122 = .ok (.getfield 73, 3) := by decide +kernel
theorem dX8_field_125 : decode cX8_field 125 = .ok (.aload_n 0, 1) := by decide +kernel
theorem dX8_field_126 : decode cX8_field 126 = .ok (.getfield 122, 3) := by decide +kernel
theorem dX8_field_129 : decode cX8_field 129 = .ok (.iconst (-1), 1) := by decide +kernel
theorem dX8_field_130 : decode cX8_field 130 = .ok (.iastore, 1) := by decide +kernel
theorem dX8_field_131 : decode cX8_field 131 = .ok (.aload_n 0, 1) := by decide +kernel
theorem dX8_field_132 : decode cX8_field 132 = .ok (.dup, 1) := by decide +kernel
theorem dX8_field_133 : decode cX8_field 133 = .ok (.getfield 122, 3) := by decide +kernel
theorem dX8_field_136 : decode cX8_field 136 = .ok (.iconst 1, 1) := by decide +kernel
theorem dX8_field_137 : decode cX8_field 137 = .ok (.iadd, 1) := by decide +kernel
theorem dX8_field_138 : decode cX8_field 138 = .ok (.putfield 122, 3) := by decide +kernel
theorem dX8_field_141 : decode cX8_field 141 = .ok (.aload_n 0, 1) := by decide +kernel
theorem dX8_field_142 : decode cX8_field 142 = .ok (.getfield 122, 3) := by decide +kernel
theorem dX8_field_145 : decode cX8_field 145 = .ok (.iconst 1, 1) := by decide +kernel
theorem dX8_field_146 : decode cX8_field 146 = .ok (.isub, 1) := by decide +kernel
theorem dX8_field_147 : decode cX8_field 147 = .ok (.ireturn, 1) := by decide +kernel
theorem dX8_houseOf_0 : decode cX8_houseOf 0 = .ok (.aload_n 0, 1) := by decide +kernel
theorem dX8_houseOf_1 : decode cX8_houseOf 1 = .ok (.iload_n 1, 1) := by decide +kernel
theorem dX8_houseOf_2 : decode cX8_houseOf 2 = .ok (.invokevirtual 127, 3) := by decide +kernel
theorem dX8_houseOf_5 : decode cX8_houseOf 5 = .ok (.ifCond .ne 7, 3) := by decide +kernel
theorem dX8_houseOf_8 : decode cX8_houseOf 8 = .ok (.ldc_w 263, 3) := by decide +kernel
theorem dX8_houseOf_11 : decode cX8_houseOf 11 = .ok (.ireturn, 1) := by decide +kernel
theorem dX8_houseOf_12 : decode cX8_houseOf 12 = .ok (.iconst 0, 1) := by decide +kernel
theorem dX8_houseOf_13 : decode cX8_houseOf 13 = .ok (.istore_n 3, 1) := by decide +kernel
theorem dX8_houseOf_14 : decode cX8_houseOf 14 = .ok (.iconst 0, 1) := by decide +kernel
theorem dX8_houseOf_15 : decode cX8_houseOf 15 = .ok (.istore 4, 2) := by decide +kernel
theorem dX8_houseOf_17 : decode cX8_houseOf 17 = .ok (.iload 4, 2) := by decide +kernel
theorem dX8_houseOf_19 : decode cX8_houseOf 19 = .ok (.aload_n 0, 1) := by decide +kernel
theorem dX8_houseOf_20 : decode cX8_houseOf 20 = .ok (.getfield 122, 3) := by decide +kernel
theorem dX8_houseOf_23 : decode cX8_houseOf 23 = .ok (.if_icmp .ge 44, 3) := by decide +kernel
theorem dX8_houseOf_26 : decode cX8_houseOf 26 = .ok (.iload_n 3, 1) := by decide +kernel
theorem dX8_houseOf_27 : decode cX8_houseOf 27 = .ok (.aload_n 0, 1) := by decide +kernel
theorem dX8_houseOf_28 : decode cX8_houseOf 28 = .ok (.getfield 58, 3) := by decide +kernel
theorem dX8_houseOf_31 : decode cX8_houseOf 31 = .ok (.iload 4, 2) := by decide +kernel
theorem dX8_houseOf_33 : decode cX8_houseOf 33 = .ok (.iaload, 1) := by decide +kernel
theorem dX8_houseOf_34 : decode cX8_houseOf 34 = .ok (.iload_n 1, 1) := by decide +kernel
theorem dX8_houseOf_35 : decode cX8_houseOf 35 = .ok (.if_icmp .ne 23, 3) := by decide +kernel
theorem dX8_houseOf_38 : decode cX8_houseOf 38 = .ok (.aload_n 0, 1) := by decide +kernel
theorem dX8_houseOf_39 : decode cX8_houseOf 39 = .ok (.getfield 73, 3) := by decide +kernel
theorem dX8_houseOf_42 : decode cX8_houseOf 42 = .ok (.iload 4, 2) := by decide +kernel
theorem dX8_houseOf_44 : decode cX8_houseOf 44 = .ok (.iaload, 1) := by decide +kernel
theorem dX8_houseOf_45 : decode cX8_houseOf 45 = .ok (.ifCond .lt 13, 3) := by decide +kernel
theorem dX8_houseOf_48 : decode cX8_houseOf 48 = .ok (.aload_n 0, 1) := by decide +kernel
theorem dX8_houseOf_49 : decode cX8_houseOf 49 = .ok (.getfield 76, 3) := by decide +kernel
theorem dX8_houseOf_52 : decode cX8_houseOf 52 = .ok (.iload 4, 2) := by decide +kernel
theorem dX8_houseOf_54 : decode cX8_houseOf 54 = .ok (.iaload, 1) := by decide +kernel
theorem dX8_houseOf_55 : decode cX8_houseOf 55 = .ok (.goto 4, 3) := by decide +kernel
theorem dX8_houseOf_58 : decode cX8_houseOf 58 = .ok (.iconst 0, 1) := by decide +kernel
theorem dX8_houseOf_59 : decode cX8_houseOf 59 = .ok (.iadd, 1) := by decide +kernel
theorem dX8_houseOf_60 : decode cX8_houseOf 60 = .ok (.istore_n 3, 1) := by decide +kernel
theorem dX8_houseOf_61 : decode cX8_houseOf 61 = .ok (.iinc 4 1, 3) := by decide +kernel
theorem dX8_houseOf_64 : decode cX8_houseOf 64 = .ok (.goto (-47), 3) := by decide +kernel
theorem dX8_houseOf_67 : decode cX8_houseOf 67 = .ok (.iload_n 2, 1) := by decide +kernel
theorem dX8_houseOf_68 : decode cX8_houseOf 68 = .ok (.tableswitch 127 0 9 #[56, 63, 78, 85, 91, 97, 104, 111, 118, 125], 56) := by decide +kernel
theorem dX8_houseOf_124 : decode cX8_houseOf 124 = .ok (.aload_n 0, 1) := by decide +kernel
theorem dX8_houseOf_125 : decode cX8_houseOf 125 = .ok (.getfield 31, 3) := by decide +kernel
theorem dX8_houseOf_128 : decode cX8_houseOf 128 = .ok (.iload_n 1, 1) := by decide +kernel
theorem dX8_houseOf_129 : decode cX8_houseOf 129 = .ok (.iaload, 1) := by decide +kernel
theorem dX8_houseOf_130 : decode cX8_houseOf 130 = .ok (.ireturn, 1) := by decide +kernel
theorem dX8_houseOf_131 : decode cX8_houseOf 131 = .ok (.aload_n 0, 1) := by decide +kernel
theorem dX8_houseOf_132 : decode cX8_houseOf 132 = .ok (.getfield 34, 3) := by decide +kernel
theorem dX8_houseOf_135 : decode cX8_houseOf 135 = .ok (.iload_n 1, 1) := by decide +kernel
theorem dX8_houseOf_136 : decode cX8_houseOf 136 = .ok (.baload, 1) := by decide +kernel
theorem dX8_houseOf_137 : decode cX8_houseOf 137 = .ok (.ifCond .eq 7, 3) := by decide +kernel
theorem dX8_houseOf_140 : decode cX8_houseOf 140 = .ok (.iconst 1, 1) := by decide +kernel
theorem dX8_houseOf_141 : decode cX8_houseOf 141 = .ok (.goto 4, 3) := by decide +kernel
theorem dX8_houseOf_144 : decode cX8_houseOf 144 = .ok (.iconst 0, 1) := by decide +kernel
theorem dX8_houseOf_145 : decode cX8_houseOf 145 = .ok (.ireturn, 1) := by decide +kernel
theorem dX8_houseOf_146 : decode cX8_houseOf 146 = .ok (.aload_n 0, 1) := by decide +kernel
theorem dX8_houseOf_147 : decode cX8_houseOf 147 = .ok (.getfield 37, 3) := by decide +kernel
theorem dX8_houseOf_150 : decode cX8_houseOf 150 = .ok (.iload_n 1, 1) := by decide +kernel
theorem dX8_houseOf_151 : decode cX8_houseOf 151 = .ok (.iaload, 1) := by decide +kernel
theorem dX8_houseOf_152 : decode cX8_houseOf 152 = .ok (.ireturn, 1) := by decide +kernel
theorem dX8_houseOf_153 : decode cX8_houseOf 153 = .ok (.aload_n 0, 1) := by decide +kernel
theorem dX8_houseOf_154 : decode cX8_houseOf 154 = .ok (.iload_n 1, 1) := by decide +kernel
theorem dX8_houseOf_155 : decode cX8_houseOf 155 = .ok (.invokevirtual 237, 3) := by decide +kernel
theorem dX8_houseOf_158 : decode cX8_houseOf 158 = .ok (.ireturn, 1) := by decide +kernel
theorem dX8_houseOf_159 : decode cX8_houseOf 159 = .ok (.aload_n 0, 1) := by decide +kernel
theorem dX8_houseOf_160 : decode cX8_houseOf 160 = .ok (.iload_n 1, 1) := by decide +kernel
theorem dX8_houseOf_161 : decode cX8_houseOf 161 = .ok (.invokevirtual 264, 3) := by decide +kernel
theorem dX8_houseOf_164 : decode cX8_houseOf 164 = .ok (.ireturn, 1) := by decide +kernel
theorem dX8_houseOf_165 : decode cX8_houseOf 165 = .ok (.aload_n 0, 1) := by decide +kernel
theorem dX8_houseOf_166 : decode cX8_houseOf 166 = .ok (.getfield 43, 3) := by decide +kernel
theorem dX8_houseOf_169 : decode cX8_houseOf 169 = .ok (.iload_n 1, 1) := by decide +kernel
theorem dX8_houseOf_170 : decode cX8_houseOf 170 = .ok (.iaload, 1) := by decide +kernel
theorem dX8_houseOf_171 : decode cX8_houseOf 171 = .ok (.ireturn, 1) := by decide +kernel
theorem dX8_houseOf_172 : decode cX8_houseOf 172 = .ok (.aload_n 0, 1) := by decide +kernel
theorem dX8_houseOf_173 : decode cX8_houseOf 173 = .ok (.getfield 46, 3) := by decide +kernel
theorem dX8_houseOf_176 : decode cX8_houseOf 176 = .ok (.iload_n 1, 1) := by decide +kernel
theorem dX8_houseOf_177 : decode cX8_houseOf 177 = .ok (.iaload, 1) := by decide +kernel
theorem dX8_houseOf_178 : decode cX8_houseOf 178 = .ok (.ireturn, 1) := by decide +kernel
theorem dX8_houseOf_179 : decode cX8_houseOf 179 = .ok (.aload_n 0, 1) := by decide +kernel
theorem dX8_houseOf_180 : decode cX8_houseOf 180 = .ok (.getfield 49, 3) := by decide +kernel
theorem dX8_houseOf_183 : decode cX8_houseOf 183 = .ok (.iload_n 1, 1) := by decide +kernel
theorem dX8_houseOf_184 : decode cX8_houseOf 184 = .ok (.iaload, 1) := by decide +kernel
theorem dX8_houseOf_185 : decode cX8_houseOf 185 = .ok (.ireturn, 1) := by decide +kernel
theorem dX8_houseOf_186 : decode cX8_houseOf 186 = .ok (.aload_n 0, 1) := by decide +kernel
theorem dX8_houseOf_187 : decode cX8_houseOf 187 = .ok (.getfield 52, 3) := by decide +kernel
theorem dX8_houseOf_190 : decode cX8_houseOf 190 = .ok (.iload_n 1, 1) := by decide +kernel
theorem dX8_houseOf_191 : decode cX8_houseOf 191 = .ok (.iaload, 1) := by decide +kernel
theorem dX8_houseOf_192 : decode cX8_houseOf 192 = .ok (.ireturn, 1) := by decide +kernel
theorem dX8_houseOf_193 : decode cX8_houseOf 193 = .ok (.iload_n 3, 1) := by decide +kernel
theorem dX8_houseOf_194 : decode cX8_houseOf 194 = .ok (.ireturn, 1) := by decide +kernel
theorem dX8_houseOf_195 : decode cX8_houseOf 195 = .ok (.ldc_w 263, 3) := by decide +kernel
theorem dX8_houseOf_198 : decode cX8_houseOf 198 = .ok (.ireturn, 1) := by decide +kernel
theorem dX8_lowest_0 : decode cX8_lowest 0 = .ok (.iload_n 0, 1) := by decide +kernel
theorem dX8_lowest_1 : decode cX8_lowest 1 = .ok (.iconst 3, 1) := by decide +kernel
theorem dX8_lowest_2 : decode cX8_lowest 2 = .ok (.if_icmp .ne 7, 3) := by decide +kernel
theorem dX8_lowest_5 : decode cX8_lowest 5 = .ok (.iconst 1, 1) := by decide +kernel
theorem dX8_lowest_6 : decode cX8_lowest 6 = .ok (.goto 4, 3) := by decide +kernel
theorem dX8_lowest_9 : decode cX8_lowest 9 = .ok (.iconst 0, 1) := by decide +kernel
theorem dX8_lowest_10 : decode cX8_lowest 10 = .ok (.ireturn, 1) := by decide +kernel
theorem dX8_highest_0 : decode cX8_highest 0 = .ok (.iload_n 0, 1) := by decide +kernel
theorem dX8_highest_1 : decode cX8_highest 1 = .ok (.iconst 3, 1) := by decide +kernel
theorem dX8_highest_2 : decode cX8_highest 2 = .ok (.if_icmp .lt 8, 3) := by decide +kernel
theorem dX8_highest_5 : decode cX8_highest 5 = .ok (.iload_n 0, 1) := by decide +kernel
theorem dX8_highest_6 : decode cX8_highest 6 = .ok (.iconst 5, 1) := by decide +kernel
theorem dX8_highest_7 : decode cX8_highest 7 = .ok (.if_icmp .ne 8, 3) := by decide +kernel
theorem dX8_highest_10 : decode cX8_highest 10 = .ok (.bipush 99, 2) := by decide +kernel
theorem dX8_highest_12 : decode cX8_highest 12 = .ok (.goto 18, 3) := by decide +kernel
theorem dX8_highest_15 : decode cX8_highest 15 = .ok (.iload_n 0, 1) := by decide +kernel
theorem dX8_highest_16 : decode cX8_highest 16 = .ok (.bipush 6, 2) := by decide +kernel
theorem dX8_highest_18 : decode cX8_highest 18 = .ok (.if_icmp .ne 9, 3) := by decide +kernel
theorem dX8_highest_21 : decode cX8_highest 21 = .ok (.sipush 999, 3) := by decide +kernel
theorem dX8_highest_24 : decode cX8_highest 24 = .ok (.goto 6, 3) := by decide +kernel
theorem dX8_highest_27 : decode cX8_highest 27 = .ok (.sipush 400, 3) := by decide +kernel
theorem dX8_highest_30 : decode cX8_highest 30 = .ok (.ireturn, 1) := by decide +kernel
set_option maxHeartbeats 4000000 in
set_option maxRecDepth 100000 in
theorem m_field (l : Launch) (dC : Nat → ClassId) (dI : Nat → Nat → Nat) (b : Nat → Nat) (gg : Nat → Int32) (mt : Nat) (mc : Nat) (mh : Nat) (mf : Nat) (md : Nat) (cI : ClassId) (ow : Nat → Int32) (kd : Nat → Int32) (nee : Nat → Int32) (re : Nat → Int32) (va : Nat → Int32) (dn : Nat → Int32) (p0 : Int32) (p1 : Int32) (p2 : Int32) (p3 : Int32) (p4 : Int32) (sz : Nat) (hmh : mh ≤ 8) (hmf : mf ≤ 12) (hro : zz_rg ow mf 0 ((mh : Int) - 1)) (hrk : zz_rg kd mf 0 2) (hrn : zz_rg nee mf 0 60) (hrr : zz_rg re mf 0 400) (hrv : zz_rg va mf 0 10000) (hdn : zz_dn dn nee mf) : Met l yX8_field (zz_w yX8_field cX8_field 6 (some .int)) ({ frames := 2, cells := 0, slots := 0, locals := 46 }) (va_Pc [.ref (b 0), .int p0, .int p1, .int p2, .int p3, .int p4] (zz_B (dC, dI) sz [(b 0, .inr (8, [.ref (b 1), .int (nI mt), .int (gg 2), .int (gg 3), .int (gg 4), .int (gg 5), .int (gg 6), .int (gg 7), .int (gg 8), .int (gg 9), .ref (b 11), .ref (b 12), .ref (b 13), .int (nI mc), .int (nI mh), .ref (b 16), .ref (b 17), .ref (b 18), .ref (b 19), .ref (b 20), .ref (b 21), .ref (b 22), .ref (b 23), .ref (b 24), .int (nI mf), .ref (b 26), .ref (b 27), .ref (b 28), .ref (b 29), .ref (b 30), .ref (b 31), .ref (b 32), .int (gg 32), .int (nI md), .ref (b 35), .ref (b 36), .ref (b 37), .ref (b 38), .ref (b 39), .ref (b 40), .int (gg 40), .ref (b 42), .ref (b 43), .ref (b 44), .int (gg 44), .ref (b 46), .ref (b 47), .int (gg 47), .ref (b 49)])), (b 26, .inl (cI, 12, .inl ow)), (b 27, .inl (cI, 12, .inl kd)), (b 28, .inl (cI, 12, .inl nee)), (b 29, .inl (cI, 12, .inl re)), (b 30, .inl (cI, 12, .inl va)), (b 31, .inl (cI, 12, .inl dn))] [(cI, .int)])) (va_Qi (fun (r : Int32) (u : Nat × (Nat → Int32) × (Nat → Int32) × (Nat → Int32) × (Nat → Int32) × (Nat → Int32) × (Nat → Int32)) => match u with | (f2, o2, k2, n2, r2, v2, d2) => ((((0 ≤ p0.toInt ∧ p0.toInt < (mh : Int)) ∧ (0 ≤ p1.toInt ∧ p1.toInt ≤ 2) ∧ (1 ≤ p2.toInt ∧ p2.toInt ≤ 60) ∧ (0 ≤ p3.toInt ∧ p3.toInt ≤ 400) ∧ (0 ≤ p4.toInt ∧ p4.toInt ≤ 10000) ∧ mf < 12) ∧ r = nI mf ∧ f2 = (mf + 1)) ∨ (¬ ((0 ≤ p0.toInt ∧ p0.toInt < (mh : Int)) ∧ (0 ≤ p1.toInt ∧ p1.toInt ≤ 2) ∧ (1 ≤ p2.toInt ∧ p2.toInt ≤ 60) ∧ (0 ≤ p3.toInt ∧ p3.toInt ≤ 400) ∧ (0 ≤ p4.toInt ∧ p4.toInt ≤ 10000) ∧ mf < 12) ∧ r = -1 ∧ f2 = mf)) ∧ zz_rg o2 f2 0 ((mh : Int) - 1) ∧ zz_rg k2 f2 0 2 ∧ zz_rg n2 f2 0 60 ∧ zz_rg r2 f2 0 400 ∧ zz_rg v2 f2 0 10000 ∧ zz_dn d2 n2 f2) (fun (u : Nat × (Nat → Int32) × (Nat → Int32) × (Nat → Int32) × (Nat → Int32) × (Nat → Int32) × (Nat → Int32)) (t : State) => match u with | (u0, u1, u2, u3, u4, u5, u6) => va_P (dC, dI) vwCl [(b 0, .inr (8, [.ref (b 1), .int (nI mt), .int (gg 2), .int (gg 3), .int (gg 4), .int (gg 5), .int (gg 6), .int (gg 7), .int (gg 8), .int (gg 9), .ref (b 11), .ref (b 12), .ref (b 13), .int (nI mc), .int (nI mh), .ref (b 16), .ref (b 17), .ref (b 18), .ref (b 19), .ref (b 20), .ref (b 21), .ref (b 22), .ref (b 23), .ref (b 24), .int (nI u0), .ref (b 26), .ref (b 27), .ref (b 28), .ref (b 29), .ref (b 30), .ref (b 31), .ref (b 32), .int (gg 32), .int (nI md), .ref (b 35), .ref (b 36), .ref (b 37), .ref (b 38), .ref (b 39), .ref (b 40), .int (gg 40), .ref (b 42), .ref (b 43), .ref (b 44), .int (gg 44), .ref (b 46), .ref (b 47), .int (gg 47), .ref (b 49)])), (b 26, .inl (cI, 12, .inl u1)), (b 27, .inl (cI, 12, .inl u2)), (b 28, .inl (cI, 12, .inl u3)), (b 29, .inl (cI, 12, .inl u4)), (b 30, .inl (cI, 12, .inl u5)), (b 31, .inl (cI, 12, .inl u6))] t.heap ∧ va_K (dC, dI) vwCl [(cI, .int)] t ∧ va_D (va_A [(b 0, .inr (8, [.ref (b 1), .int (nI mt), .int (gg 2), .int (gg 3), .int (gg 4), .int (gg 5), .int (gg 6), .int (gg 7), .int (gg 8), .int (gg 9), .ref (b 11), .ref (b 12), .ref (b 13), .int (nI mc), .int (nI mh), .ref (b 16), .ref (b 17), .ref (b 18), .ref (b 19), .ref (b 20), .ref (b 21), .ref (b 22), .ref (b 23), .ref (b 24), .int (nI mf), .ref (b 26), .ref (b 27), .ref (b 28), .ref (b 29), .ref (b 30), .ref (b 31), .ref (b 32), .int (gg 32), .int (nI md), .ref (b 35), .ref (b 36), .ref (b 37), .ref (b 38), .ref (b 39), .ref (b 40), .int (gg 40), .ref (b 42), .ref (b 43), .ref (b 44), .int (gg 44), .ref (b 46), .ref (b 47), .int (gg 47), .ref (b 49)])), (b 26, .inl (cI, 12, .inl ow)), (b 27, .inl (cI, 12, .inl kd)), (b 28, .inl (cI, 12, .inl nee)), (b 29, .inl (cI, 12, .inl re)), (b 30, .inl (cI, 12, .inl va)), (b 31, .inl (cI, 12, .inl dn))] sz) [(b 0, .inr (8, [.ref (b 1), .int (nI mt), .int (gg 2), .int (gg 3), .int (gg 4), .int (gg 5), .int (gg 6), .int (gg 7), .int (gg 8), .int (gg 9), .ref (b 11), .ref (b 12), .ref (b 13), .int (nI mc), .int (nI mh), .ref (b 16), .ref (b 17), .ref (b 18), .ref (b 19), .ref (b 20), .ref (b 21), .ref (b 22), .ref (b 23), .ref (b 24), .int (nI u0), .ref (b 26), .ref (b 27), .ref (b 28), .ref (b 29), .ref (b 30), .ref (b 31), .ref (b 32), .int (gg 32), .int (nI md), .ref (b 35), .ref (b 36), .ref (b 37), .ref (b 38), .ref (b 39), .ref (b 40), .int (gg 40), .ref (b 42), .ref (b 43), .ref (b 44), .int (gg 44), .ref (b 46), .ref (b 47), .int (gg 47), .ref (b 49)])), (b 26, .inl (cI, 12, .inl u1)), (b 27, .inl (cI, 12, .inl u2)), (b 28, .inl (cI, 12, .inl u3)), (b 29, .inl (cI, 12, .inl u4)), (b 30, .inl (cI, 12, .inl u5)), (b 31, .inl (cI, 12, .inl u6))]) (va_A [(b 0, .inr (8, [.ref (b 1), .int (nI mt), .int (gg 2), .int (gg 3), .int (gg 4), .int (gg 5), .int (gg 6), .int (gg 7), .int (gg 8), .int (gg 9), .ref (b 11), .ref (b 12), .ref (b 13), .int (nI mc), .int (nI mh), .ref (b 16), .ref (b 17), .ref (b 18), .ref (b 19), .ref (b 20), .ref (b 21), .ref (b 22), .ref (b 23), .ref (b 24), .int (nI mf), .ref (b 26), .ref (b 27), .ref (b 28), .ref (b 29), .ref (b 30), .ref (b 31), .ref (b 32), .int (gg 32), .int (nI md), .ref (b 35), .ref (b 36), .ref (b 37), .ref (b 38), .ref (b 39), .ref (b 40), .int (gg 40), .ref (b 42), .ref (b 43), .ref (b 44), .int (gg 44), .ref (b 46), .ref (b 47), .int (gg 47), .ref (b 49)])), (b 26, .inl (cI, 12, .inl ow)), (b 27, .inl (cI, 12, .inl kd)), (b 28, .inl (cI, 12, .inl nee)), (b 29, .inl (cI, 12, .inl re)), (b 30, .inl (cI, 12, .inl va)), (b 31, .inl (cI, 12, .inl dn))] sz)) 0 0 (va_A [(b 0, .inr (8, [.ref (b 1), .int (nI mt), .int (gg 2), .int (gg 3), .int (gg 4), .int (gg 5), .int (gg 6), .int (gg 7), .int (gg 8), .int (gg 9), .ref (b 11), .ref (b 12), .ref (b 13), .int (nI mc), .int (nI mh), .ref (b 16), .ref (b 17), .ref (b 18), .ref (b 19), .ref (b 20), .ref (b 21), .ref (b 22), .ref (b 23), .ref (b 24), .int (nI mf), .ref (b 26), .ref (b 27), .ref (b 28), .ref (b 29), .ref (b 30), .ref (b 31), .ref (b 32), .int (gg 32), .int (nI md), .ref (b 35), .ref (b 36), .ref (b 37), .ref (b 38), .ref (b 39), .ref (b 40), .int (gg 40), .ref (b 42), .ref (b 43), .ref (b 44), .int (gg 44), .ref (b 46), .ref (b 47), .int (gg 47), .ref (b 49)])), (b 26, .inl (cI, 12, .inl ow)), (b 27, .inl (cI, 12, .inl kd)), (b 28, .inl (cI, 12, .inl nee)), (b 29, .inl (cI, 12, .inl re)), (b 30, .inl (cI, 12, .inl va)), (b 31, .inl (cI, 12, .inl dn))] sz) := by
  refine Met.ofW (cc := cX8_field) (maxL := 6) (ret := (some .int)) (by decide) rfl ?_
  intro p e s m args below meth c s₁ B hml hv
  obtain ⟨rfl, hsz, hP, hK, hD0, hN⟩ := hv
  have hx := B.exec
  have hb := B.bytes
  have hr := B.returns
  have hts := atoms_spec (ws := zz_w yX8_field cX8_field 6 (some .int)) B.pre
  have hw : ∀ w ∈ zz_all, w.before _ s = true := fun w h => hts w (List.mem_cons_of_mem _ h)
  have hown : s.vm.findClass RX8 = some m.cls := findClass_of_methodNamed B.named
  have hlocks := B.notSynchronized
  subst hsz
  have hD := hD0.self (sz := s.heap.size)
  generalize hAe : va_A [(b 0, .inr (8, [.ref (b 1), .int (nI mt), .int (gg 2), .int (gg 3), .int (gg 4), .int (gg 5), .int (gg 6), .int (gg 7), .int (gg 8), .int (gg 9), .ref (b 11), .ref (b 12), .ref (b 13), .int (nI mc), .int (nI mh), .ref (b 16), .ref (b 17), .ref (b 18), .ref (b 19), .ref (b 20), .ref (b 21), .ref (b 22), .ref (b 23), .ref (b 24), .int (nI mf), .ref (b 26), .ref (b 27), .ref (b 28), .ref (b 29), .ref (b 30), .ref (b 31), .ref (b 32), .int (gg 32), .int (nI md), .ref (b 35), .ref (b 36), .ref (b 37), .ref (b 38), .ref (b 39), .ref (b 40), .int (gg 40), .ref (b 42), .ref (b 43), .ref (b 44), .int (gg 44), .ref (b 46), .ref (b 47), .int (gg 47), .ref (b 49)])), (b 26, .inl (cI, 12, .inl ow)), (b 27, .inl (cI, 12, .inl kd)), (b 28, .inl (cI, 12, .inl nee)), (b 29, .inl (cI, 12, .inl re)), (b 30, .inl (cI, 12, .inl va)), (b 31, .inl (cI, 12, .inl dn))] s.heap.size = A at hD ⊢
  have hA : ∀ q : Nat, s.heap.size ≤ q → A q := fun q h => by rw [← hAe]; exact Or.inr h
  have hS : va_S A s.heap s.heap [] := va_S.rf
  have hP : va_P (dC, dI) vwCl [(b 0, .inr (8, [.ref (b 1), .int (nI mt), .int (gg 2), .int (gg 3), .int (gg 4), .int (gg 5), .int (gg 6), .int (gg 7), .int (gg 8), .int (gg 9), .ref (b 11), .ref (b 12), .ref (b 13), .int (nI mc), .int (nI mh), .ref (b 16), .ref (b 17), .ref (b 18), .ref (b 19), .ref (b 20), .ref (b 21), .ref (b 22), .ref (b 23), .ref (b 24), .int (nI mf), .ref (b 26), .ref (b 27), .ref (b 28), .ref (b 29), .ref (b 30), .ref (b 31), .ref (b 32), .int (gg 32), .int (nI md), .ref (b 35), .ref (b 36), .ref (b 37), .ref (b 38), .ref (b 39), .ref (b 40), .int (gg 40), .ref (b 42), .ref (b 43), .ref (b 44), .int (gg 44), .ref (b 46), .ref (b 47), .int (gg 47), .ref (b 49)])), (b 26, .inl (cI, 12, .inl ow)), (b 27, .inl (cI, 12, .inl kd)), (b 28, .inl (cI, 12, .inl nee)), (b 29, .inl (cI, 12, .inl re)), (b 30, .inl (cI, 12, .inl va)), (b 31, .inl (cI, 12, .inl dn))] s.heap := hP
  have hl := lv_entry ([.ref (b 0), .int p0, .int p1, .int p2, .int p3, .int p4]) (n := 6) (Nat.le_of_ble_eq_true rfl)
  rw [lg_entry_eq]
  generalize (lg_sl ([.ref (b 0), .int p0, .int p1, .int p2, .int p3, .int p4]) ++ List.replicate (6 - (lg_sl ([.ref (b 0), .int p0, .int p1, .int p2, .int p3, .int p4])).length) Slot.unset).toArray = ls at hl ⊢
  have hl : lv_has ls 6 [(0, .ref (b 0)), (1, .int p0), (2, .int p1), (3, .int p2), (4, .int p3), (5, .int p4)] := hl
  refine lv_aload_n hx hb dX8_field_0 rfl (lv_at hl 0 rfl) ?_
  refine lv_iload_n hx hb dX8_field_1 rfl (lv_at hl 1 rfl) ?_
  have hPc := hP.sub (ws' := [(b 0, .inr (8, [.ref (b 1), .int (nI mt), .int (gg 2), .int (gg 3), .int (gg 4), .int (gg 5), .int (gg 6), .int (gg 7), .int (gg 8), .int (gg 9), .ref (b 11), .ref (b 12), .ref (b 13), .int (nI mc), .int (nI mh), .ref (b 16), .ref (b 17), .ref (b 18), .ref (b 19), .ref (b 20), .ref (b 21), .ref (b 22), .ref (b 23), .ref (b 24), .int (nI mf), .ref (b 26), .ref (b 27), .ref (b 28), .ref (b 29), .ref (b 30), .ref (b 31), .ref (b 32), .int (gg 32), .int (nI md), .ref (b 35), .ref (b 36), .ref (b 37), .ref (b 38), .ref (b 39), .ref (b 40), .int (gg 40), .ref (b 42), .ref (b 43), .ref (b 44), .int (gg 44), .ref (b 46), .ref (b 47), .int (gg 47), .ref (b 49)]))]) [0] rfl
  have hDc := hD.sub (ws' := [(b 0, .inr (8, [.ref (b 1), .int (nI mt), .int (gg 2), .int (gg 3), .int (gg 4), .int (gg 5), .int (gg 6), .int (gg 7), .int (gg 8), .int (gg 9), .ref (b 11), .ref (b 12), .ref (b 13), .int (nI mc), .int (nI mh), .ref (b 16), .ref (b 17), .ref (b 18), .ref (b 19), .ref (b 20), .ref (b 21), .ref (b 22), .ref (b 23), .ref (b 24), .int (nI mf), .ref (b 26), .ref (b 27), .ref (b 28), .ref (b 29), .ref (b 30), .ref (b 31), .ref (b 32), .int (gg 32), .int (nI md), .ref (b 35), .ref (b 36), .ref (b 37), .ref (b 38), .ref (b 39), .ref (b 40), .int (gg 40), .ref (b 42), .ref (b 43), .ref (b 44), .int (gg 44), .ref (b 46), .ref (b 47), .int (gg 47), .ref (b 49)]))]) [0] (by decide) rfl
  have hKc := hK.sub (tys' := []) [] rfl
  have hFc := zz_free0 hS hA
  refine va_calli (va_runV (As := [.int p0]) (rest := []) ⟨hx, hb, hml, hown, hw⟩ (m_isHouse l dC dI b gg mt mc mh mf md p0 s.heap.size (by omega)) ⟨callB_of 1 hw (zz_good tw_197) rfl rfl rfl (hw _ tw_184) (hw _ tw_198) (by decide +kernel) ⟨Nat.le_of_ble_eq_true rfl, Nat.le_of_ble_eq_true rfl⟩, (hw _ tw_199), (hw _ tw_200)⟩ ⟨zz_blind, va_recv hKc hPc (ci := 8) (q0 := 0) rfl rfl, zz_pre hPc hKc hDc hN⟩ rfl rfl hl.1 rfl (lv_room (Nat.le_of_ble_eq_true rfl)) dX8_field_2 ⟨Nat.le_of_ble_eq_true rfl, Nat.le_of_ble_eq_true rfl⟩) hS (fun q _ h => hFc q h) hFc (fun r_1 u_1 t H1 locs ht hvm e_1 hB hz1 hk1 hS => ?_)
  try dsimp only at e_1
  have hP := zz_keep hP hk1
  clear hk1 hB ht hvm
  generalize H1 = H at hP hS ⊢
  rcases e_1 with ⟨n1_1, er_1⟩ | ⟨n1_1, er_1⟩
  · refine zz_seti 1 er_1 ?_
    refine lv_if_eq (tgt := 67) hx hb dX8_field_5 (by decide) (fun c_9 => absurd c_9 (by decide)) (fun _ => ?_)
    refine lv_iload_n hx hb dX8_field_8 rfl (lv_at hl 2 rfl) ?_
    refine lv_i2l (v := Int32.toInt64 p1) hx hb dX8_field_9 rfl ?_
    refine lv_lconst (v := Int32.toInt64 0) hx hb dX8_field_10 (by decide) ?_
    refine lv_ldc2 (v := 2) hx hb hown (hw _ tw_242) dX8_field_11 ?_
    refine zz_setl (Int32.toInt64 2) (by decide) ?_
    have hPc := hP.sub (ws' := []) [] rfl
    have hDc := hD.sub (ws' := []) [] (by decide) rfl
    have hKc := hK.sub (tys' := []) [] rfl
    have hFc := zz_free0 hS hA
    refine va_calli (va_runS (As := [.long (Int32.toInt64 p1), .long (Int32.toInt64 0), .long (Int32.toInt64 2)]) (rest := []) ⟨hx, hb, hml, hown, hw⟩ (k_in l dC dI p1 0 2 H.size) ⟨callB_of 3 hw (zz_good tw_183) rfl rfl rfl (hw _ tw_184) (hw _ tw_185) (by decide +kernel) ⟨Nat.le_of_ble_eq_true rfl, Nat.le_of_ble_eq_true rfl⟩, (hw _ tw_186)⟩ ⟨zz_blind, zz_pre hPc hKc hDc hN⟩ rfl rfl hl.1 rfl (lv_room (Nat.le_of_ble_eq_true rfl)) dX8_field_14 ⟨Nat.le_of_ble_eq_true rfl, Nat.le_of_ble_eq_true rfl⟩) hS (fun q _ h => hFc q h) hFc (fun r_2 u_2 t H1 locs ht hvm e_2 hB hz1 hk1 hS => ?_)
    try dsimp only at e_2
    have hP := zz_keep hP hk1
    clear hk1 hB ht hvm
    generalize H1 = H at hP hS ⊢
    refine lv_if_eq (tgt := 67) hx hb dX8_field_17 (by decide) (fun c_3 => ?_) (fun c_3 => ?_)
    · have zc_3 := c_3
      rw [e_2, zz_in0, Int32.le_iff_toInt_le, Int32.le_iff_toInt_le] at zc_3
      try rw [show (0 : Int32).toInt = 0 from by decide] at zc_3
      try rw [show (2 : Int32).toInt = 2 from by decide] at zc_3
      refine lv_iconst (v := (-1)) hx hb dX8_field_67 (by decide) ?_
      have hP9 := hP.sub (ws' := [(b 0, .inr (8, [.ref (b 1), .int (nI mt), .int (gg 2), .int (gg 3), .int (gg 4), .int (gg 5), .int (gg 6), .int (gg 7), .int (gg 8), .int (gg 9), .ref (b 11), .ref (b 12), .ref (b 13), .int (nI mc), .int (nI mh), .ref (b 16), .ref (b 17), .ref (b 18), .ref (b 19), .ref (b 20), .ref (b 21), .ref (b 22), .ref (b 23), .ref (b 24), .int (nI mf), .ref (b 26), .ref (b 27), .ref (b 28), .ref (b 29), .ref (b 30), .ref (b 31), .ref (b 32), .int (gg 32), .int (nI md), .ref (b 35), .ref (b 36), .ref (b 37), .ref (b 38), .ref (b 39), .ref (b 40), .int (gg 40), .ref (b 42), .ref (b 43), .ref (b 44), .int (gg 44), .ref (b 46), .ref (b 47), .int (gg 47), .ref (b 49)])), (b 26, .inl (cI, 12, .inl ow)), (b 27, .inl (cI, 12, .inl kd)), (b 28, .inl (cI, 12, .inl nee)), (b 29, .inl (cI, 12, .inl re)), (b 30, .inl (cI, 12, .inl va)), (b 31, .inl (cI, 12, .inl dn))]) [0, 1, 2, 3, 4, 5, 6] rfl
      have hD9 := hD.sub (ws' := [(b 0, .inr (8, [.ref (b 1), .int (nI mt), .int (gg 2), .int (gg 3), .int (gg 4), .int (gg 5), .int (gg 6), .int (gg 7), .int (gg 8), .int (gg 9), .ref (b 11), .ref (b 12), .ref (b 13), .int (nI mc), .int (nI mh), .ref (b 16), .ref (b 17), .ref (b 18), .ref (b 19), .ref (b 20), .ref (b 21), .ref (b 22), .ref (b 23), .ref (b 24), .int (nI mf), .ref (b 26), .ref (b 27), .ref (b 28), .ref (b 29), .ref (b 30), .ref (b 31), .ref (b 32), .int (gg 32), .int (nI md), .ref (b 35), .ref (b 36), .ref (b 37), .ref (b 38), .ref (b 39), .ref (b 40), .int (gg 40), .ref (b 42), .ref (b 43), .ref (b 44), .int (gg 44), .ref (b 46), .ref (b 47), .int (gg 47), .ref (b 49)])), (b 26, .inl (cI, 12, .inl ow)), (b 27, .inl (cI, 12, .inl kd)), (b 28, .inl (cI, 12, .inl nee)), (b 29, .inl (cI, 12, .inl re)), (b 30, .inl (cI, 12, .inl va)), (b 31, .inl (cI, 12, .inl dn))]) [0, 1, 2, 3, 4, 5, 6] (by decide) rfl
      have hK9 := hK.sub (tys' := [(cI, .int)]) [0] rfl
      exact W.iret (v := (-1)) hx hb hr (fun t ht hW => ⟨⟨(-1), (mf, ow, kd, nee, re, va, dn), rfl, ⟨Or.inr ⟨by omega, rfl, rfl⟩, hro, hrk, hrn, hrr, hrv, hdn⟩, by rw [ht]; exact hP9, va_K.moved hW.alike hK9, hD9⟩, hS.F ht⟩) hS.2.2 dX8_field_68
    · have zc_3 := c_3
      rw [e_2, zz_in0, Int32.le_iff_toInt_le, Int32.le_iff_toInt_le] at zc_3
      try rw [show (0 : Int32).toInt = 0 from by decide] at zc_3
      try rw [show (2 : Int32).toInt = 2 from by decide] at zc_3
      refine lv_iload_n hx hb dX8_field_20 rfl (lv_at hl 3 rfl) ?_
      refine lv_i2l (v := Int32.toInt64 p2) hx hb dX8_field_21 rfl ?_
      refine lv_lconst (v := Int32.toInt64 1) hx hb dX8_field_22 (by decide) ?_
      refine lv_ldc2 (v := 60) hx hb hown (hw _ tw_243) dX8_field_23 ?_
      refine zz_setl (Int32.toInt64 60) (by decide) ?_
      have hPc := hP.sub (ws' := []) [] rfl
      have hDc := hD.sub (ws' := []) [] (by decide) rfl
      have hKc := hK.sub (tys' := []) [] rfl
      have hFc := zz_free0 hS hA
      refine va_calli (va_runS (As := [.long (Int32.toInt64 p2), .long (Int32.toInt64 1), .long (Int32.toInt64 60)]) (rest := []) ⟨hx, hb, hml, hown, hw⟩ (k_in l dC dI p2 1 60 H.size) ⟨callB_of 3 hw (zz_good tw_183) rfl rfl rfl (hw _ tw_184) (hw _ tw_185) (by decide +kernel) ⟨Nat.le_of_ble_eq_true rfl, Nat.le_of_ble_eq_true rfl⟩, (hw _ tw_186)⟩ ⟨zz_blind, zz_pre hPc hKc hDc hN⟩ rfl rfl hl.1 rfl (lv_room (Nat.le_of_ble_eq_true rfl)) dX8_field_26 ⟨Nat.le_of_ble_eq_true rfl, Nat.le_of_ble_eq_true rfl⟩) hS (fun q _ h => hFc q h) hFc (fun r_4 u_4 t H1 locs ht hvm e_4 hB hz1 hk1 hS => ?_)
      try dsimp only at e_4
      have hP := zz_keep hP hk1
      clear hk1 hB ht hvm
      generalize H1 = H at hP hS ⊢
      refine lv_if_eq (tgt := 67) hx hb dX8_field_29 (by decide) (fun c_5 => ?_) (fun c_5 => ?_)
      · have zc_5 := c_5
        rw [e_4, zz_in0, Int32.le_iff_toInt_le, Int32.le_iff_toInt_le] at zc_5
        try rw [show (1 : Int32).toInt = 1 from by decide] at zc_5
        try rw [show (60 : Int32).toInt = 60 from by decide] at zc_5
        refine lv_iconst (v := (-1)) hx hb dX8_field_67 (by decide) ?_
        have hP9 := hP.sub (ws' := [(b 0, .inr (8, [.ref (b 1), .int (nI mt), .int (gg 2), .int (gg 3), .int (gg 4), .int (gg 5), .int (gg 6), .int (gg 7), .int (gg 8), .int (gg 9), .ref (b 11), .ref (b 12), .ref (b 13), .int (nI mc), .int (nI mh), .ref (b 16), .ref (b 17), .ref (b 18), .ref (b 19), .ref (b 20), .ref (b 21), .ref (b 22), .ref (b 23), .ref (b 24), .int (nI mf), .ref (b 26), .ref (b 27), .ref (b 28), .ref (b 29), .ref (b 30), .ref (b 31), .ref (b 32), .int (gg 32), .int (nI md), .ref (b 35), .ref (b 36), .ref (b 37), .ref (b 38), .ref (b 39), .ref (b 40), .int (gg 40), .ref (b 42), .ref (b 43), .ref (b 44), .int (gg 44), .ref (b 46), .ref (b 47), .int (gg 47), .ref (b 49)])), (b 26, .inl (cI, 12, .inl ow)), (b 27, .inl (cI, 12, .inl kd)), (b 28, .inl (cI, 12, .inl nee)), (b 29, .inl (cI, 12, .inl re)), (b 30, .inl (cI, 12, .inl va)), (b 31, .inl (cI, 12, .inl dn))]) [0, 1, 2, 3, 4, 5, 6] rfl
        have hD9 := hD.sub (ws' := [(b 0, .inr (8, [.ref (b 1), .int (nI mt), .int (gg 2), .int (gg 3), .int (gg 4), .int (gg 5), .int (gg 6), .int (gg 7), .int (gg 8), .int (gg 9), .ref (b 11), .ref (b 12), .ref (b 13), .int (nI mc), .int (nI mh), .ref (b 16), .ref (b 17), .ref (b 18), .ref (b 19), .ref (b 20), .ref (b 21), .ref (b 22), .ref (b 23), .ref (b 24), .int (nI mf), .ref (b 26), .ref (b 27), .ref (b 28), .ref (b 29), .ref (b 30), .ref (b 31), .ref (b 32), .int (gg 32), .int (nI md), .ref (b 35), .ref (b 36), .ref (b 37), .ref (b 38), .ref (b 39), .ref (b 40), .int (gg 40), .ref (b 42), .ref (b 43), .ref (b 44), .int (gg 44), .ref (b 46), .ref (b 47), .int (gg 47), .ref (b 49)])), (b 26, .inl (cI, 12, .inl ow)), (b 27, .inl (cI, 12, .inl kd)), (b 28, .inl (cI, 12, .inl nee)), (b 29, .inl (cI, 12, .inl re)), (b 30, .inl (cI, 12, .inl va)), (b 31, .inl (cI, 12, .inl dn))]) [0, 1, 2, 3, 4, 5, 6] (by decide) rfl
        have hK9 := hK.sub (tys' := [(cI, .int)]) [0] rfl
        exact W.iret (v := (-1)) hx hb hr (fun t ht hW => ⟨⟨(-1), (mf, ow, kd, nee, re, va, dn), rfl, ⟨Or.inr ⟨by omega, rfl, rfl⟩, hro, hrk, hrn, hrr, hrv, hdn⟩, by rw [ht]; exact hP9, va_K.moved hW.alike hK9, hD9⟩, hS.F ht⟩) hS.2.2 dX8_field_68
      · have zc_5 := c_5
        rw [e_4, zz_in0, Int32.le_iff_toInt_le, Int32.le_iff_toInt_le] at zc_5
        try rw [show (1 : Int32).toInt = 1 from by decide] at zc_5
        try rw [show (60 : Int32).toInt = 60 from by decide] at zc_5
        refine lv_iload hx hb dX8_field_32 (lv_at hl 4 rfl) ?_
        refine lv_i2l (v := Int32.toInt64 p3) hx hb dX8_field_34 rfl ?_
        refine lv_lconst (v := Int32.toInt64 0) hx hb dX8_field_35 (by decide) ?_
        refine lv_ldc2 (v := 400) hx hb hown (hw _ tw_201) dX8_field_36 ?_
        refine zz_setl (Int32.toInt64 400) (by decide) ?_
        have hPc := hP.sub (ws' := []) [] rfl
        have hDc := hD.sub (ws' := []) [] (by decide) rfl
        have hKc := hK.sub (tys' := []) [] rfl
        have hFc := zz_free0 hS hA
        refine va_calli (va_runS (As := [.long (Int32.toInt64 p3), .long (Int32.toInt64 0), .long (Int32.toInt64 400)]) (rest := []) ⟨hx, hb, hml, hown, hw⟩ (k_in l dC dI p3 0 400 H.size) ⟨callB_of 3 hw (zz_good tw_183) rfl rfl rfl (hw _ tw_184) (hw _ tw_185) (by decide +kernel) ⟨Nat.le_of_ble_eq_true rfl, Nat.le_of_ble_eq_true rfl⟩, (hw _ tw_186)⟩ ⟨zz_blind, zz_pre hPc hKc hDc hN⟩ rfl rfl hl.1 rfl (lv_room (Nat.le_of_ble_eq_true rfl)) dX8_field_39 ⟨Nat.le_of_ble_eq_true rfl, Nat.le_of_ble_eq_true rfl⟩) hS (fun q _ h => hFc q h) hFc (fun r_6 u_6 t H1 locs ht hvm e_6 hB hz1 hk1 hS => ?_)
        try dsimp only at e_6
        have hP := zz_keep hP hk1
        clear hk1 hB ht hvm
        generalize H1 = H at hP hS ⊢
        refine lv_if_eq (tgt := 67) hx hb dX8_field_42 (by decide) (fun c_7 => ?_) (fun c_7 => ?_)
        · have zc_7 := c_7
          rw [e_6, zz_in0, Int32.le_iff_toInt_le, Int32.le_iff_toInt_le] at zc_7
          try rw [show (0 : Int32).toInt = 0 from by decide] at zc_7
          try rw [show (400 : Int32).toInt = 400 from by decide] at zc_7
          refine lv_iconst (v := (-1)) hx hb dX8_field_67 (by decide) ?_
          have hP9 := hP.sub (ws' := [(b 0, .inr (8, [.ref (b 1), .int (nI mt), .int (gg 2), .int (gg 3), .int (gg 4), .int (gg 5), .int (gg 6), .int (gg 7), .int (gg 8), .int (gg 9), .ref (b 11), .ref (b 12), .ref (b 13), .int (nI mc), .int (nI mh), .ref (b 16), .ref (b 17), .ref (b 18), .ref (b 19), .ref (b 20), .ref (b 21), .ref (b 22), .ref (b 23), .ref (b 24), .int (nI mf), .ref (b 26), .ref (b 27), .ref (b 28), .ref (b 29), .ref (b 30), .ref (b 31), .ref (b 32), .int (gg 32), .int (nI md), .ref (b 35), .ref (b 36), .ref (b 37), .ref (b 38), .ref (b 39), .ref (b 40), .int (gg 40), .ref (b 42), .ref (b 43), .ref (b 44), .int (gg 44), .ref (b 46), .ref (b 47), .int (gg 47), .ref (b 49)])), (b 26, .inl (cI, 12, .inl ow)), (b 27, .inl (cI, 12, .inl kd)), (b 28, .inl (cI, 12, .inl nee)), (b 29, .inl (cI, 12, .inl re)), (b 30, .inl (cI, 12, .inl va)), (b 31, .inl (cI, 12, .inl dn))]) [0, 1, 2, 3, 4, 5, 6] rfl
          have hD9 := hD.sub (ws' := [(b 0, .inr (8, [.ref (b 1), .int (nI mt), .int (gg 2), .int (gg 3), .int (gg 4), .int (gg 5), .int (gg 6), .int (gg 7), .int (gg 8), .int (gg 9), .ref (b 11), .ref (b 12), .ref (b 13), .int (nI mc), .int (nI mh), .ref (b 16), .ref (b 17), .ref (b 18), .ref (b 19), .ref (b 20), .ref (b 21), .ref (b 22), .ref (b 23), .ref (b 24), .int (nI mf), .ref (b 26), .ref (b 27), .ref (b 28), .ref (b 29), .ref (b 30), .ref (b 31), .ref (b 32), .int (gg 32), .int (nI md), .ref (b 35), .ref (b 36), .ref (b 37), .ref (b 38), .ref (b 39), .ref (b 40), .int (gg 40), .ref (b 42), .ref (b 43), .ref (b 44), .int (gg 44), .ref (b 46), .ref (b 47), .int (gg 47), .ref (b 49)])), (b 26, .inl (cI, 12, .inl ow)), (b 27, .inl (cI, 12, .inl kd)), (b 28, .inl (cI, 12, .inl nee)), (b 29, .inl (cI, 12, .inl re)), (b 30, .inl (cI, 12, .inl va)), (b 31, .inl (cI, 12, .inl dn))]) [0, 1, 2, 3, 4, 5, 6] (by decide) rfl
          have hK9 := hK.sub (tys' := [(cI, .int)]) [0] rfl
          exact W.iret (v := (-1)) hx hb hr (fun t ht hW => ⟨⟨(-1), (mf, ow, kd, nee, re, va, dn), rfl, ⟨Or.inr ⟨by omega, rfl, rfl⟩, hro, hrk, hrn, hrr, hrv, hdn⟩, by rw [ht]; exact hP9, va_K.moved hW.alike hK9, hD9⟩, hS.F ht⟩) hS.2.2 dX8_field_68
        · have zc_7 := c_7
          rw [e_6, zz_in0, Int32.le_iff_toInt_le, Int32.le_iff_toInt_le] at zc_7
          try rw [show (0 : Int32).toInt = 0 from by decide] at zc_7
          try rw [show (400 : Int32).toInt = 400 from by decide] at zc_7
          refine lv_iload hx hb dX8_field_45 (lv_at hl 5 rfl) ?_
          refine lv_i2l (v := Int32.toInt64 p4) hx hb dX8_field_47 rfl ?_
          refine lv_lconst (v := Int32.toInt64 0) hx hb dX8_field_48 (by decide) ?_
          refine lv_ldc2 (v := 10000) hx hb hown (hw _ tw_244) dX8_field_49 ?_
          refine zz_setl (Int32.toInt64 10000) (by decide) ?_
          have hPc := hP.sub (ws' := []) [] rfl
          have hDc := hD.sub (ws' := []) [] (by decide) rfl
          have hKc := hK.sub (tys' := []) [] rfl
          have hFc := zz_free0 hS hA
          refine va_calli (va_runS (As := [.long (Int32.toInt64 p4), .long (Int32.toInt64 0), .long (Int32.toInt64 10000)]) (rest := []) ⟨hx, hb, hml, hown, hw⟩ (k_in l dC dI p4 0 10000 H.size) ⟨callB_of 3 hw (zz_good tw_183) rfl rfl rfl (hw _ tw_184) (hw _ tw_185) (by decide +kernel) ⟨Nat.le_of_ble_eq_true rfl, Nat.le_of_ble_eq_true rfl⟩, (hw _ tw_186)⟩ ⟨zz_blind, zz_pre hPc hKc hDc hN⟩ rfl rfl hl.1 rfl (lv_room (Nat.le_of_ble_eq_true rfl)) dX8_field_52 ⟨Nat.le_of_ble_eq_true rfl, Nat.le_of_ble_eq_true rfl⟩) hS (fun q _ h => hFc q h) hFc (fun r_8 u_8 t H1 locs ht hvm e_8 hB hz1 hk1 hS => ?_)
          try dsimp only at e_8
          have hP := zz_keep hP hk1
          clear hk1 hB ht hvm
          generalize H1 = H at hP hS ⊢
          refine lv_if_eq (tgt := 67) hx hb dX8_field_55 (by decide) (fun c_9 => ?_) (fun c_9 => ?_)
          · have zc_9 := c_9
            rw [e_8, zz_in0, Int32.le_iff_toInt_le, Int32.le_iff_toInt_le] at zc_9
            try rw [show (0 : Int32).toInt = 0 from by decide] at zc_9
            try rw [show (10000 : Int32).toInt = 10000 from by decide] at zc_9
            refine lv_iconst (v := (-1)) hx hb dX8_field_67 (by decide) ?_
            have hP9 := hP.sub (ws' := [(b 0, .inr (8, [.ref (b 1), .int (nI mt), .int (gg 2), .int (gg 3), .int (gg 4), .int (gg 5), .int (gg 6), .int (gg 7), .int (gg 8), .int (gg 9), .ref (b 11), .ref (b 12), .ref (b 13), .int (nI mc), .int (nI mh), .ref (b 16), .ref (b 17), .ref (b 18), .ref (b 19), .ref (b 20), .ref (b 21), .ref (b 22), .ref (b 23), .ref (b 24), .int (nI mf), .ref (b 26), .ref (b 27), .ref (b 28), .ref (b 29), .ref (b 30), .ref (b 31), .ref (b 32), .int (gg 32), .int (nI md), .ref (b 35), .ref (b 36), .ref (b 37), .ref (b 38), .ref (b 39), .ref (b 40), .int (gg 40), .ref (b 42), .ref (b 43), .ref (b 44), .int (gg 44), .ref (b 46), .ref (b 47), .int (gg 47), .ref (b 49)])), (b 26, .inl (cI, 12, .inl ow)), (b 27, .inl (cI, 12, .inl kd)), (b 28, .inl (cI, 12, .inl nee)), (b 29, .inl (cI, 12, .inl re)), (b 30, .inl (cI, 12, .inl va)), (b 31, .inl (cI, 12, .inl dn))]) [0, 1, 2, 3, 4, 5, 6] rfl
            have hD9 := hD.sub (ws' := [(b 0, .inr (8, [.ref (b 1), .int (nI mt), .int (gg 2), .int (gg 3), .int (gg 4), .int (gg 5), .int (gg 6), .int (gg 7), .int (gg 8), .int (gg 9), .ref (b 11), .ref (b 12), .ref (b 13), .int (nI mc), .int (nI mh), .ref (b 16), .ref (b 17), .ref (b 18), .ref (b 19), .ref (b 20), .ref (b 21), .ref (b 22), .ref (b 23), .ref (b 24), .int (nI mf), .ref (b 26), .ref (b 27), .ref (b 28), .ref (b 29), .ref (b 30), .ref (b 31), .ref (b 32), .int (gg 32), .int (nI md), .ref (b 35), .ref (b 36), .ref (b 37), .ref (b 38), .ref (b 39), .ref (b 40), .int (gg 40), .ref (b 42), .ref (b 43), .ref (b 44), .int (gg 44), .ref (b 46), .ref (b 47), .int (gg 47), .ref (b 49)])), (b 26, .inl (cI, 12, .inl ow)), (b 27, .inl (cI, 12, .inl kd)), (b 28, .inl (cI, 12, .inl nee)), (b 29, .inl (cI, 12, .inl re)), (b 30, .inl (cI, 12, .inl va)), (b 31, .inl (cI, 12, .inl dn))]) [0, 1, 2, 3, 4, 5, 6] (by decide) rfl
            have hK9 := hK.sub (tys' := [(cI, .int)]) [0] rfl
            exact W.iret (v := (-1)) hx hb hr (fun t ht hW => ⟨⟨(-1), (mf, ow, kd, nee, re, va, dn), rfl, ⟨Or.inr ⟨by omega, rfl, rfl⟩, hro, hrk, hrn, hrr, hrv, hdn⟩, by rw [ht]; exact hP9, va_K.moved hW.alike hK9, hD9⟩, hS.F ht⟩) hS.2.2 dX8_field_68
          · have zc_9 := c_9
            rw [e_8, zz_in0, Int32.le_iff_toInt_le, Int32.le_iff_toInt_le] at zc_9
            try rw [show (0 : Int32).toInt = 0 from by decide] at zc_9
            try rw [show (10000 : Int32).toInt = 10000 from by decide] at zc_9
            refine lv_aload_n hx hb dX8_field_58 rfl (lv_at hl 0 rfl) ?_
            refine va_get (D := (dC, dI)) (ci := 8) (v := .int (nI mf)) (C := RX8) (T := TX8) (N := 49) hx hb hw zz_inX8 hown hK hP 0 rfl rfl 24 (by decide) (hw _ tw_187) (fun _ h9 => h9) rfl dX8_field_59 ?_
            refine lv_bipush (v := 12) hx hb dX8_field_62 (by decide) ?_
            refine lv_icmp_ne (tgt := 69) hx hb dX8_field_64 (by decide) (fun c_10 => ?_) (fun c_10 => ?_)
            · have zc_10 := c_10
              rw [← Int32.toInt_inj] at zc_10
              try rw [zz_toInt mf (by omega)] at zc_10
              try rw [show (12 : Int32).toInt = 12 from by decide] at zc_10
              refine lv_aload_n hx hb dX8_field_69 rfl (lv_at hl 0 rfl) ?_
              refine va_get (D := (dC, dI)) (ci := 8) (v := .ref (b 26)) (C := RX8) (T := TX8) (N := 49) hx hb hw zz_inX8 hown hK hP 0 rfl rfl 25 (by decide) (hw _ tw_240) (fun _ h9 => h9) rfl dX8_field_70 ?_
              refine lv_aload_n hx hb dX8_field_73 rfl (lv_at hl 0 rfl) ?_
              refine va_get (D := (dC, dI)) (ci := 8) (v := .int (nI mf)) (C := RX8) (T := TX8) (N := 49) hx hb hw zz_inX8 hown hK hP 0 rfl rfl 24 (by decide) (hw _ tw_187) (fun _ h9 => h9) rfl dX8_field_74 ?_
              refine lv_iload_n hx hb dX8_field_77 rfl (lv_at hl 1 rfl) ?_
              refine va_iast hx hb hK hP hD hS 1 0 rfl rfl (vp_in_iff.mpr (by rw [zz_toInt mf (by omega)]; constructor <;> omega)) dX8_field_78 (fun H locs hP hD hS => ?_)
              have hP : va_P (dC, dI) vwCl [(b 0, .inr (8, [.ref (b 1), .int (nI mt), .int (gg 2), .int (gg 3), .int (gg 4), .int (gg 5), .int (gg 6), .int (gg 7), .int (gg 8), .int (gg 9), .ref (b 11), .ref (b 12), .ref (b 13), .int (nI mc), .int (nI mh), .ref (b 16), .ref (b 17), .ref (b 18), .ref (b 19), .ref (b 20), .ref (b 21), .ref (b 22), .ref (b 23), .ref (b 24), .int (nI mf), .ref (b 26), .ref (b 27), .ref (b 28), .ref (b 29), .ref (b 30), .ref (b 31), .ref (b 32), .int (gg 32), .int (nI md), .ref (b 35), .ref (b 36), .ref (b 37), .ref (b 38), .ref (b 39), .ref (b 40), .int (gg 40), .ref (b 42), .ref (b 43), .ref (b 44), .int (gg 44), .ref (b 46), .ref (b 47), .int (gg 47), .ref (b 49)])), (b 26, .inl (cI, 12, .inl (upd ow (Int32.toNatClampNeg (nI mf)) p0))), (b 27, .inl (cI, 12, .inl kd)), (b 28, .inl (cI, 12, .inl nee)), (b 29, .inl (cI, 12, .inl re)), (b 30, .inl (cI, 12, .inl va)), (b 31, .inl (cI, 12, .inl dn))] H := hP
              have hD : va_D A [(b 0, .inr (8, [.ref (b 1), .int (nI mt), .int (gg 2), .int (gg 3), .int (gg 4), .int (gg 5), .int (gg 6), .int (gg 7), .int (gg 8), .int (gg 9), .ref (b 11), .ref (b 12), .ref (b 13), .int (nI mc), .int (nI mh), .ref (b 16), .ref (b 17), .ref (b 18), .ref (b 19), .ref (b 20), .ref (b 21), .ref (b 22), .ref (b 23), .ref (b 24), .int (nI mf), .ref (b 26), .ref (b 27), .ref (b 28), .ref (b 29), .ref (b 30), .ref (b 31), .ref (b 32), .int (gg 32), .int (nI md), .ref (b 35), .ref (b 36), .ref (b 37), .ref (b 38), .ref (b 39), .ref (b 40), .int (gg 40), .ref (b 42), .ref (b 43), .ref (b 44), .int (gg 44), .ref (b 46), .ref (b 47), .int (gg 47), .ref (b 49)])), (b 26, .inl (cI, 12, .inl (upd ow (Int32.toNatClampNeg (nI mf)) p0))), (b 27, .inl (cI, 12, .inl kd)), (b 28, .inl (cI, 12, .inl nee)), (b 29, .inl (cI, 12, .inl re)), (b 30, .inl (cI, 12, .inl va)), (b 31, .inl (cI, 12, .inl dn))] := hD
              refine lv_aload_n hx hb dX8_field_79 rfl (lv_at hl 0 rfl) ?_
              refine va_get (D := (dC, dI)) (ci := 8) (v := .ref (b 27)) (C := RX8) (T := TX8) (N := 49) hx hb hw zz_inX8 hown hK hP 0 rfl rfl 26 (by decide) (hw _ tw_241) (fun _ h9 => h9) rfl dX8_field_80 ?_
              refine lv_aload_n hx hb dX8_field_83 rfl (lv_at hl 0 rfl) ?_
              refine va_get (D := (dC, dI)) (ci := 8) (v := .int (nI mf)) (C := RX8) (T := TX8) (N := 49) hx hb hw zz_inX8 hown hK hP 0 rfl rfl 24 (by decide) (hw _ tw_187) (fun _ h9 => h9) rfl dX8_field_84 ?_
              refine lv_iload_n hx hb dX8_field_87 rfl (lv_at hl 2 rfl) ?_
              refine va_iast hx hb hK hP hD hS 2 0 rfl rfl (vp_in_iff.mpr (by rw [zz_toInt mf (by omega)]; constructor <;> omega)) dX8_field_88 (fun H locs hP hD hS => ?_)
              have hP : va_P (dC, dI) vwCl [(b 0, .inr (8, [.ref (b 1), .int (nI mt), .int (gg 2), .int (gg 3), .int (gg 4), .int (gg 5), .int (gg 6), .int (gg 7), .int (gg 8), .int (gg 9), .ref (b 11), .ref (b 12), .ref (b 13), .int (nI mc), .int (nI mh), .ref (b 16), .ref (b 17), .ref (b 18), .ref (b 19), .ref (b 20), .ref (b 21), .ref (b 22), .ref (b 23), .ref (b 24), .int (nI mf), .ref (b 26), .ref (b 27), .ref (b 28), .ref (b 29), .ref (b 30), .ref (b 31), .ref (b 32), .int (gg 32), .int (nI md), .ref (b 35), .ref (b 36), .ref (b 37), .ref (b 38), .ref (b 39), .ref (b 40), .int (gg 40), .ref (b 42), .ref (b 43), .ref (b 44), .int (gg 44), .ref (b 46), .ref (b 47), .int (gg 47), .ref (b 49)])), (b 26, .inl (cI, 12, .inl (upd ow (Int32.toNatClampNeg (nI mf)) p0))), (b 27, .inl (cI, 12, .inl (upd kd (Int32.toNatClampNeg (nI mf)) p1))), (b 28, .inl (cI, 12, .inl nee)), (b 29, .inl (cI, 12, .inl re)), (b 30, .inl (cI, 12, .inl va)), (b 31, .inl (cI, 12, .inl dn))] H := hP
              have hD : va_D A [(b 0, .inr (8, [.ref (b 1), .int (nI mt), .int (gg 2), .int (gg 3), .int (gg 4), .int (gg 5), .int (gg 6), .int (gg 7), .int (gg 8), .int (gg 9), .ref (b 11), .ref (b 12), .ref (b 13), .int (nI mc), .int (nI mh), .ref (b 16), .ref (b 17), .ref (b 18), .ref (b 19), .ref (b 20), .ref (b 21), .ref (b 22), .ref (b 23), .ref (b 24), .int (nI mf), .ref (b 26), .ref (b 27), .ref (b 28), .ref (b 29), .ref (b 30), .ref (b 31), .ref (b 32), .int (gg 32), .int (nI md), .ref (b 35), .ref (b 36), .ref (b 37), .ref (b 38), .ref (b 39), .ref (b 40), .int (gg 40), .ref (b 42), .ref (b 43), .ref (b 44), .int (gg 44), .ref (b 46), .ref (b 47), .int (gg 47), .ref (b 49)])), (b 26, .inl (cI, 12, .inl (upd ow (Int32.toNatClampNeg (nI mf)) p0))), (b 27, .inl (cI, 12, .inl (upd kd (Int32.toNatClampNeg (nI mf)) p1))), (b 28, .inl (cI, 12, .inl nee)), (b 29, .inl (cI, 12, .inl re)), (b 30, .inl (cI, 12, .inl va)), (b 31, .inl (cI, 12, .inl dn))] := hD
              refine lv_aload_n hx hb dX8_field_89 rfl (lv_at hl 0 rfl) ?_
              refine va_get (D := (dC, dI)) (ci := 8) (v := .ref (b 28)) (C := RX8) (T := TX8) (N := 49) hx hb hw zz_inX8 hown hK hP 0 rfl rfl 27 (by decide) (hw _ tw_233) (fun _ h9 => h9) rfl dX8_field_90 ?_
              refine lv_aload_n hx hb dX8_field_93 rfl (lv_at hl 0 rfl) ?_
              refine va_get (D := (dC, dI)) (ci := 8) (v := .int (nI mf)) (C := RX8) (T := TX8) (N := 49) hx hb hw zz_inX8 hown hK hP 0 rfl rfl 24 (by decide) (hw _ tw_187) (fun _ h9 => h9) rfl dX8_field_94 ?_
              refine lv_iload_n hx hb dX8_field_97 rfl (lv_at hl 3 rfl) ?_
              refine va_iast hx hb hK hP hD hS 3 0 rfl rfl (vp_in_iff.mpr (by rw [zz_toInt mf (by omega)]; constructor <;> omega)) dX8_field_98 (fun H locs hP hD hS => ?_)
              have hP : va_P (dC, dI) vwCl [(b 0, .inr (8, [.ref (b 1), .int (nI mt), .int (gg 2), .int (gg 3), .int (gg 4), .int (gg 5), .int (gg 6), .int (gg 7), .int (gg 8), .int (gg 9), .ref (b 11), .ref (b 12), .ref (b 13), .int (nI mc), .int (nI mh), .ref (b 16), .ref (b 17), .ref (b 18), .ref (b 19), .ref (b 20), .ref (b 21), .ref (b 22), .ref (b 23), .ref (b 24), .int (nI mf), .ref (b 26), .ref (b 27), .ref (b 28), .ref (b 29), .ref (b 30), .ref (b 31), .ref (b 32), .int (gg 32), .int (nI md), .ref (b 35), .ref (b 36), .ref (b 37), .ref (b 38), .ref (b 39), .ref (b 40), .int (gg 40), .ref (b 42), .ref (b 43), .ref (b 44), .int (gg 44), .ref (b 46), .ref (b 47), .int (gg 47), .ref (b 49)])), (b 26, .inl (cI, 12, .inl (upd ow (Int32.toNatClampNeg (nI mf)) p0))), (b 27, .inl (cI, 12, .inl (upd kd (Int32.toNatClampNeg (nI mf)) p1))), (b 28, .inl (cI, 12, .inl (upd nee (Int32.toNatClampNeg (nI mf)) p2))), (b 29, .inl (cI, 12, .inl re)), (b 30, .inl (cI, 12, .inl va)), (b 31, .inl (cI, 12, .inl dn))] H := hP
              have hD : va_D A [(b 0, .inr (8, [.ref (b 1), .int (nI mt), .int (gg 2), .int (gg 3), .int (gg 4), .int (gg 5), .int (gg 6), .int (gg 7), .int (gg 8), .int (gg 9), .ref (b 11), .ref (b 12), .ref (b 13), .int (nI mc), .int (nI mh), .ref (b 16), .ref (b 17), .ref (b 18), .ref (b 19), .ref (b 20), .ref (b 21), .ref (b 22), .ref (b 23), .ref (b 24), .int (nI mf), .ref (b 26), .ref (b 27), .ref (b 28), .ref (b 29), .ref (b 30), .ref (b 31), .ref (b 32), .int (gg 32), .int (nI md), .ref (b 35), .ref (b 36), .ref (b 37), .ref (b 38), .ref (b 39), .ref (b 40), .int (gg 40), .ref (b 42), .ref (b 43), .ref (b 44), .int (gg 44), .ref (b 46), .ref (b 47), .int (gg 47), .ref (b 49)])), (b 26, .inl (cI, 12, .inl (upd ow (Int32.toNatClampNeg (nI mf)) p0))), (b 27, .inl (cI, 12, .inl (upd kd (Int32.toNatClampNeg (nI mf)) p1))), (b 28, .inl (cI, 12, .inl (upd nee (Int32.toNatClampNeg (nI mf)) p2))), (b 29, .inl (cI, 12, .inl re)), (b 30, .inl (cI, 12, .inl va)), (b 31, .inl (cI, 12, .inl dn))] := hD
              refine lv_aload_n hx hb dX8_field_99 rfl (lv_at hl 0 rfl) ?_
              refine va_get (D := (dC, dI)) (ci := 8) (v := .ref (b 29)) (C := RX8) (T := TX8) (N := 49) hx hb hw zz_inX8 hown hK hP 0 rfl rfl 28 (by decide) (hw _ tw_223) (fun _ h9 => h9) rfl dX8_field_100 ?_
              refine lv_aload_n hx hb dX8_field_103 rfl (lv_at hl 0 rfl) ?_
              refine va_get (D := (dC, dI)) (ci := 8) (v := .int (nI mf)) (C := RX8) (T := TX8) (N := 49) hx hb hw zz_inX8 hown hK hP 0 rfl rfl 24 (by decide) (hw _ tw_187) (fun _ h9 => h9) rfl dX8_field_104 ?_
              refine lv_iload hx hb dX8_field_107 (lv_at hl 4 rfl) ?_
              refine va_iast hx hb hK hP hD hS 4 0 rfl rfl (vp_in_iff.mpr (by rw [zz_toInt mf (by omega)]; constructor <;> omega)) dX8_field_109 (fun H locs hP hD hS => ?_)
              have hP : va_P (dC, dI) vwCl [(b 0, .inr (8, [.ref (b 1), .int (nI mt), .int (gg 2), .int (gg 3), .int (gg 4), .int (gg 5), .int (gg 6), .int (gg 7), .int (gg 8), .int (gg 9), .ref (b 11), .ref (b 12), .ref (b 13), .int (nI mc), .int (nI mh), .ref (b 16), .ref (b 17), .ref (b 18), .ref (b 19), .ref (b 20), .ref (b 21), .ref (b 22), .ref (b 23), .ref (b 24), .int (nI mf), .ref (b 26), .ref (b 27), .ref (b 28), .ref (b 29), .ref (b 30), .ref (b 31), .ref (b 32), .int (gg 32), .int (nI md), .ref (b 35), .ref (b 36), .ref (b 37), .ref (b 38), .ref (b 39), .ref (b 40), .int (gg 40), .ref (b 42), .ref (b 43), .ref (b 44), .int (gg 44), .ref (b 46), .ref (b 47), .int (gg 47), .ref (b 49)])), (b 26, .inl (cI, 12, .inl (upd ow (Int32.toNatClampNeg (nI mf)) p0))), (b 27, .inl (cI, 12, .inl (upd kd (Int32.toNatClampNeg (nI mf)) p1))), (b 28, .inl (cI, 12, .inl (upd nee (Int32.toNatClampNeg (nI mf)) p2))), (b 29, .inl (cI, 12, .inl (upd re (Int32.toNatClampNeg (nI mf)) p3))), (b 30, .inl (cI, 12, .inl va)), (b 31, .inl (cI, 12, .inl dn))] H := hP
              have hD : va_D A [(b 0, .inr (8, [.ref (b 1), .int (nI mt), .int (gg 2), .int (gg 3), .int (gg 4), .int (gg 5), .int (gg 6), .int (gg 7), .int (gg 8), .int (gg 9), .ref (b 11), .ref (b 12), .ref (b 13), .int (nI mc), .int (nI mh), .ref (b 16), .ref (b 17), .ref (b 18), .ref (b 19), .ref (b 20), .ref (b 21), .ref (b 22), .ref (b 23), .ref (b 24), .int (nI mf), .ref (b 26), .ref (b 27), .ref (b 28), .ref (b 29), .ref (b 30), .ref (b 31), .ref (b 32), .int (gg 32), .int (nI md), .ref (b 35), .ref (b 36), .ref (b 37), .ref (b 38), .ref (b 39), .ref (b 40), .int (gg 40), .ref (b 42), .ref (b 43), .ref (b 44), .int (gg 44), .ref (b 46), .ref (b 47), .int (gg 47), .ref (b 49)])), (b 26, .inl (cI, 12, .inl (upd ow (Int32.toNatClampNeg (nI mf)) p0))), (b 27, .inl (cI, 12, .inl (upd kd (Int32.toNatClampNeg (nI mf)) p1))), (b 28, .inl (cI, 12, .inl (upd nee (Int32.toNatClampNeg (nI mf)) p2))), (b 29, .inl (cI, 12, .inl (upd re (Int32.toNatClampNeg (nI mf)) p3))), (b 30, .inl (cI, 12, .inl va)), (b 31, .inl (cI, 12, .inl dn))] := hD
              refine lv_aload_n hx hb dX8_field_110 rfl (lv_at hl 0 rfl) ?_
              refine va_get (D := (dC, dI)) (ci := 8) (v := .ref (b 30)) (C := RX8) (T := TX8) (N := 49) hx hb hw zz_inX8 hown hK hP 0 rfl rfl 29 (by decide) (hw _ tw_224) (fun _ h9 => h9) rfl dX8_field_111 ?_
              refine lv_aload_n hx hb dX8_field_114 rfl (lv_at hl 0 rfl) ?_
              refine va_get (D := (dC, dI)) (ci := 8) (v := .int (nI mf)) (C := RX8) (T := TX8) (N := 49) hx hb hw zz_inX8 hown hK hP 0 rfl rfl 24 (by decide) (hw _ tw_187) (fun _ h9 => h9) rfl dX8_field_115 ?_
              refine lv_iload hx hb dX8_field_118 (lv_at hl 5 rfl) ?_
              refine va_iast hx hb hK hP hD hS 5 0 rfl rfl (vp_in_iff.mpr (by rw [zz_toInt mf (by omega)]; constructor <;> omega)) dX8_field_120 (fun H locs hP hD hS => ?_)
              have hP : va_P (dC, dI) vwCl [(b 0, .inr (8, [.ref (b 1), .int (nI mt), .int (gg 2), .int (gg 3), .int (gg 4), .int (gg 5), .int (gg 6), .int (gg 7), .int (gg 8), .int (gg 9), .ref (b 11), .ref (b 12), .ref (b 13), .int (nI mc), .int (nI mh), .ref (b 16), .ref (b 17), .ref (b 18), .ref (b 19), .ref (b 20), .ref (b 21), .ref (b 22), .ref (b 23), .ref (b 24), .int (nI mf), .ref (b 26), .ref (b 27), .ref (b 28), .ref (b 29), .ref (b 30), .ref (b 31), .ref (b 32), .int (gg 32), .int (nI md), .ref (b 35), .ref (b 36), .ref (b 37), .ref (b 38), .ref (b 39), .ref (b 40), .int (gg 40), .ref (b 42), .ref (b 43), .ref (b 44), .int (gg 44), .ref (b 46), .ref (b 47), .int (gg 47), .ref (b 49)])), (b 26, .inl (cI, 12, .inl (upd ow (Int32.toNatClampNeg (nI mf)) p0))), (b 27, .inl (cI, 12, .inl (upd kd (Int32.toNatClampNeg (nI mf)) p1))), (b 28, .inl (cI, 12, .inl (upd nee (Int32.toNatClampNeg (nI mf)) p2))), (b 29, .inl (cI, 12, .inl (upd re (Int32.toNatClampNeg (nI mf)) p3))), (b 30, .inl (cI, 12, .inl (upd va (Int32.toNatClampNeg (nI mf)) p4))), (b 31, .inl (cI, 12, .inl dn))] H := hP
              have hD : va_D A [(b 0, .inr (8, [.ref (b 1), .int (nI mt), .int (gg 2), .int (gg 3), .int (gg 4), .int (gg 5), .int (gg 6), .int (gg 7), .int (gg 8), .int (gg 9), .ref (b 11), .ref (b 12), .ref (b 13), .int (nI mc), .int (nI mh), .ref (b 16), .ref (b 17), .ref (b 18), .ref (b 19), .ref (b 20), .ref (b 21), .ref (b 22), .ref (b 23), .ref (b 24), .int (nI mf), .ref (b 26), .ref (b 27), .ref (b 28), .ref (b 29), .ref (b 30), .ref (b 31), .ref (b 32), .int (gg 32), .int (nI md), .ref (b 35), .ref (b 36), .ref (b 37), .ref (b 38), .ref (b 39), .ref (b 40), .int (gg 40), .ref (b 42), .ref (b 43), .ref (b 44), .int (gg 44), .ref (b 46), .ref (b 47), .int (gg 47), .ref (b 49)])), (b 26, .inl (cI, 12, .inl (upd ow (Int32.toNatClampNeg (nI mf)) p0))), (b 27, .inl (cI, 12, .inl (upd kd (Int32.toNatClampNeg (nI mf)) p1))), (b 28, .inl (cI, 12, .inl (upd nee (Int32.toNatClampNeg (nI mf)) p2))), (b 29, .inl (cI, 12, .inl (upd re (Int32.toNatClampNeg (nI mf)) p3))), (b 30, .inl (cI, 12, .inl (upd va (Int32.toNatClampNeg (nI mf)) p4))), (b 31, .inl (cI, 12, .inl dn))] := hD
              refine lv_aload_n hx hb dX8_field_121 rfl (lv_at hl 0 rfl) ?_
              refine va_get (D := (dC, dI)) (ci := 8) (v := .ref (b 31)) (C := RX8) (T := TX8) (N := 49) hx hb hw zz_inX8 hown hK hP 0 rfl rfl 30 (by decide) (hw _ tw_234) (fun _ h9 => h9) rfl dX8_field_122 ?_
              refine lv_aload_n hx hb dX8_field_125 rfl (lv_at hl 0 rfl) ?_
              refine va_get (D := (dC, dI)) (ci := 8) (v := .int (nI mf)) (C := RX8) (T := TX8) (N := 49) hx hb hw zz_inX8 hown hK hP 0 rfl rfl 24 (by decide) (hw _ tw_187) (fun _ h9 => h9) rfl dX8_field_126 ?_
              refine lv_iconst (v := (-1)) hx hb dX8_field_129 (by decide) ?_
              refine va_iast hx hb hK hP hD hS 6 0 rfl rfl (vp_in_iff.mpr (by rw [zz_toInt mf (by omega)]; constructor <;> omega)) dX8_field_130 (fun H locs hP hD hS => ?_)
              have hP : va_P (dC, dI) vwCl [(b 0, .inr (8, [.ref (b 1), .int (nI mt), .int (gg 2), .int (gg 3), .int (gg 4), .int (gg 5), .int (gg 6), .int (gg 7), .int (gg 8), .int (gg 9), .ref (b 11), .ref (b 12), .ref (b 13), .int (nI mc), .int (nI mh), .ref (b 16), .ref (b 17), .ref (b 18), .ref (b 19), .ref (b 20), .ref (b 21), .ref (b 22), .ref (b 23), .ref (b 24), .int (nI mf), .ref (b 26), .ref (b 27), .ref (b 28), .ref (b 29), .ref (b 30), .ref (b 31), .ref (b 32), .int (gg 32), .int (nI md), .ref (b 35), .ref (b 36), .ref (b 37), .ref (b 38), .ref (b 39), .ref (b 40), .int (gg 40), .ref (b 42), .ref (b 43), .ref (b 44), .int (gg 44), .ref (b 46), .ref (b 47), .int (gg 47), .ref (b 49)])), (b 26, .inl (cI, 12, .inl (upd ow (Int32.toNatClampNeg (nI mf)) p0))), (b 27, .inl (cI, 12, .inl (upd kd (Int32.toNatClampNeg (nI mf)) p1))), (b 28, .inl (cI, 12, .inl (upd nee (Int32.toNatClampNeg (nI mf)) p2))), (b 29, .inl (cI, 12, .inl (upd re (Int32.toNatClampNeg (nI mf)) p3))), (b 30, .inl (cI, 12, .inl (upd va (Int32.toNatClampNeg (nI mf)) p4))), (b 31, .inl (cI, 12, .inl (upd dn (Int32.toNatClampNeg (nI mf)) (-1))))] H := hP
              have hD : va_D A [(b 0, .inr (8, [.ref (b 1), .int (nI mt), .int (gg 2), .int (gg 3), .int (gg 4), .int (gg 5), .int (gg 6), .int (gg 7), .int (gg 8), .int (gg 9), .ref (b 11), .ref (b 12), .ref (b 13), .int (nI mc), .int (nI mh), .ref (b 16), .ref (b 17), .ref (b 18), .ref (b 19), .ref (b 20), .ref (b 21), .ref (b 22), .ref (b 23), .ref (b 24), .int (nI mf), .ref (b 26), .ref (b 27), .ref (b 28), .ref (b 29), .ref (b 30), .ref (b 31), .ref (b 32), .int (gg 32), .int (nI md), .ref (b 35), .ref (b 36), .ref (b 37), .ref (b 38), .ref (b 39), .ref (b 40), .int (gg 40), .ref (b 42), .ref (b 43), .ref (b 44), .int (gg 44), .ref (b 46), .ref (b 47), .int (gg 47), .ref (b 49)])), (b 26, .inl (cI, 12, .inl (upd ow (Int32.toNatClampNeg (nI mf)) p0))), (b 27, .inl (cI, 12, .inl (upd kd (Int32.toNatClampNeg (nI mf)) p1))), (b 28, .inl (cI, 12, .inl (upd nee (Int32.toNatClampNeg (nI mf)) p2))), (b 29, .inl (cI, 12, .inl (upd re (Int32.toNatClampNeg (nI mf)) p3))), (b 30, .inl (cI, 12, .inl (upd va (Int32.toNatClampNeg (nI mf)) p4))), (b 31, .inl (cI, 12, .inl (upd dn (Int32.toNatClampNeg (nI mf)) (-1))))] := hD
              refine lv_aload_n hx hb dX8_field_131 rfl (lv_at hl 0 rfl) ?_
              refine lv_dup hx hb dX8_field_132 rfl ?_
              refine va_get (D := (dC, dI)) (ci := 8) (v := .int (nI mf)) (C := RX8) (T := TX8) (N := 49) hx hb hw zz_inX8 hown hK hP 0 rfl rfl 24 (by decide) (hw _ tw_187) (fun _ h9 => h9) rfl dX8_field_133 ?_
              refine lv_iconst (v := 1) hx hb dX8_field_136 (by decide) ?_
              refine lv_iadd hx hb dX8_field_137 ?_
              refine zz_seti (nI (mf + 1)) (nI_1 _) ?_
              refine va_put (D := (dC, dI)) (ci := 8) (v := .int (nI (mf + 1))) (ty := .int) (C := RX8) (T := TX8) (N := 49) hx hb hw zz_inX8 tyX8 tyX8_ok nmX8 hown hK hP hD hS 0 rfl rfl 24 (by decide) (hw _ tw_187) (fun _ h9 => h9) rfl (by decide +kernel) rfl rfl (Nat.le_of_ble_eq_true rfl) dX8_field_138 (fun H locs hP hD hS => ?_)
              have hP : va_P (dC, dI) vwCl [(b 0, .inr (8, [.ref (b 1), .int (nI mt), .int (gg 2), .int (gg 3), .int (gg 4), .int (gg 5), .int (gg 6), .int (gg 7), .int (gg 8), .int (gg 9), .ref (b 11), .ref (b 12), .ref (b 13), .int (nI mc), .int (nI mh), .ref (b 16), .ref (b 17), .ref (b 18), .ref (b 19), .ref (b 20), .ref (b 21), .ref (b 22), .ref (b 23), .ref (b 24), .int (nI (mf + 1)), .ref (b 26), .ref (b 27), .ref (b 28), .ref (b 29), .ref (b 30), .ref (b 31), .ref (b 32), .int (gg 32), .int (nI md), .ref (b 35), .ref (b 36), .ref (b 37), .ref (b 38), .ref (b 39), .ref (b 40), .int (gg 40), .ref (b 42), .ref (b 43), .ref (b 44), .int (gg 44), .ref (b 46), .ref (b 47), .int (gg 47), .ref (b 49)])), (b 26, .inl (cI, 12, .inl (upd ow (Int32.toNatClampNeg (nI mf)) p0))), (b 27, .inl (cI, 12, .inl (upd kd (Int32.toNatClampNeg (nI mf)) p1))), (b 28, .inl (cI, 12, .inl (upd nee (Int32.toNatClampNeg (nI mf)) p2))), (b 29, .inl (cI, 12, .inl (upd re (Int32.toNatClampNeg (nI mf)) p3))), (b 30, .inl (cI, 12, .inl (upd va (Int32.toNatClampNeg (nI mf)) p4))), (b 31, .inl (cI, 12, .inl (upd dn (Int32.toNatClampNeg (nI mf)) (-1))))] H := hP
              have hD : va_D A [(b 0, .inr (8, [.ref (b 1), .int (nI mt), .int (gg 2), .int (gg 3), .int (gg 4), .int (gg 5), .int (gg 6), .int (gg 7), .int (gg 8), .int (gg 9), .ref (b 11), .ref (b 12), .ref (b 13), .int (nI mc), .int (nI mh), .ref (b 16), .ref (b 17), .ref (b 18), .ref (b 19), .ref (b 20), .ref (b 21), .ref (b 22), .ref (b 23), .ref (b 24), .int (nI (mf + 1)), .ref (b 26), .ref (b 27), .ref (b 28), .ref (b 29), .ref (b 30), .ref (b 31), .ref (b 32), .int (gg 32), .int (nI md), .ref (b 35), .ref (b 36), .ref (b 37), .ref (b 38), .ref (b 39), .ref (b 40), .int (gg 40), .ref (b 42), .ref (b 43), .ref (b 44), .int (gg 44), .ref (b 46), .ref (b 47), .int (gg 47), .ref (b 49)])), (b 26, .inl (cI, 12, .inl (upd ow (Int32.toNatClampNeg (nI mf)) p0))), (b 27, .inl (cI, 12, .inl (upd kd (Int32.toNatClampNeg (nI mf)) p1))), (b 28, .inl (cI, 12, .inl (upd nee (Int32.toNatClampNeg (nI mf)) p2))), (b 29, .inl (cI, 12, .inl (upd re (Int32.toNatClampNeg (nI mf)) p3))), (b 30, .inl (cI, 12, .inl (upd va (Int32.toNatClampNeg (nI mf)) p4))), (b 31, .inl (cI, 12, .inl (upd dn (Int32.toNatClampNeg (nI mf)) (-1))))] := hD
              refine lv_aload_n hx hb dX8_field_141 rfl (lv_at hl 0 rfl) ?_
              refine va_get (D := (dC, dI)) (ci := 8) (v := .int (nI (mf + 1))) (C := RX8) (T := TX8) (N := 49) hx hb hw zz_inX8 hown hK hP 0 rfl rfl 24 (by decide) (hw _ tw_187) (fun _ h9 => h9) rfl dX8_field_142 ?_
              refine lv_iconst (v := 1) hx hb dX8_field_145 (by decide) ?_
              refine lv_isub hx hb dX8_field_146 ?_
              refine zz_seti (nI mf) (nI_pred _) ?_
              have hP9 := hP.sub (ws' := [(b 0, .inr (8, [.ref (b 1), .int (nI mt), .int (gg 2), .int (gg 3), .int (gg 4), .int (gg 5), .int (gg 6), .int (gg 7), .int (gg 8), .int (gg 9), .ref (b 11), .ref (b 12), .ref (b 13), .int (nI mc), .int (nI mh), .ref (b 16), .ref (b 17), .ref (b 18), .ref (b 19), .ref (b 20), .ref (b 21), .ref (b 22), .ref (b 23), .ref (b 24), .int (nI (mf + 1)), .ref (b 26), .ref (b 27), .ref (b 28), .ref (b 29), .ref (b 30), .ref (b 31), .ref (b 32), .int (gg 32), .int (nI md), .ref (b 35), .ref (b 36), .ref (b 37), .ref (b 38), .ref (b 39), .ref (b 40), .int (gg 40), .ref (b 42), .ref (b 43), .ref (b 44), .int (gg 44), .ref (b 46), .ref (b 47), .int (gg 47), .ref (b 49)])), (b 26, .inl (cI, 12, .inl (upd ow (Int32.toNatClampNeg (nI mf)) p0))), (b 27, .inl (cI, 12, .inl (upd kd (Int32.toNatClampNeg (nI mf)) p1))), (b 28, .inl (cI, 12, .inl (upd nee (Int32.toNatClampNeg (nI mf)) p2))), (b 29, .inl (cI, 12, .inl (upd re (Int32.toNatClampNeg (nI mf)) p3))), (b 30, .inl (cI, 12, .inl (upd va (Int32.toNatClampNeg (nI mf)) p4))), (b 31, .inl (cI, 12, .inl (upd dn (Int32.toNatClampNeg (nI mf)) (-1))))]) [0, 1, 2, 3, 4, 5, 6] rfl
              have hD9 := hD.sub (ws' := [(b 0, .inr (8, [.ref (b 1), .int (nI mt), .int (gg 2), .int (gg 3), .int (gg 4), .int (gg 5), .int (gg 6), .int (gg 7), .int (gg 8), .int (gg 9), .ref (b 11), .ref (b 12), .ref (b 13), .int (nI mc), .int (nI mh), .ref (b 16), .ref (b 17), .ref (b 18), .ref (b 19), .ref (b 20), .ref (b 21), .ref (b 22), .ref (b 23), .ref (b 24), .int (nI (mf + 1)), .ref (b 26), .ref (b 27), .ref (b 28), .ref (b 29), .ref (b 30), .ref (b 31), .ref (b 32), .int (gg 32), .int (nI md), .ref (b 35), .ref (b 36), .ref (b 37), .ref (b 38), .ref (b 39), .ref (b 40), .int (gg 40), .ref (b 42), .ref (b 43), .ref (b 44), .int (gg 44), .ref (b 46), .ref (b 47), .int (gg 47), .ref (b 49)])), (b 26, .inl (cI, 12, .inl (upd ow (Int32.toNatClampNeg (nI mf)) p0))), (b 27, .inl (cI, 12, .inl (upd kd (Int32.toNatClampNeg (nI mf)) p1))), (b 28, .inl (cI, 12, .inl (upd nee (Int32.toNatClampNeg (nI mf)) p2))), (b 29, .inl (cI, 12, .inl (upd re (Int32.toNatClampNeg (nI mf)) p3))), (b 30, .inl (cI, 12, .inl (upd va (Int32.toNatClampNeg (nI mf)) p4))), (b 31, .inl (cI, 12, .inl (upd dn (Int32.toNatClampNeg (nI mf)) (-1))))]) [0, 1, 2, 3, 4, 5, 6] (by decide) rfl
              have hK9 := hK.sub (tys' := [(cI, .int)]) [0] rfl
              exact W.iret (v := (nI mf)) hx hb hr (fun t ht hW => ⟨⟨(nI mf), ((mf + 1), (upd ow (Int32.toNatClampNeg (nI mf)) p0), (upd kd (Int32.toNatClampNeg (nI mf)) p1), (upd nee (Int32.toNatClampNeg (nI mf)) p2), (upd re (Int32.toNatClampNeg (nI mf)) p3), (upd va (Int32.toNatClampNeg (nI mf)) p4), (upd dn (Int32.toNatClampNeg (nI mf)) (-1))), rfl, ⟨Or.inl ⟨by omega, rfl, rfl⟩, zz_rg_upd hro (by omega) (by omega), zz_rg_upd hrk (by omega) (by omega), zz_rg_upd hrn (by omega) (by omega), zz_rg_upd hrr (by omega) (by omega), zz_rg_upd hrv (by omega) (by omega), zz_dn_new hdn (by omega) (by omega)⟩, by rw [ht]; exact hP9, va_K.moved hW.alike hK9, hD9⟩, hS.F ht⟩) hS.2.2 dX8_field_147
            · have zc_10 := c_10
              rw [← Int32.toInt_inj] at zc_10
              try rw [zz_toInt mf (by omega)] at zc_10
              try rw [show (12 : Int32).toInt = 12 from by decide] at zc_10
              refine lv_iconst (v := (-1)) hx hb dX8_field_67 (by decide) ?_
              have hP9 := hP.sub (ws' := [(b 0, .inr (8, [.ref (b 1), .int (nI mt), .int (gg 2), .int (gg 3), .int (gg 4), .int (gg 5), .int (gg 6), .int (gg 7), .int (gg 8), .int (gg 9), .ref (b 11), .ref (b 12), .ref (b 13), .int (nI mc), .int (nI mh), .ref (b 16), .ref (b 17), .ref (b 18), .ref (b 19), .ref (b 20), .ref (b 21), .ref (b 22), .ref (b 23), .ref (b 24), .int (nI mf), .ref (b 26), .ref (b 27), .ref (b 28), .ref (b 29), .ref (b 30), .ref (b 31), .ref (b 32), .int (gg 32), .int (nI md), .ref (b 35), .ref (b 36), .ref (b 37), .ref (b 38), .ref (b 39), .ref (b 40), .int (gg 40), .ref (b 42), .ref (b 43), .ref (b 44), .int (gg 44), .ref (b 46), .ref (b 47), .int (gg 47), .ref (b 49)])), (b 26, .inl (cI, 12, .inl ow)), (b 27, .inl (cI, 12, .inl kd)), (b 28, .inl (cI, 12, .inl nee)), (b 29, .inl (cI, 12, .inl re)), (b 30, .inl (cI, 12, .inl va)), (b 31, .inl (cI, 12, .inl dn))]) [0, 1, 2, 3, 4, 5, 6] rfl
              have hD9 := hD.sub (ws' := [(b 0, .inr (8, [.ref (b 1), .int (nI mt), .int (gg 2), .int (gg 3), .int (gg 4), .int (gg 5), .int (gg 6), .int (gg 7), .int (gg 8), .int (gg 9), .ref (b 11), .ref (b 12), .ref (b 13), .int (nI mc), .int (nI mh), .ref (b 16), .ref (b 17), .ref (b 18), .ref (b 19), .ref (b 20), .ref (b 21), .ref (b 22), .ref (b 23), .ref (b 24), .int (nI mf), .ref (b 26), .ref (b 27), .ref (b 28), .ref (b 29), .ref (b 30), .ref (b 31), .ref (b 32), .int (gg 32), .int (nI md), .ref (b 35), .ref (b 36), .ref (b 37), .ref (b 38), .ref (b 39), .ref (b 40), .int (gg 40), .ref (b 42), .ref (b 43), .ref (b 44), .int (gg 44), .ref (b 46), .ref (b 47), .int (gg 47), .ref (b 49)])), (b 26, .inl (cI, 12, .inl ow)), (b 27, .inl (cI, 12, .inl kd)), (b 28, .inl (cI, 12, .inl nee)), (b 29, .inl (cI, 12, .inl re)), (b 30, .inl (cI, 12, .inl va)), (b 31, .inl (cI, 12, .inl dn))]) [0, 1, 2, 3, 4, 5, 6] (by decide) rfl
              have hK9 := hK.sub (tys' := [(cI, .int)]) [0] rfl
              exact W.iret (v := (-1)) hx hb hr (fun t ht hW => ⟨⟨(-1), (mf, ow, kd, nee, re, va, dn), rfl, ⟨Or.inr ⟨by omega, rfl, rfl⟩, hro, hrk, hrn, hrr, hrv, hdn⟩, by rw [ht]; exact hP9, va_K.moved hW.alike hK9, hD9⟩, hS.F ht⟩) hS.2.2 dX8_field_68
  · refine zz_seti 0 er_1 ?_
    refine lv_if_eq (tgt := 67) hx hb dX8_field_5 (by decide) (fun _ => ?_) (fun c_9 => absurd c_9 (by decide))
    refine lv_iconst (v := (-1)) hx hb dX8_field_67 (by decide) ?_
    have hP9 := hP.sub (ws' := [(b 0, .inr (8, [.ref (b 1), .int (nI mt), .int (gg 2), .int (gg 3), .int (gg 4), .int (gg 5), .int (gg 6), .int (gg 7), .int (gg 8), .int (gg 9), .ref (b 11), .ref (b 12), .ref (b 13), .int (nI mc), .int (nI mh), .ref (b 16), .ref (b 17), .ref (b 18), .ref (b 19), .ref (b 20), .ref (b 21), .ref (b 22), .ref (b 23), .ref (b 24), .int (nI mf), .ref (b 26), .ref (b 27), .ref (b 28), .ref (b 29), .ref (b 30), .ref (b 31), .ref (b 32), .int (gg 32), .int (nI md), .ref (b 35), .ref (b 36), .ref (b 37), .ref (b 38), .ref (b 39), .ref (b 40), .int (gg 40), .ref (b 42), .ref (b 43), .ref (b 44), .int (gg 44), .ref (b 46), .ref (b 47), .int (gg 47), .ref (b 49)])), (b 26, .inl (cI, 12, .inl ow)), (b 27, .inl (cI, 12, .inl kd)), (b 28, .inl (cI, 12, .inl nee)), (b 29, .inl (cI, 12, .inl re)), (b 30, .inl (cI, 12, .inl va)), (b 31, .inl (cI, 12, .inl dn))]) [0, 1, 2, 3, 4, 5, 6] rfl
    have hD9 := hD.sub (ws' := [(b 0, .inr (8, [.ref (b 1), .int (nI mt), .int (gg 2), .int (gg 3), .int (gg 4), .int (gg 5), .int (gg 6), .int (gg 7), .int (gg 8), .int (gg 9), .ref (b 11), .ref (b 12), .ref (b 13), .int (nI mc), .int (nI mh), .ref (b 16), .ref (b 17), .ref (b 18), .ref (b 19), .ref (b 20), .ref (b 21), .ref (b 22), .ref (b 23), .ref (b 24), .int (nI mf), .ref (b 26), .ref (b 27), .ref (b 28), .ref (b 29), .ref (b 30), .ref (b 31), .ref (b 32), .int (gg 32), .int (nI md), .ref (b 35), .ref (b 36), .ref (b 37), .ref (b 38), .ref (b 39), .ref (b 40), .int (gg 40), .ref (b 42), .ref (b 43), .ref (b 44), .int (gg 44), .ref (b 46), .ref (b 47), .int (gg 47), .ref (b 49)])), (b 26, .inl (cI, 12, .inl ow)), (b 27, .inl (cI, 12, .inl kd)), (b 28, .inl (cI, 12, .inl nee)), (b 29, .inl (cI, 12, .inl re)), (b 30, .inl (cI, 12, .inl va)), (b 31, .inl (cI, 12, .inl dn))]) [0, 1, 2, 3, 4, 5, 6] (by decide) rfl
    have hK9 := hK.sub (tys' := [(cI, .int)]) [0] rfl
    exact W.iret (v := (-1)) hx hb hr (fun t ht hW => ⟨⟨(-1), (mf, ow, kd, nee, re, va, dn), rfl, ⟨Or.inr ⟨by omega, rfl, rfl⟩, hro, hrk, hrn, hrr, hrv, hdn⟩, by rw [ht]; exact hP9, va_K.moved hW.alike hK9, hD9⟩, hS.F ht⟩) hS.2.2 dX8_field_68

set_option maxHeartbeats 4000000 in
set_option maxRecDepth 100000 in
theorem m_houseOf (l : Launch) (dC : Nat → ClassId) (dI : Nat → Nat → Nat) (b : Nat → Nat) (gg : Nat → Int32) (mt : Nat) (mc : Nat) (mh : Nat) (mf : Nat) (md : Nat) (cI : ClassId) (cZ : ClassId) (ha : Nat → Int32) (wi : Nat → Int32) (il : Nat → Int32) (us : Nat → Int32) (f1 : Nat → Int32) (f2 : Nat → Int32) (pd : Nat → Int32) (la : Nat → Int32) (ow : Nat → Int32) (dn : Nat → Int32) (gt : Nat → Int32) (mo : Nat → Int32) (mr : Nat → Int32) (my : Nat → Int32) (mu : Nat → Int32) (p0 : Int32) (p1 : Int32) (sz : Nat) (hmh : mh ≤ 8) (hmf : mf ≤ 12) (hmd : md ≤ 300) : Met l yX8_houseOf (zz_w yX8_houseOf cX8_houseOf 5 (some .int)) ({ frames := 2, cells := 0, slots := 0, locals := 46 }) (va_Pc [.ref (b 0), .int p0, .int p1] (zz_B (dC, dI) sz [(b 0, .inr (8, [.ref (b 1), .int (nI mt), .int (gg 2), .int (gg 3), .int (gg 4), .int (gg 5), .int (gg 6), .int (gg 7), .int (gg 8), .int (gg 9), .ref (b 11), .ref (b 12), .ref (b 13), .int (nI mc), .int (nI mh), .ref (b 16), .ref (b 17), .ref (b 18), .ref (b 19), .ref (b 20), .ref (b 21), .ref (b 22), .ref (b 23), .ref (b 24), .int (nI mf), .ref (b 26), .ref (b 27), .ref (b 28), .ref (b 29), .ref (b 30), .ref (b 31), .ref (b 32), .int (gg 32), .int (nI md), .ref (b 35), .ref (b 36), .ref (b 37), .ref (b 38), .ref (b 39), .ref (b 40), .int (gg 40), .ref (b 42), .ref (b 43), .ref (b 44), .int (gg 44), .ref (b 46), .ref (b 47), .int (gg 47), .ref (b 49)])), (b 16, .inl (cI, 8, .inl ha)), (b 17, .inl (cZ, 8, .inl wi)), (b 18, .inl (cI, 8, .inl il)), (b 19, .inl (cI, 8, .inl us)), (b 20, .inl (cI, 8, .inl f1)), (b 21, .inl (cI, 8, .inl f2)), (b 22, .inl (cI, 8, .inl pd)), (b 23, .inl (cI, 8, .inl la)), (b 26, .inl (cI, 12, .inl ow)), (b 31, .inl (cI, 12, .inl dn)), (b 32, .inl (cI, 12, .inl gt)), (b 35, .inl (cI, 300, .inl mo)), (b 36, .inl (cI, 300, .inl mr)), (b 37, .inl (cI, 300, .inl my)), (b 38, .inl (cI, 300, .inl mu))] [(cI, .int), (cZ, .boolean)])) (va_Qi (fun (_ : Int32) (_ : Unit) => True) (fun _ _ => True) (va_A [] sz)) 0 0 (va_A [] sz) := by
  refine Met.ofW (cc := cX8_houseOf) (maxL := 5) (ret := (some .int)) (by decide) rfl ?_
  intro p e s m args below meth c s₁ B hml hv
  obtain ⟨rfl, hsz, hP, hK, hD0, hN⟩ := hv
  have hx := B.exec
  have hb := B.bytes
  have hr := B.returns
  have hts := atoms_spec (ws := zz_w yX8_houseOf cX8_houseOf 5 (some .int)) B.pre
  have hw : ∀ w ∈ zz_all, w.before _ s = true := fun w h => hts w (List.mem_cons_of_mem _ h)
  have hown : s.vm.findClass RX8 = some m.cls := findClass_of_methodNamed B.named
  have hlocks := B.notSynchronized
  subst hsz
  have hD := hD0
  generalize hAe : va_A [] s.heap.size = A
  have hA : ∀ q : Nat, s.heap.size ≤ q → A q := fun q h => by rw [← hAe]; exact Or.inr h
  have hS : va_S A s.heap s.heap [] := va_S.rf
  have hP : va_P (dC, dI) vwCl [(b 0, .inr (8, [.ref (b 1), .int (nI mt), .int (gg 2), .int (gg 3), .int (gg 4), .int (gg 5), .int (gg 6), .int (gg 7), .int (gg 8), .int (gg 9), .ref (b 11), .ref (b 12), .ref (b 13), .int (nI mc), .int (nI mh), .ref (b 16), .ref (b 17), .ref (b 18), .ref (b 19), .ref (b 20), .ref (b 21), .ref (b 22), .ref (b 23), .ref (b 24), .int (nI mf), .ref (b 26), .ref (b 27), .ref (b 28), .ref (b 29), .ref (b 30), .ref (b 31), .ref (b 32), .int (gg 32), .int (nI md), .ref (b 35), .ref (b 36), .ref (b 37), .ref (b 38), .ref (b 39), .ref (b 40), .int (gg 40), .ref (b 42), .ref (b 43), .ref (b 44), .int (gg 44), .ref (b 46), .ref (b 47), .int (gg 47), .ref (b 49)])), (b 16, .inl (cI, 8, .inl ha)), (b 17, .inl (cZ, 8, .inl wi)), (b 18, .inl (cI, 8, .inl il)), (b 19, .inl (cI, 8, .inl us)), (b 20, .inl (cI, 8, .inl f1)), (b 21, .inl (cI, 8, .inl f2)), (b 22, .inl (cI, 8, .inl pd)), (b 23, .inl (cI, 8, .inl la)), (b 26, .inl (cI, 12, .inl ow)), (b 31, .inl (cI, 12, .inl dn)), (b 32, .inl (cI, 12, .inl gt)), (b 35, .inl (cI, 300, .inl mo)), (b 36, .inl (cI, 300, .inl mr)), (b 37, .inl (cI, 300, .inl my)), (b 38, .inl (cI, 300, .inl mu))] s.heap := hP
  have hl := lv_entry ([.ref (b 0), .int p0, .int p1]) (n := 5) (Nat.le_of_ble_eq_true rfl)
  rw [lg_entry_eq]
  generalize (lg_sl ([.ref (b 0), .int p0, .int p1]) ++ List.replicate (5 - (lg_sl ([.ref (b 0), .int p0, .int p1])).length) Slot.unset).toArray = ls at hl ⊢
  have hl : lv_has ls 5 [(0, .ref (b 0)), (1, .int p0), (2, .int p1)] := hl
  refine lv_aload_n hx hb dX8_houseOf_0 rfl (lv_at hl 0 rfl) ?_
  refine lv_iload_n hx hb dX8_houseOf_1 rfl (lv_at hl 1 rfl) ?_
  have hPc := hP.sub (ws' := [(b 0, .inr (8, [.ref (b 1), .int (nI mt), .int (gg 2), .int (gg 3), .int (gg 4), .int (gg 5), .int (gg 6), .int (gg 7), .int (gg 8), .int (gg 9), .ref (b 11), .ref (b 12), .ref (b 13), .int (nI mc), .int (nI mh), .ref (b 16), .ref (b 17), .ref (b 18), .ref (b 19), .ref (b 20), .ref (b 21), .ref (b 22), .ref (b 23), .ref (b 24), .int (nI mf), .ref (b 26), .ref (b 27), .ref (b 28), .ref (b 29), .ref (b 30), .ref (b 31), .ref (b 32), .int (gg 32), .int (nI md), .ref (b 35), .ref (b 36), .ref (b 37), .ref (b 38), .ref (b 39), .ref (b 40), .int (gg 40), .ref (b 42), .ref (b 43), .ref (b 44), .int (gg 44), .ref (b 46), .ref (b 47), .int (gg 47), .ref (b 49)]))]) [0] rfl
  have hDc := hD.sub (ws' := [(b 0, .inr (8, [.ref (b 1), .int (nI mt), .int (gg 2), .int (gg 3), .int (gg 4), .int (gg 5), .int (gg 6), .int (gg 7), .int (gg 8), .int (gg 9), .ref (b 11), .ref (b 12), .ref (b 13), .int (nI mc), .int (nI mh), .ref (b 16), .ref (b 17), .ref (b 18), .ref (b 19), .ref (b 20), .ref (b 21), .ref (b 22), .ref (b 23), .ref (b 24), .int (nI mf), .ref (b 26), .ref (b 27), .ref (b 28), .ref (b 29), .ref (b 30), .ref (b 31), .ref (b 32), .int (gg 32), .int (nI md), .ref (b 35), .ref (b 36), .ref (b 37), .ref (b 38), .ref (b 39), .ref (b 40), .int (gg 40), .ref (b 42), .ref (b 43), .ref (b 44), .int (gg 44), .ref (b 46), .ref (b 47), .int (gg 47), .ref (b 49)]))]) [0] (by decide) rfl
  have hKc := hK.sub (tys' := []) [] rfl
  have hFc := zz_free0 hS hA
  refine va_calli (va_runV (As := [.int p0]) (rest := []) ⟨hx, hb, hml, hown, hw⟩ (m_isHouse l dC dI b gg mt mc mh mf md p0 s.heap.size (by omega)) ⟨callB_of 1 hw (zz_good tw_197) rfl rfl rfl (hw _ tw_184) (hw _ tw_198) (by decide +kernel) ⟨Nat.le_of_ble_eq_true rfl, Nat.le_of_ble_eq_true rfl⟩, (hw _ tw_199), (hw _ tw_200)⟩ ⟨zz_blind, va_recv hKc hPc (ci := 8) (q0 := 0) rfl rfl, zz_pre hPc hKc hDc hN⟩ rfl rfl hl.1 rfl (lv_room (Nat.le_of_ble_eq_true rfl)) dX8_houseOf_2 ⟨Nat.le_of_ble_eq_true rfl, Nat.le_of_ble_eq_true rfl⟩) hS (fun q _ h => hFc q h) hFc (fun r_1 u_1 t H1 locs ht hvm e_1 hB hz1 hk1 hS => ?_)
  try dsimp only at e_1
  have hP := zz_keep hP hk1
  clear hk1 hB ht hvm
  generalize H1 = H at hP hS ⊢
  rcases e_1 with ⟨n1_1, er_1⟩ | ⟨n1_1, er_1⟩
  · refine zz_seti 1 er_1 ?_
    refine lv_if_ne (tgt := 12) hx hb dX8_houseOf_5 (by decide) (fun _ => ?_) (fun c_9 => absurd c_9 (by decide))
    refine lv_iconst (v := 0) hx hb dX8_houseOf_12 (by decide) ?_
    refine lv_istore_n (lv' := [(3, .int 0), (0, .ref (b 0)), (1, .int p0), (2, .int p1)]) hx hb dX8_houseOf_13 rfl hl (by decide) rfl (fun ls hl => ?_)
    refine lv_iconst (v := 0) hx hb dX8_houseOf_14 (by decide) ?_
    refine lv_istore (lv' := [(4, .int 0), (3, .int 0), (0, .ref (b 0)), (1, .int p0), (2, .int p1)]) hx hb dX8_houseOf_15 hl (by decide) rfl (fun ls hl => ?_)
    refine zz_loopS (fun (u : (Nat) × (Int32)) => match u with | (j, y) => [(b 0, .inr (8, [.ref (b 1), .int (nI mt), .int (gg 2), .int (gg 3), .int (gg 4), .int (gg 5), .int (gg 6), .int (gg 7), .int (gg 8), .int (gg 9), .ref (b 11), .ref (b 12), .ref (b 13), .int (nI mc), .int (nI mh), .ref (b 16), .ref (b 17), .ref (b 18), .ref (b 19), .ref (b 20), .ref (b 21), .ref (b 22), .ref (b 23), .ref (b 24), .int (nI mf), .ref (b 26), .ref (b 27), .ref (b 28), .ref (b 29), .ref (b 30), .ref (b 31), .ref (b 32), .int (gg 32), .int (nI md), .ref (b 35), .ref (b 36), .ref (b 37), .ref (b 38), .ref (b 39), .ref (b 40), .int (gg 40), .ref (b 42), .ref (b 43), .ref (b 44), .int (gg 44), .ref (b 46), .ref (b 47), .int (gg 47), .ref (b 49)])), (b 16, .inl (cI, 8, .inl ha)), (b 17, .inl (cZ, 8, .inl wi)), (b 18, .inl (cI, 8, .inl il)), (b 19, .inl (cI, 8, .inl us)), (b 20, .inl (cI, 8, .inl f1)), (b 21, .inl (cI, 8, .inl f2)), (b 22, .inl (cI, 8, .inl pd)), (b 23, .inl (cI, 8, .inl la)), (b 26, .inl (cI, 12, .inl ow)), (b 31, .inl (cI, 12, .inl dn)), (b 32, .inl (cI, 12, .inl gt)), (b 35, .inl (cI, 300, .inl mo)), (b 36, .inl (cI, 300, .inl mr)), (b 37, .inl (cI, 300, .inl my)), (b 38, .inl (cI, 300, .inl mu))]) (fun (u : (Nat) × (Int32)) => match u with | (j, y) => [(0, .ref (b 0)), (1, .int p0), (2, .int p1), (3, .int y), (4, .int (nI j))]) (fun (u : (Nat) × (Int32)) => match u with | (j, y) => j ≤ mf) (fun (u : (Nat) × (Int32)) => match u with | (j, y) => mf - j) (fun u hI H locs ls hP hD hS hl ih_17 => ?_) (0, 0) (show 0 ≤ mf from by omega) _ _ _ (hP.sub [0, 1, 2, 3, 4, 5, 6, 7, 8, 9, 10, 11, 12, 13, 14, 15] rfl) (hD.sub [0, 1, 2, 3, 4, 5, 6, 7, 8, 9, 10, 11, 12, 13, 14, 15] (by decide) rfl) hS (lv_sub hl [2, 3, 4, 1, 0] rfl)
    obtain ⟨j, y⟩ := u
    have hP : va_P (dC, dI) vwCl [(b 0, .inr (8, [.ref (b 1), .int (nI mt), .int (gg 2), .int (gg 3), .int (gg 4), .int (gg 5), .int (gg 6), .int (gg 7), .int (gg 8), .int (gg 9), .ref (b 11), .ref (b 12), .ref (b 13), .int (nI mc), .int (nI mh), .ref (b 16), .ref (b 17), .ref (b 18), .ref (b 19), .ref (b 20), .ref (b 21), .ref (b 22), .ref (b 23), .ref (b 24), .int (nI mf), .ref (b 26), .ref (b 27), .ref (b 28), .ref (b 29), .ref (b 30), .ref (b 31), .ref (b 32), .int (gg 32), .int (nI md), .ref (b 35), .ref (b 36), .ref (b 37), .ref (b 38), .ref (b 39), .ref (b 40), .int (gg 40), .ref (b 42), .ref (b 43), .ref (b 44), .int (gg 44), .ref (b 46), .ref (b 47), .int (gg 47), .ref (b 49)])), (b 16, .inl (cI, 8, .inl ha)), (b 17, .inl (cZ, 8, .inl wi)), (b 18, .inl (cI, 8, .inl il)), (b 19, .inl (cI, 8, .inl us)), (b 20, .inl (cI, 8, .inl f1)), (b 21, .inl (cI, 8, .inl f2)), (b 22, .inl (cI, 8, .inl pd)), (b 23, .inl (cI, 8, .inl la)), (b 26, .inl (cI, 12, .inl ow)), (b 31, .inl (cI, 12, .inl dn)), (b 32, .inl (cI, 12, .inl gt)), (b 35, .inl (cI, 300, .inl mo)), (b 36, .inl (cI, 300, .inl mr)), (b 37, .inl (cI, 300, .inl my)), (b 38, .inl (cI, 300, .inl mu))] H := hP
    have hD : va_D (fun _ => True) [(b 0, .inr (8, [.ref (b 1), .int (nI mt), .int (gg 2), .int (gg 3), .int (gg 4), .int (gg 5), .int (gg 6), .int (gg 7), .int (gg 8), .int (gg 9), .ref (b 11), .ref (b 12), .ref (b 13), .int (nI mc), .int (nI mh), .ref (b 16), .ref (b 17), .ref (b 18), .ref (b 19), .ref (b 20), .ref (b 21), .ref (b 22), .ref (b 23), .ref (b 24), .int (nI mf), .ref (b 26), .ref (b 27), .ref (b 28), .ref (b 29), .ref (b 30), .ref (b 31), .ref (b 32), .int (gg 32), .int (nI md), .ref (b 35), .ref (b 36), .ref (b 37), .ref (b 38), .ref (b 39), .ref (b 40), .int (gg 40), .ref (b 42), .ref (b 43), .ref (b 44), .int (gg 44), .ref (b 46), .ref (b 47), .int (gg 47), .ref (b 49)])), (b 16, .inl (cI, 8, .inl ha)), (b 17, .inl (cZ, 8, .inl wi)), (b 18, .inl (cI, 8, .inl il)), (b 19, .inl (cI, 8, .inl us)), (b 20, .inl (cI, 8, .inl f1)), (b 21, .inl (cI, 8, .inl f2)), (b 22, .inl (cI, 8, .inl pd)), (b 23, .inl (cI, 8, .inl la)), (b 26, .inl (cI, 12, .inl ow)), (b 31, .inl (cI, 12, .inl dn)), (b 32, .inl (cI, 12, .inl gt)), (b 35, .inl (cI, 300, .inl mo)), (b 36, .inl (cI, 300, .inl mr)), (b 37, .inl (cI, 300, .inl my)), (b 38, .inl (cI, 300, .inl mu))] := hD
    have hl : lv_has ls 5 [(0, .ref (b 0)), (1, .int p0), (2, .int p1), (3, .int y), (4, .int (nI j))] := hl
    have hI : j ≤ mf := hI
    have ij := hI
    refine lv_iload hx hb dX8_houseOf_17 (lv_at hl 4 rfl) ?_
    refine lv_aload_n hx hb dX8_houseOf_19 rfl (lv_at hl 0 rfl) ?_
    refine va_get (D := (dC, dI)) (ci := 8) (v := .int (nI mf)) (C := RX8) (T := TX8) (N := 49) hx hb hw zz_inX8 hown hK hP 0 rfl rfl 24 (by decide) (hw _ tw_187) (fun _ h9 => h9) rfl dX8_houseOf_20 ?_
    refine lv_icmp_ge (tgt := 67) hx hb dX8_houseOf_23 (by decide) (fun c_2 => ?_) (fun c_2 => ?_)
    · have zc_2 := c_2
      rw [Int32.le_iff_toInt_le] at zc_2
      try rw [zz_toInt j (by omega)] at zc_2
      try rw [zz_toInt mf (by omega)] at zc_2
      refine lv_iload_n hx hb dX8_houseOf_67 rfl (lv_at hl 2 rfl) ?_
      by_cases c_3 : p1 = 0
      · have zc_3 := c_3
        rw [← Int32.toInt_inj] at zc_3
        try rw [show (0 : Int32).toInt = 0 from by decide] at zc_3
        refine lv_tableIn (tgt := 124) hx hb dX8_houseOf_68 (by rw [c_3]; decide) (by rw [c_3]; decide) (by rw [c_3]; rfl) (by decide) ?_
        refine lv_aload_n hx hb dX8_houseOf_124 rfl (lv_at hl 0 rfl) ?_
        refine va_get (D := (dC, dI)) (ci := 8) (v := .ref (b 16)) (C := RX8) (T := TX8) (N := 49) hx hb hw zz_inX8 hown hK hP 0 rfl rfl 15 (by decide) (hw _ tw_189) (fun _ h9 => h9) rfl dX8_houseOf_125 ?_
        refine lv_iload_n hx hb dX8_houseOf_128 rfl (lv_at hl 1 rfl) ?_
        refine va_iald hx hb hK hP 1 0 rfl rfl (vp_in_iff.mpr (by constructor <;> omega)) dX8_houseOf_129 ?_
        exact W.iret (v := (ha (Int32.toNatClampNeg p0))) hx hb hr (fun t ht hW => ⟨⟨(ha (Int32.toNatClampNeg p0)), (), rfl, trivial, trivial⟩, hS.F ht⟩) hS.2.2 dX8_houseOf_130
      by_cases c_4 : p1 = 1
      · have zc_4 := c_4
        rw [← Int32.toInt_inj] at zc_4
        try rw [show (1 : Int32).toInt = 1 from by decide] at zc_4
        refine lv_tableIn (tgt := 131) hx hb dX8_houseOf_68 (by rw [c_4]; decide) (by rw [c_4]; decide) (by rw [c_4]; rfl) (by decide) ?_
        refine lv_aload_n hx hb dX8_houseOf_131 rfl (lv_at hl 0 rfl) ?_
        refine va_get (D := (dC, dI)) (ci := 8) (v := .ref (b 17)) (C := RX8) (T := TX8) (N := 49) hx hb hw zz_inX8 hown hK hP 0 rfl rfl 16 (by decide) (hw _ tw_190) (fun _ h9 => h9) rfl dX8_houseOf_132 ?_
        refine lv_iload_n hx hb dX8_houseOf_135 rfl (lv_at hl 1 rfl) ?_
        refine va_zald hx hb hK hP 2 1 rfl rfl (vp_in_iff.mpr (by constructor <;> omega)) dX8_houseOf_136 ?_
        refine lv_if_eq (tgt := 144) hx hb dX8_houseOf_137 (by decide) (fun c_5 => ?_) (fun c_5 => ?_)
        · have zc_5 := c_5
          rw [← Int32.toInt_inj] at zc_5
          try rw [show (0 : Int32).toInt = 0 from by decide] at zc_5
          refine lv_iconst (v := 0) hx hb dX8_houseOf_144 (by decide) ?_
          exact W.iret (v := 0) hx hb hr (fun t ht hW => ⟨⟨0, (), rfl, trivial, trivial⟩, hS.F ht⟩) hS.2.2 dX8_houseOf_145
        · have zc_5 := c_5
          rw [← Int32.toInt_inj] at zc_5
          try rw [show (0 : Int32).toInt = 0 from by decide] at zc_5
          refine lv_iconst (v := 1) hx hb dX8_houseOf_140 (by decide) ?_
          refine lv_goto (tgt := 145) hx hb dX8_houseOf_141 (by decide) ?_
          exact W.iret (v := 1) hx hb hr (fun t ht hW => ⟨⟨1, (), rfl, trivial, trivial⟩, hS.F ht⟩) hS.2.2 dX8_houseOf_145
      by_cases c_6 : p1 = 2
      · have zc_6 := c_6
        rw [← Int32.toInt_inj] at zc_6
        try rw [show (2 : Int32).toInt = 2 from by decide] at zc_6
        refine lv_tableIn (tgt := 146) hx hb dX8_houseOf_68 (by rw [c_6]; decide) (by rw [c_6]; decide) (by rw [c_6]; rfl) (by decide) ?_
        refine lv_aload_n hx hb dX8_houseOf_146 rfl (lv_at hl 0 rfl) ?_
        refine va_get (D := (dC, dI)) (ci := 8) (v := .ref (b 18)) (C := RX8) (T := TX8) (N := 49) hx hb hw zz_inX8 hown hK hP 0 rfl rfl 17 (by decide) (hw _ tw_202) (fun _ h9 => h9) rfl dX8_houseOf_147 ?_
        refine lv_iload_n hx hb dX8_houseOf_150 rfl (lv_at hl 1 rfl) ?_
        refine va_iald hx hb hK hP 3 0 rfl rfl (vp_in_iff.mpr (by constructor <;> omega)) dX8_houseOf_151 ?_
        exact W.iret (v := (il (Int32.toNatClampNeg p0))) hx hb hr (fun t ht hW => ⟨⟨(il (Int32.toNatClampNeg p0)), (), rfl, trivial, trivial⟩, hS.F ht⟩) hS.2.2 dX8_houseOf_152
      by_cases c_7 : p1 = 3
      · have zc_7 := c_7
        rw [← Int32.toInt_inj] at zc_7
        try rw [show (3 : Int32).toInt = 3 from by decide] at zc_7
        refine lv_tableIn (tgt := 153) hx hb dX8_houseOf_68 (by rw [c_7]; decide) (by rw [c_7]; decide) (by rw [c_7]; rfl) (by decide) ?_
        refine lv_aload_n hx hb dX8_houseOf_153 rfl (lv_at hl 0 rfl) ?_
        refine lv_iload_n hx hb dX8_houseOf_154 rfl (lv_at hl 1 rfl) ?_
        have hPc := hP.sub (ws' := [(b 0, .inr (8, [.ref (b 1), .int (nI mt), .int (gg 2), .int (gg 3), .int (gg 4), .int (gg 5), .int (gg 6), .int (gg 7), .int (gg 8), .int (gg 9), .ref (b 11), .ref (b 12), .ref (b 13), .int (nI mc), .int (nI mh), .ref (b 16), .ref (b 17), .ref (b 18), .ref (b 19), .ref (b 20), .ref (b 21), .ref (b 22), .ref (b 23), .ref (b 24), .int (nI mf), .ref (b 26), .ref (b 27), .ref (b 28), .ref (b 29), .ref (b 30), .ref (b 31), .ref (b 32), .int (gg 32), .int (nI md), .ref (b 35), .ref (b 36), .ref (b 37), .ref (b 38), .ref (b 39), .ref (b 40), .int (gg 40), .ref (b 42), .ref (b 43), .ref (b 44), .int (gg 44), .ref (b 46), .ref (b 47), .int (gg 47), .ref (b 49)])), (b 18, .inl (cI, 8, .inl il)), (b 16, .inl (cI, 8, .inl ha)), (b 19, .inl (cI, 8, .inl us))]) [0, 3, 1, 4] rfl
        have hDc := hD.sub (ws' := [(b 0, .inr (8, [.ref (b 1), .int (nI mt), .int (gg 2), .int (gg 3), .int (gg 4), .int (gg 5), .int (gg 6), .int (gg 7), .int (gg 8), .int (gg 9), .ref (b 11), .ref (b 12), .ref (b 13), .int (nI mc), .int (nI mh), .ref (b 16), .ref (b 17), .ref (b 18), .ref (b 19), .ref (b 20), .ref (b 21), .ref (b 22), .ref (b 23), .ref (b 24), .int (nI mf), .ref (b 26), .ref (b 27), .ref (b 28), .ref (b 29), .ref (b 30), .ref (b 31), .ref (b 32), .int (gg 32), .int (nI md), .ref (b 35), .ref (b 36), .ref (b 37), .ref (b 38), .ref (b 39), .ref (b 40), .int (gg 40), .ref (b 42), .ref (b 43), .ref (b 44), .int (gg 44), .ref (b 46), .ref (b 47), .int (gg 47), .ref (b 49)])), (b 18, .inl (cI, 8, .inl il)), (b 16, .inl (cI, 8, .inl ha)), (b 19, .inl (cI, 8, .inl us))]) [0, 3, 1, 4] (by decide) rfl
        have hKc := hK.sub (tys' := [(cI, .int)]) [0] rfl
        have hFc := zz_free0 hS hA
        refine va_calli (va_runV (As := [.int p0]) (rest := []) ⟨hx, hb, hml, hown, hw⟩ (m_free l dC dI b gg mt mc mh mf md cI il ha us p0 H.size (by omega)) ⟨callB_of 1 hw (zz_good tw_245) rfl rfl rfl (hw _ tw_184) (hw _ tw_246) (by decide +kernel) ⟨Nat.le_of_ble_eq_true rfl, Nat.le_of_ble_eq_true rfl⟩, (hw _ tw_247), (hw _ tw_248)⟩ ⟨zz_blind, va_recv hKc hPc (ci := 8) (q0 := 0) rfl rfl, zz_pre hPc hKc hDc hN⟩ rfl rfl hl.1 rfl (lv_room (Nat.le_of_ble_eq_true rfl)) dX8_houseOf_155 ⟨Nat.le_of_ble_eq_true rfl, Nat.le_of_ble_eq_true rfl⟩) hS (fun q _ h => hFc q h) hFc (fun r_8 u_8 t H1 locs ht hvm e_8 hB hz1 hk1 hS => ?_)
        try dsimp only at e_8
        have hP := zz_keep hP hk1
        clear hk1 hB ht hvm
        generalize H1 = H at hP hS ⊢
        exact W.iret (v := r_8) hx hb hr (fun t ht hW => ⟨⟨r_8, (), rfl, trivial, trivial⟩, hS.F ht⟩) hS.2.2 dX8_houseOf_158
      by_cases c_9 : p1 = 4
      · have zc_9 := c_9
        rw [← Int32.toInt_inj] at zc_9
        try rw [show (4 : Int32).toInt = 4 from by decide] at zc_9
        refine lv_tableIn (tgt := 159) hx hb dX8_houseOf_68 (by rw [c_9]; decide) (by rw [c_9]; decide) (by rw [c_9]; rfl) (by decide) ?_
        refine lv_aload_n hx hb dX8_houseOf_159 rfl (lv_at hl 0 rfl) ?_
        refine lv_iload_n hx hb dX8_houseOf_160 rfl (lv_at hl 1 rfl) ?_
        have hPc := hP.sub (ws' := [(b 0, .inr (8, [.ref (b 1), .int (nI mt), .int (gg 2), .int (gg 3), .int (gg 4), .int (gg 5), .int (gg 6), .int (gg 7), .int (gg 8), .int (gg 9), .ref (b 11), .ref (b 12), .ref (b 13), .int (nI mc), .int (nI mh), .ref (b 16), .ref (b 17), .ref (b 18), .ref (b 19), .ref (b 20), .ref (b 21), .ref (b 22), .ref (b 23), .ref (b 24), .int (nI mf), .ref (b 26), .ref (b 27), .ref (b 28), .ref (b 29), .ref (b 30), .ref (b 31), .ref (b 32), .int (gg 32), .int (nI md), .ref (b 35), .ref (b 36), .ref (b 37), .ref (b 38), .ref (b 39), .ref (b 40), .int (gg 40), .ref (b 42), .ref (b 43), .ref (b 44), .int (gg 44), .ref (b 46), .ref (b 47), .int (gg 47), .ref (b 49)])), (b 35, .inl (cI, 300, .inl mo)), (b 36, .inl (cI, 300, .inl mr)), (b 37, .inl (cI, 300, .inl my)), (b 38, .inl (cI, 300, .inl mu))]) [0, 12, 13, 14, 15] rfl
        have hDc := hD.sub (ws' := [(b 0, .inr (8, [.ref (b 1), .int (nI mt), .int (gg 2), .int (gg 3), .int (gg 4), .int (gg 5), .int (gg 6), .int (gg 7), .int (gg 8), .int (gg 9), .ref (b 11), .ref (b 12), .ref (b 13), .int (nI mc), .int (nI mh), .ref (b 16), .ref (b 17), .ref (b 18), .ref (b 19), .ref (b 20), .ref (b 21), .ref (b 22), .ref (b 23), .ref (b 24), .int (nI mf), .ref (b 26), .ref (b 27), .ref (b 28), .ref (b 29), .ref (b 30), .ref (b 31), .ref (b 32), .int (gg 32), .int (nI md), .ref (b 35), .ref (b 36), .ref (b 37), .ref (b 38), .ref (b 39), .ref (b 40), .int (gg 40), .ref (b 42), .ref (b 43), .ref (b 44), .int (gg 44), .ref (b 46), .ref (b 47), .int (gg 47), .ref (b 49)])), (b 35, .inl (cI, 300, .inl mo)), (b 36, .inl (cI, 300, .inl mr)), (b 37, .inl (cI, 300, .inl my)), (b 38, .inl (cI, 300, .inl mu))]) [0, 12, 13, 14, 15] (by decide) rfl
        have hKc := hK.sub (tys' := [(cI, .int)]) [0] rfl
        have hFc := zz_free0 hS hA
        refine va_calli (va_runV (As := [.int p0]) (rest := []) ⟨hx, hb, hml, hown, hw⟩ (m_net l dC dI b gg mt mc mh mf md cI mo mr my mu p0 H.size (by omega)) ⟨callB_of 1 hw (zz_good tw_249) rfl rfl rfl (hw _ tw_184) (hw _ tw_250) (by decide +kernel) ⟨Nat.le_of_ble_eq_true rfl, Nat.le_of_ble_eq_true rfl⟩, (hw _ tw_251), (hw _ tw_252)⟩ ⟨zz_blind, va_recv hKc hPc (ci := 8) (q0 := 0) rfl rfl, zz_pre hPc hKc hDc hN⟩ rfl rfl hl.1 rfl (lv_room (Nat.le_of_ble_eq_true rfl)) dX8_houseOf_161 ⟨Nat.le_of_ble_eq_true rfl, Nat.le_of_ble_eq_true rfl⟩) hS (fun q _ h => hFc q h) hFc (fun r_10 u_10 t H1 locs ht hvm e_10 hB hz1 hk1 hS => ?_)
        try dsimp only at e_10
        have hP := zz_keep hP hk1
        clear hk1 hB ht hvm
        generalize H1 = H at hP hS ⊢
        exact W.iret (v := r_10) hx hb hr (fun t ht hW => ⟨⟨r_10, (), rfl, trivial, trivial⟩, hS.F ht⟩) hS.2.2 dX8_houseOf_164
      by_cases c_11 : p1 = 5
      · have zc_11 := c_11
        rw [← Int32.toInt_inj] at zc_11
        try rw [show (5 : Int32).toInt = 5 from by decide] at zc_11
        refine lv_tableIn (tgt := 165) hx hb dX8_houseOf_68 (by rw [c_11]; decide) (by rw [c_11]; decide) (by rw [c_11]; rfl) (by decide) ?_
        refine lv_aload_n hx hb dX8_houseOf_165 rfl (lv_at hl 0 rfl) ?_
        refine va_get (D := (dC, dI)) (ci := 8) (v := .ref (b 20)) (C := RX8) (T := TX8) (N := 49) hx hb hw zz_inX8 hown hK hP 0 rfl rfl 19 (by decide) (hw _ tw_253) (fun _ h9 => h9) rfl dX8_houseOf_166 ?_
        refine lv_iload_n hx hb dX8_houseOf_169 rfl (lv_at hl 1 rfl) ?_
        refine va_iald hx hb hK hP 5 0 rfl rfl (vp_in_iff.mpr (by constructor <;> omega)) dX8_houseOf_170 ?_
        exact W.iret (v := (f1 (Int32.toNatClampNeg p0))) hx hb hr (fun t ht hW => ⟨⟨(f1 (Int32.toNatClampNeg p0)), (), rfl, trivial, trivial⟩, hS.F ht⟩) hS.2.2 dX8_houseOf_171
      by_cases c_12 : p1 = 6
      · have zc_12 := c_12
        rw [← Int32.toInt_inj] at zc_12
        try rw [show (6 : Int32).toInt = 6 from by decide] at zc_12
        refine lv_tableIn (tgt := 172) hx hb dX8_houseOf_68 (by rw [c_12]; decide) (by rw [c_12]; decide) (by rw [c_12]; rfl) (by decide) ?_
        refine lv_aload_n hx hb dX8_houseOf_172 rfl (lv_at hl 0 rfl) ?_
        refine va_get (D := (dC, dI)) (ci := 8) (v := .ref (b 21)) (C := RX8) (T := TX8) (N := 49) hx hb hw zz_inX8 hown hK hP 0 rfl rfl 20 (by decide) (hw _ tw_254) (fun _ h9 => h9) rfl dX8_houseOf_173 ?_
        refine lv_iload_n hx hb dX8_houseOf_176 rfl (lv_at hl 1 rfl) ?_
        refine va_iald hx hb hK hP 6 0 rfl rfl (vp_in_iff.mpr (by constructor <;> omega)) dX8_houseOf_177 ?_
        exact W.iret (v := (f2 (Int32.toNatClampNeg p0))) hx hb hr (fun t ht hW => ⟨⟨(f2 (Int32.toNatClampNeg p0)), (), rfl, trivial, trivial⟩, hS.F ht⟩) hS.2.2 dX8_houseOf_178
      by_cases c_13 : p1 = 7
      · have zc_13 := c_13
        rw [← Int32.toInt_inj] at zc_13
        try rw [show (7 : Int32).toInt = 7 from by decide] at zc_13
        refine lv_tableIn (tgt := 179) hx hb dX8_houseOf_68 (by rw [c_13]; decide) (by rw [c_13]; decide) (by rw [c_13]; rfl) (by decide) ?_
        refine lv_aload_n hx hb dX8_houseOf_179 rfl (lv_at hl 0 rfl) ?_
        refine va_get (D := (dC, dI)) (ci := 8) (v := .ref (b 22)) (C := RX8) (T := TX8) (N := 49) hx hb hw zz_inX8 hown hK hP 0 rfl rfl 21 (by decide) (hw _ tw_255) (fun _ h9 => h9) rfl dX8_houseOf_180 ?_
        refine lv_iload_n hx hb dX8_houseOf_183 rfl (lv_at hl 1 rfl) ?_
        refine va_iald hx hb hK hP 7 0 rfl rfl (vp_in_iff.mpr (by constructor <;> omega)) dX8_houseOf_184 ?_
        exact W.iret (v := (pd (Int32.toNatClampNeg p0))) hx hb hr (fun t ht hW => ⟨⟨(pd (Int32.toNatClampNeg p0)), (), rfl, trivial, trivial⟩, hS.F ht⟩) hS.2.2 dX8_houseOf_185
      by_cases c_14 : p1 = 8
      · have zc_14 := c_14
        rw [← Int32.toInt_inj] at zc_14
        try rw [show (8 : Int32).toInt = 8 from by decide] at zc_14
        refine lv_tableIn (tgt := 186) hx hb dX8_houseOf_68 (by rw [c_14]; decide) (by rw [c_14]; decide) (by rw [c_14]; rfl) (by decide) ?_
        refine lv_aload_n hx hb dX8_houseOf_186 rfl (lv_at hl 0 rfl) ?_
        refine va_get (D := (dC, dI)) (ci := 8) (v := .ref (b 23)) (C := RX8) (T := TX8) (N := 49) hx hb hw zz_inX8 hown hK hP 0 rfl rfl 22 (by decide) (hw _ tw_256) (fun _ h9 => h9) rfl dX8_houseOf_187 ?_
        refine lv_iload_n hx hb dX8_houseOf_190 rfl (lv_at hl 1 rfl) ?_
        refine va_iald hx hb hK hP 8 0 rfl rfl (vp_in_iff.mpr (by constructor <;> omega)) dX8_houseOf_191 ?_
        exact W.iret (v := (la (Int32.toNatClampNeg p0))) hx hb hr (fun t ht hW => ⟨⟨(la (Int32.toNatClampNeg p0)), (), rfl, trivial, trivial⟩, hS.F ht⟩) hS.2.2 dX8_houseOf_192
      by_cases c_15 : p1 = 9
      · have zc_15 := c_15
        rw [← Int32.toInt_inj] at zc_15
        try rw [show (9 : Int32).toInt = 9 from by decide] at zc_15
        refine lv_tableIn (tgt := 193) hx hb dX8_houseOf_68 (by rw [c_15]; decide) (by rw [c_15]; decide) (by rw [c_15]; rfl) (by decide) ?_
        refine lv_iload_n hx hb dX8_houseOf_193 rfl (lv_at hl 3 rfl) ?_
        exact W.iret (v := y) hx hb hr (fun t ht hW => ⟨⟨y, (), rfl, trivial, trivial⟩, hS.F ht⟩) hS.2.2 dX8_houseOf_194
      refine lv_tableOut (tgt := 195) hx hb dX8_houseOf_68 (by have := zz_ne c_3; rw [show (0 : Int32).toInt = 0 from by decide] at this; have := zz_ne c_4; rw [show (1 : Int32).toInt = 1 from by decide] at this; have := zz_ne c_6; rw [show (2 : Int32).toInt = 2 from by decide] at this; have := zz_ne c_7; rw [show (3 : Int32).toInt = 3 from by decide] at this; have := zz_ne c_9; rw [show (4 : Int32).toInt = 4 from by decide] at this; have := zz_ne c_11; rw [show (5 : Int32).toInt = 5 from by decide] at this; have := zz_ne c_12; rw [show (6 : Int32).toInt = 6 from by decide] at this; have := zz_ne c_13; rw [show (7 : Int32).toInt = 7 from by decide] at this; have := zz_ne c_14; rw [show (8 : Int32).toInt = 8 from by decide] at this; have := zz_ne c_15; rw [show (9 : Int32).toInt = 9 from by decide] at this; omega) (by decide) ?_
      have zc_3 := c_3
      rw [← Int32.toInt_inj] at zc_3
      try rw [show (0 : Int32).toInt = 0 from by decide] at zc_3
      have zc_4 := c_4
      rw [← Int32.toInt_inj] at zc_4
      try rw [show (1 : Int32).toInt = 1 from by decide] at zc_4
      have zc_6 := c_6
      rw [← Int32.toInt_inj] at zc_6
      try rw [show (2 : Int32).toInt = 2 from by decide] at zc_6
      have zc_7 := c_7
      rw [← Int32.toInt_inj] at zc_7
      try rw [show (3 : Int32).toInt = 3 from by decide] at zc_7
      have zc_9 := c_9
      rw [← Int32.toInt_inj] at zc_9
      try rw [show (4 : Int32).toInt = 4 from by decide] at zc_9
      have zc_11 := c_11
      rw [← Int32.toInt_inj] at zc_11
      try rw [show (5 : Int32).toInt = 5 from by decide] at zc_11
      have zc_12 := c_12
      rw [← Int32.toInt_inj] at zc_12
      try rw [show (6 : Int32).toInt = 6 from by decide] at zc_12
      have zc_13 := c_13
      rw [← Int32.toInt_inj] at zc_13
      try rw [show (7 : Int32).toInt = 7 from by decide] at zc_13
      have zc_14 := c_14
      rw [← Int32.toInt_inj] at zc_14
      try rw [show (8 : Int32).toInt = 8 from by decide] at zc_14
      have zc_15 := c_15
      rw [← Int32.toInt_inj] at zc_15
      try rw [show (9 : Int32).toInt = 9 from by decide] at zc_15
      refine lv_ldcw (v := (-1000000)) hx hb hown (hw _ tw_257) dX8_houseOf_195 ?_
      exact W.iret (v := (-1000000)) hx hb hr (fun t ht hW => ⟨⟨(-1000000), (), rfl, trivial, trivial⟩, hS.F ht⟩) hS.2.2 dX8_houseOf_198
    · have zc_2 := c_2
      rw [Int32.le_iff_toInt_le] at zc_2
      try rw [zz_toInt j (by omega)] at zc_2
      try rw [zz_toInt mf (by omega)] at zc_2
      refine lv_iload_n hx hb dX8_houseOf_26 rfl (lv_at hl 3 rfl) ?_
      refine lv_aload_n hx hb dX8_houseOf_27 rfl (lv_at hl 0 rfl) ?_
      refine va_get (D := (dC, dI)) (ci := 8) (v := .ref (b 26)) (C := RX8) (T := TX8) (N := 49) hx hb hw zz_inX8 hown hK hP 0 rfl rfl 25 (by decide) (hw _ tw_240) (fun _ h9 => h9) rfl dX8_houseOf_28 ?_
      refine lv_iload hx hb dX8_houseOf_31 (lv_at hl 4 rfl) ?_
      refine va_iald hx hb hK hP 9 0 rfl rfl (vp_in_iff.mpr (by rw [zz_toInt j (by omega)]; constructor <;> omega)) dX8_houseOf_33 ?_
      refine lv_iload_n hx hb dX8_houseOf_34 rfl (lv_at hl 1 rfl) ?_
      refine lv_icmp_ne (tgt := 58) hx hb dX8_houseOf_35 (by decide) (fun c_16 => ?_) (fun c_16 => ?_)
      · have zc_16 := c_16
        rw [← Int32.toInt_inj] at zc_16
        refine lv_iconst (v := 0) hx hb dX8_houseOf_58 (by decide) ?_
        refine lv_iadd hx hb dX8_houseOf_59 ?_
        refine lv_istore_n (lv' := [(3, .int (y + 0)), (0, .ref (b 0)), (1, .int p0), (2, .int p1), (4, .int (nI j))]) hx hb dX8_houseOf_60 rfl hl (by decide) rfl (fun ls hl => ?_)
        refine lv_iinc (v := (nI (j + 1))) (lv' := [(4, .int (nI (j + 1))), (3, .int (y + 0)), (0, .ref (b 0)), (1, .int p0), (2, .int p1)]) hx hb dX8_houseOf_61 hl (k := 4) rfl (nI_1 _) (by decide) rfl (fun ls hl => ?_)
        refine lv_goto (tgt := 17) hx hb dX8_houseOf_64 (by decide) ?_
        exact ih_17 ((j + 1), (y + 0)) (show (j + 1) ≤ mf from by omega) (show mf - (j + 1) < mf - j from by omega) _ _ _ (hP.sub [0, 1, 2, 3, 4, 5, 6, 7, 8, 9, 10, 11, 12, 13, 14, 15] rfl) (hD.sub [0, 1, 2, 3, 4, 5, 6, 7, 8, 9, 10, 11, 12, 13, 14, 15] (by decide) rfl) hS (lv_sub hl [2, 3, 4, 1, 0] rfl)
      · have zc_16 := c_16
        rw [← Int32.toInt_inj] at zc_16
        refine lv_aload_n hx hb dX8_houseOf_38 rfl (lv_at hl 0 rfl) ?_
        refine va_get (D := (dC, dI)) (ci := 8) (v := .ref (b 31)) (C := RX8) (T := TX8) (N := 49) hx hb hw zz_inX8 hown hK hP 0 rfl rfl 30 (by decide) (hw _ tw_234) (fun _ h9 => h9) rfl dX8_houseOf_39 ?_
        refine lv_iload hx hb dX8_houseOf_42 (lv_at hl 4 rfl) ?_
        refine va_iald hx hb hK hP 10 0 rfl rfl (vp_in_iff.mpr (by rw [zz_toInt j (by omega)]; constructor <;> omega)) dX8_houseOf_44 ?_
        refine lv_if_lt (tgt := 58) hx hb dX8_houseOf_45 (by decide) (fun c_17 => ?_) (fun c_17 => ?_)
        · have zc_17 := c_17
          rw [Int32.lt_iff_toInt_lt] at zc_17
          try rw [show (0 : Int32).toInt = 0 from by decide] at zc_17
          refine lv_iconst (v := 0) hx hb dX8_houseOf_58 (by decide) ?_
          refine lv_iadd hx hb dX8_houseOf_59 ?_
          refine lv_istore_n (lv' := [(3, .int (y + 0)), (0, .ref (b 0)), (1, .int p0), (2, .int p1), (4, .int (nI j))]) hx hb dX8_houseOf_60 rfl hl (by decide) rfl (fun ls hl => ?_)
          refine lv_iinc (v := (nI (j + 1))) (lv' := [(4, .int (nI (j + 1))), (3, .int (y + 0)), (0, .ref (b 0)), (1, .int p0), (2, .int p1)]) hx hb dX8_houseOf_61 hl (k := 4) rfl (nI_1 _) (by decide) rfl (fun ls hl => ?_)
          refine lv_goto (tgt := 17) hx hb dX8_houseOf_64 (by decide) ?_
          exact ih_17 ((j + 1), (y + 0)) (show (j + 1) ≤ mf from by omega) (show mf - (j + 1) < mf - j from by omega) _ _ _ (hP.sub [0, 1, 2, 3, 4, 5, 6, 7, 8, 9, 10, 11, 12, 13, 14, 15] rfl) (hD.sub [0, 1, 2, 3, 4, 5, 6, 7, 8, 9, 10, 11, 12, 13, 14, 15] (by decide) rfl) hS (lv_sub hl [2, 3, 4, 1, 0] rfl)
        · have zc_17 := c_17
          rw [Int32.lt_iff_toInt_lt] at zc_17
          try rw [show (0 : Int32).toInt = 0 from by decide] at zc_17
          refine lv_aload_n hx hb dX8_houseOf_48 rfl (lv_at hl 0 rfl) ?_
          refine va_get (D := (dC, dI)) (ci := 8) (v := .ref (b 32)) (C := RX8) (T := TX8) (N := 49) hx hb hw zz_inX8 hown hK hP 0 rfl rfl 31 (by decide) (hw _ tw_235) (fun _ h9 => h9) rfl dX8_houseOf_49 ?_
          refine lv_iload hx hb dX8_houseOf_52 (lv_at hl 4 rfl) ?_
          refine va_iald hx hb hK hP 11 0 rfl rfl (vp_in_iff.mpr (by rw [zz_toInt j (by omega)]; constructor <;> omega)) dX8_houseOf_54 ?_
          refine lv_goto (tgt := 59) hx hb dX8_houseOf_55 (by decide) ?_
          refine lv_iadd hx hb dX8_houseOf_59 ?_
          refine lv_istore_n (lv' := [(3, .int (y + (gt (Int32.toNatClampNeg (nI j))))), (0, .ref (b 0)), (1, .int p0), (2, .int p1), (4, .int (nI j))]) hx hb dX8_houseOf_60 rfl hl (by decide) rfl (fun ls hl => ?_)
          refine lv_iinc (v := (nI (j + 1))) (lv' := [(4, .int (nI (j + 1))), (3, .int (y + (gt (Int32.toNatClampNeg (nI j))))), (0, .ref (b 0)), (1, .int p0), (2, .int p1)]) hx hb dX8_houseOf_61 hl (k := 4) rfl (nI_1 _) (by decide) rfl (fun ls hl => ?_)
          refine lv_goto (tgt := 17) hx hb dX8_houseOf_64 (by decide) ?_
          exact ih_17 ((j + 1), (y + (gt (Int32.toNatClampNeg (nI j))))) (show (j + 1) ≤ mf from by omega) (show mf - (j + 1) < mf - j from by omega) _ _ _ (hP.sub [0, 1, 2, 3, 4, 5, 6, 7, 8, 9, 10, 11, 12, 13, 14, 15] rfl) (hD.sub [0, 1, 2, 3, 4, 5, 6, 7, 8, 9, 10, 11, 12, 13, 14, 15] (by decide) rfl) hS (lv_sub hl [2, 3, 4, 1, 0] rfl)
  · refine zz_seti 0 er_1 ?_
    refine lv_if_ne (tgt := 12) hx hb dX8_houseOf_5 (by decide) (fun c_9 => absurd c_9 (by decide)) (fun _ => ?_)
    refine lv_ldcw (v := (-1000000)) hx hb hown (hw _ tw_257) dX8_houseOf_8 ?_
    exact W.iret (v := (-1000000)) hx hb hr (fun t ht hW => ⟨⟨(-1000000), (), rfl, trivial, trivial⟩, hS.F ht⟩) hS.2.2 dX8_houseOf_11

set_option maxHeartbeats 4000000 in
set_option maxRecDepth 100000 in
theorem m_lowest (l : Launch) (dC : Nat → ClassId) (dI : Nat → Nat → Nat) (p0 : Int32) (sz : Nat) : Met l yX8_lowest (zz_w yX8_lowest cX8_lowest 1 (some .int)) ({ frames := 0, cells := 0, slots := 0, locals := 0 }) (va_Pc [.int p0] (zz_B (dC, dI) sz [] [])) (va_Qi (fun (r : Int32) (_ : Unit) => 0 ≤ r.toInt) (fun _ _ => True) (va_A [] sz)) 0 0 (va_A [] sz) := by
  refine Met.ofW (cc := cX8_lowest) (maxL := 1) (ret := (some .int)) (by decide) rfl ?_
  intro p e s m args below meth c s₁ B hml hv
  obtain ⟨rfl, hsz, hP, hK, hD0, hN⟩ := hv
  have hx := B.exec
  have hb := B.bytes
  have hr := B.returns
  have hts := atoms_spec (ws := zz_w yX8_lowest cX8_lowest 1 (some .int)) B.pre
  have hw : ∀ w ∈ zz_all, w.before _ s = true := fun w h => hts w (List.mem_cons_of_mem _ h)
  have hown : s.vm.findClass RX8 = some m.cls := findClass_of_methodNamed B.named
  have hlocks := B.notSynchronized
  subst hsz
  have hD := hD0
  generalize hAe : va_A [] s.heap.size = A
  have hA : ∀ q : Nat, s.heap.size ≤ q → A q := fun q h => by rw [← hAe]; exact Or.inr h
  have hS : va_S A s.heap s.heap [] := va_S.rf
  have hP : va_P (dC, dI) vwCl [] s.heap := hP
  have hl := lv_entry ([.int p0]) (n := 1) (Nat.le_of_ble_eq_true rfl)
  rw [lg_entry_eq]
  generalize (lg_sl ([.int p0]) ++ List.replicate (1 - (lg_sl ([.int p0])).length) Slot.unset).toArray = ls at hl ⊢
  have hl : lv_has ls 1 [(0, .int p0)] := hl
  refine lv_iload_n hx hb dX8_lowest_0 rfl (lv_at hl 0 rfl) ?_
  refine lv_iconst (v := 3) hx hb dX8_lowest_1 (by decide) ?_
  refine lv_icmp_ne (tgt := 9) hx hb dX8_lowest_2 (by decide) (fun c_1 => ?_) (fun c_1 => ?_)
  · have zc_1 := c_1
    rw [← Int32.toInt_inj] at zc_1
    try rw [show (3 : Int32).toInt = 3 from by decide] at zc_1
    refine lv_iconst (v := 0) hx hb dX8_lowest_9 (by decide) ?_
    exact W.iret (v := 0) hx hb hr (fun t ht hW => ⟨⟨0, (), rfl, (by show (0 : Int) ≤ (0 : Int32).toInt; decide), trivial⟩, hS.F ht⟩) hS.2.2 dX8_lowest_10
  · have zc_1 := c_1
    rw [← Int32.toInt_inj] at zc_1
    try rw [show (3 : Int32).toInt = 3 from by decide] at zc_1
    refine lv_iconst (v := 1) hx hb dX8_lowest_5 (by decide) ?_
    refine lv_goto (tgt := 10) hx hb dX8_lowest_6 (by decide) ?_
    exact W.iret (v := 1) hx hb hr (fun t ht hW => ⟨⟨1, (), rfl, (by show (0 : Int) ≤ (1 : Int32).toInt; decide), trivial⟩, hS.F ht⟩) hS.2.2 dX8_lowest_10

set_option maxHeartbeats 4000000 in
set_option maxRecDepth 100000 in
theorem m_highest (l : Launch) (dC : Nat → ClassId) (dI : Nat → Nat → Nat) (p0 : Int32) (sz : Nat) : Met l yX8_highest (zz_w yX8_highest cX8_highest 1 (some .int)) ({ frames := 0, cells := 0, slots := 0, locals := 0 }) (va_Pc [.int p0] (zz_B (dC, dI) sz [] [])) (va_Qi (fun (r : Int32) (_ : Unit) => p0.toInt < 3 → r.toInt ≤ 99) (fun _ _ => True) (va_A [] sz)) 0 0 (va_A [] sz) := by
  refine Met.ofW (cc := cX8_highest) (maxL := 1) (ret := (some .int)) (by decide) rfl ?_
  intro p e s m args below meth c s₁ B hml hv
  obtain ⟨rfl, hsz, hP, hK, hD0, hN⟩ := hv
  have hx := B.exec
  have hb := B.bytes
  have hr := B.returns
  have hts := atoms_spec (ws := zz_w yX8_highest cX8_highest 1 (some .int)) B.pre
  have hw : ∀ w ∈ zz_all, w.before _ s = true := fun w h => hts w (List.mem_cons_of_mem _ h)
  have hown : s.vm.findClass RX8 = some m.cls := findClass_of_methodNamed B.named
  have hlocks := B.notSynchronized
  subst hsz
  have hD := hD0
  generalize hAe : va_A [] s.heap.size = A
  have hA : ∀ q : Nat, s.heap.size ≤ q → A q := fun q h => by rw [← hAe]; exact Or.inr h
  have hS : va_S A s.heap s.heap [] := va_S.rf
  have hP : va_P (dC, dI) vwCl [] s.heap := hP
  have hl := lv_entry ([.int p0]) (n := 1) (Nat.le_of_ble_eq_true rfl)
  rw [lg_entry_eq]
  generalize (lg_sl ([.int p0]) ++ List.replicate (1 - (lg_sl ([.int p0])).length) Slot.unset).toArray = ls at hl ⊢
  have hl : lv_has ls 1 [(0, .int p0)] := hl
  refine lv_iload_n hx hb dX8_highest_0 rfl (lv_at hl 0 rfl) ?_
  refine lv_iconst (v := 3) hx hb dX8_highest_1 (by decide) ?_
  refine lv_icmp_lt (tgt := 10) hx hb dX8_highest_2 (by decide) (fun c_1 => ?_) (fun c_1 => ?_)
  · have zc_1 := c_1
    rw [Int32.lt_iff_toInt_lt] at zc_1
    try rw [show (3 : Int32).toInt = 3 from by decide] at zc_1
    refine lv_bipush (v := 99) hx hb dX8_highest_10 (by decide) ?_
    refine lv_goto (tgt := 30) hx hb dX8_highest_12 (by decide) ?_
    exact W.iret (v := 99) hx hb hr (fun t ht hW => ⟨⟨99, (), rfl, (fun h9 => by first | (show (99 : Int32).toInt ≤ (99 : Int); decide) | (exfalso; omega)), trivial⟩, hS.F ht⟩) hS.2.2 dX8_highest_30
  · have zc_1 := c_1
    rw [Int32.lt_iff_toInt_lt] at zc_1
    try rw [show (3 : Int32).toInt = 3 from by decide] at zc_1
    refine lv_iload_n hx hb dX8_highest_5 rfl (lv_at hl 0 rfl) ?_
    refine lv_iconst (v := 5) hx hb dX8_highest_6 (by decide) ?_
    refine lv_icmp_ne (tgt := 15) hx hb dX8_highest_7 (by decide) (fun c_2 => ?_) (fun c_2 => ?_)
    · have zc_2 := c_2
      rw [← Int32.toInt_inj] at zc_2
      try rw [show (5 : Int32).toInt = 5 from by decide] at zc_2
      refine lv_iload_n hx hb dX8_highest_15 rfl (lv_at hl 0 rfl) ?_
      refine lv_bipush (v := 6) hx hb dX8_highest_16 (by decide) ?_
      refine lv_icmp_ne (tgt := 27) hx hb dX8_highest_18 (by decide) (fun c_3 => ?_) (fun c_3 => ?_)
      · have zc_3 := c_3
        rw [← Int32.toInt_inj] at zc_3
        try rw [show (6 : Int32).toInt = 6 from by decide] at zc_3
        refine lv_sipush (v := 400) hx hb dX8_highest_27 (by decide) ?_
        exact W.iret (v := 400) hx hb hr (fun t ht hW => ⟨⟨400, (), rfl, (fun h9 => by first | (show (400 : Int32).toInt ≤ (99 : Int); decide) | (exfalso; omega)), trivial⟩, hS.F ht⟩) hS.2.2 dX8_highest_30
      · have zc_3 := c_3
        rw [← Int32.toInt_inj] at zc_3
        try rw [show (6 : Int32).toInt = 6 from by decide] at zc_3
        refine lv_sipush (v := 999) hx hb dX8_highest_21 (by decide) ?_
        refine lv_goto (tgt := 30) hx hb dX8_highest_24 (by decide) ?_
        exact W.iret (v := 999) hx hb hr (fun t ht hW => ⟨⟨999, (), rfl, (fun h9 => by first | (show (999 : Int32).toInt ≤ (99 : Int); decide) | (exfalso; omega)), trivial⟩, hS.F ht⟩) hS.2.2 dX8_highest_30
    · have zc_2 := c_2
      rw [← Int32.toInt_inj] at zc_2
      try rw [show (5 : Int32).toInt = 5 from by decide] at zc_2
      refine lv_bipush (v := 99) hx hb dX8_highest_10 (by decide) ?_
      refine lv_goto (tgt := 30) hx hb dX8_highest_12 (by decide) ?_
      exact W.iret (v := 99) hx hb hr (fun t ht hW => ⟨⟨99, (), rfl, (fun h9 => by first | (show (99 : Int32).toInt ≤ (99 : Int); decide) | (exfalso; omega)), trivial⟩, hS.F ht⟩) hS.2.2 dX8_highest_30
