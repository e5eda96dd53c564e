theorem tw_289 : Cond.constantLong RX8 156 816978868 ∈ zz_all := zz_m4 130 rfl rfl
theorem tw_290 : Cond.constantLong RX8 158 13260912 ∈ zz_all := zz_m4 131 rfl rfl
theorem tw_291 : Cond.constantLong RX8 160 596061369 ∈ zz_all := zz_m4 132 rfl rfl
theorem tw_292 : Cond.constantLong RX8 162 747048165 ∈ zz_all := zz_m4 133 rfl rfl
theorem tw_293 : Cond.constantLong RX8 164 667556069 ∈ zz_all := zz_m4 134 rfl rfl
theorem tw_294 : Cond.constantLong RX8 166 10157028 ∈ zz_all := zz_m4 135 rfl rfl
theorem tw_295 : Cond.constantLong RX8 168 14555621 ∈ zz_all := zz_m4 136 rfl rfl
theorem tw_296 : Cond.fieldLink RX8 170 "HandsReturnedModel" "at" "I" ∈ zz_all := zz_m3 167 rfl rfl
theorem tw_297 : Cond.code yX8_isLetter cX8_isLetter 1 (some .boolean) ∈ zz_all := zz_m4 121 rfl rfl
theorem tw_298 : Cond.methodLink RX8 179 yX8_isLetter ∈ zz_all := zz_m4 119 rfl rfl
theorem tw_299 : Cond.static yX8_isLetter ∈ zz_all := zz_m4 120 rfl rfl
theorem tw_300 : Cond.constantLong RX8 191 48 ∈ zz_all := zz_m4 137 rfl rfl
theorem tw_301 : Cond.constantLong RX8 193 57 ∈ zz_all := zz_m4 138 rfl rfl
theorem tw_302 : Cond.fieldLink RX8 176 "HandsReturnedModel" "sort" "I" ∈ zz_all := zz_m3 169 rfl rfl
theorem tw_303 : Cond.fieldLink RX8 188 "HandsReturnedModel" "told" "I" ∈ zz_all := zz_m3 170 rfl rfl
theorem tw_304 : Cond.constant RX8 195 99999 ∈ zz_all := zz_m4 139 rfl rfl
theorem tw_305 : Cond.code yX8_wordOf cX8_wordOf 2 (some .int) ∈ zz_all := zz_m4 129 rfl rfl
theorem tw_306 : Cond.methodLink RX8 184 yX8_wordOf ∈ zz_all := zz_m4 127 rfl rfl
theorem tw_307 : Cond.static yX8_wordOf ∈ zz_all := zz_m4 128 rfl rfl
theorem tw_308 : Cond.constantLong RX8 182 64 ∈ zz_all := zz_m4 126 rfl rfl
theorem dX8_wordOf_0 : decode cX8_wordOf 0 = .ok (.lload_n 0, 1) := by decide +kernel
theorem dX8_wordOf_1 : decode cX8_wordOf 1 = .ok (.ldc2_w 156, 3) := by decide +kernel
theorem dX8_wordOf_4 : decode cX8_wordOf 4 = .ok (.lcmp, 1) := by decide +kernel
theorem dX8_wordOf_5 : decode cX8_wordOf 5 = .ok (.ifCond .ne 5, 3) := by decide +kernel
theorem dX8_wordOf_8 : decode cX8_wordOf 8 = .ok (.iconst 0, 1) := by decide +kernel
theorem dX8_wordOf_9 : decode cX8_wordOf 9 = .ok (.ireturn, 1) := by decide +kernel
theorem dX8_wordOf_10 : decode cX8_wordOf 10 = .ok (.lload_n 0, 1) := by decide +kernel
theorem dX8_wordOf_11 : decode cX8_wordOf 11 = .ok (.ldc2_w 158, 3) := by decide +kernel
theorem dX8_wordOf_14 : decode cX8_wordOf 14 = .ok (.lcmp, 1) := by decide +kernel
theorem dX8_wordOf_15 : decode cX8_wordOf 15 = .ok (.ifCond .ne 5, 3) := by decide +kernel
theorem dX8_wordOf_18 : decode cX8_wordOf 18 = .ok (.iconst 1, 1) := by decide +kernel
theorem dX8_wordOf_19 : decode cX8_wordOf 19 = .ok (.ireturn, 1) := by decide +kernel
theorem dX8_wordOf_20 : decode cX8_wordOf 20 = .ok (.lload_n 0, 1) := by decide +kernel
theorem dX8_wordOf_21 : decode cX8_wordOf 21 = .ok (.ldc2_w 160, 3) := by decide +kernel
theorem dX8_wordOf_24 : decode cX8_wordOf 24 = .ok (.lcmp, 1) := by decide +kernel
theorem dX8_wordOf_25 : decode cX8_wordOf 25 = .ok (.ifCond .ne 5, 3) := by decide +kernel
theorem dX8_wordOf_28 : decode cX8_wordOf 28 = .ok (.iconst 2, 1) := by decide +kernel
theorem dX8_wordOf_29 : decode cX8_wordOf 29 = .ok (.ireturn, 1) := by decide +kernel
theorem dX8_wordOf_30 : decode cX8_wordOf 30 = .ok (.lload_n 0, 1) := by decide +kernel
theorem dX8_wordOf_31 : decode cX8_wordOf 31 = .ok (.ldc2_w 162, 3) := by decide +kernel
theorem dX8_wordOf_34 : decode cX8_wordOf 34 = .ok (.lcmp, 1) := by decide +kernel
theorem dX8_wordOf_35 : decode cX8_wordOf 35 = .ok (.ifCond .ne 5, 3) := by decide +kernel
theorem dX8_wordOf_38 : decode cX8_wordOf 38 = .ok (.iconst 3, 1) := by decide +kernel
theorem dX8_wordOf_39 : decode cX8_wordOf 39 = .ok (.ireturn, 1) := by decide +kernel
theorem dX8_wordOf_40 : decode cX8_wordOf 40 = .ok (.lload_n 0, 1) := by decide +kernel
theorem dX8_wordOf_41 : decode cX8_wordOf 41 = .ok (.ldc2_w 164, 3) := by decide +kernel
theorem dX8_wordOf_44 : decode cX8_wordOf 44 = .ok (.lcmp, 1) := by decide +kernel
theorem dX8_wordOf_45 : decode cX8_wordOf 45 = .ok (.ifCond .ne 5, 3) := by decide +kernel
theorem dX8_wordOf_48 : decode cX8_wordOf 48 = .ok (.iconst 4, 1) := by decide +kernel
theorem dX8_wordOf_49 : decode cX8_wordOf 49 = .ok (.ireturn, 1) := by decide +kernel
theorem dX8_wordOf_50 : decode cX8_wordOf 50 = .ok (.lload_n 0, 1) := by decide +kernel
theorem dX8_wordOf_51 : decode cX8_wordOf 51 = .ok (.ldc2_w 166, 3) := by decide +kernel
theorem dX8_wordOf_54 : decode cX8_wordOf 54 = .ok (.lcmp, 1) := by decide +kernel
theorem dX8_wordOf_55 : decode cX8_wordOf 55 = .ok (.ifCond .ne 5, 3) := by decide +kernel
theorem dX8_wordOf_58 : decode cX8_wordOf 58 = .ok (.iconst 5, 1) := by decide +kernel
theorem dX8_wordOf_59 : decode cX8_wordOf 59 = .ok (.ireturn, 1) := by decide +kernel
theorem dX8_wordOf_60 : decode cX8_wordOf 60 = .ok (.lload_n 0, 1) := by decide +kernel
theorem dX8_wordOf_61 : decode cX8_wordOf 61 = .ok (.ldc2_w 168, 3) := by decide +kernel
theorem dX8_wordOf_64 : decode cX8_wordOf 64 = .ok (.lcmp, 1) := by decide +kernel
theorem dX8_wordOf_65 : decode cX8_wordOf 65 = .ok (.ifCond .ne 6, 3) := by decide +kernel
theorem dX8_wordOf_68 : decode cX8_wordOf 68 = .ok (.bipush 6, 2) := by decide +kernel
theorem dX8_wordOf_70 : decode cX8_wordOf 70 = .ok (.ireturn, 1) := by decide +kernel
theorem dX8_wordOf_71 : decode cX8_wordOf 71 = .ok (.iconst (-1), 1) := by decide +kernel
theorem dX8_wordOf_72 : decode cX8_wordOf 72 = .ok (.ireturn, 1) := by decide +kernel
theorem dX8_next_0 : decode cX8_next 0 = .ok (.aload_n 0, 1) := by decide +kernel
theorem dX8_next_1 : decode cX8_next 1 = .ok (.getfield 170, 3) := by decide +kernel
theorem dX8_next_4 : decode cX8_next 4 = .ok (.iload_n 1, 1) := by decide +kernel
theorem dX8_next_5 : decode cX8_next 5 = .ok (.if_icmp .ge 30, 3) := by decide +kernel
theorem dX8_next_8 : decode cX8_next 8 = .ok (.aload_n 0, 1) := by decide +kernel
theorem dX8_next_9 : decode cX8_next 9 = .ok (.getfield 7, 3) := by decide +kernel
theorem dX8_next_12 : decode cX8_next 12 = .ok (.aload_n 0, 1) := by decide +kernel
theorem dX8_next_13 : decode cX8_next 13 = .ok (.getfield 170, 3) := by decide +kernel
theorem dX8_next_16 : decode cX8_next 16 = .ok (.baload, 1) := by decide +kernel
theorem dX8_next_17 : decode cX8_next 17 = .ok (.bipush 32, 2) := by decide +kernel
theorem dX8_next_19 : decode cX8_next 19 = .ok (.if_icmp .ne 16, 3) := by decide +kernel
theorem dX8_next_22 : decode cX8_next 22 = .ok (.aload_n 0, 1) := by decide +kernel
theorem dX8_next_23 : decode cX8_next 23 = .ok (.dup, 1) := by decide +kernel
theorem dX8_next_24 : decode cX8_next 24 = .ok (.getfield 170, 3) := by decide +kernel
theorem dX8_next_27 : decode cX8_next 27 = .ok (.iconst 1, 1) := by decide +kernel
theorem dX8_next_28 : decode cX8_next 28 = .ok (.iadd, 1) := by decide +kernel
theorem dX8_next_29 : decode cX8_next 29 = .ok (.putfield 170, 3) := by decide +kernel
theorem dX8_next_32 : decode cX8_next 32 = .ok (.goto (-32), 3) := by decide +kernel
theorem dX8_next_35 : decode cX8_next 35 = .ok (.aload_n 0, 1) := by decide +kernel
theorem dX8_next_36 : decode cX8_next 36 = .ok (.aload_n 0, 1) := by decide +kernel
theorem dX8_next_37 : decode cX8_next 37 = .ok (.getfield 170, 3) := by decide +kernel
theorem dX8_next_40 : decode cX8_next 40 = .ok (.putfield 173, 3) := by decide +kernel
theorem dX8_next_43 : decode cX8_next 43 = .ok (.aload_n 0, 1) := by decide +kernel
theorem dX8_next_44 : decode cX8_next 44 = .ok (.getfield 170, 3) := by decide +kernel
theorem dX8_next_47 : decode cX8_next 47 = .ok (.iload_n 1, 1) := by decide +kernel
theorem dX8_next_48 : decode cX8_next 48 = .ok (.if_icmp .ne 9, 3) := by decide +kernel
theorem dX8_next_51 : decode cX8_next 51 = .ok (.aload_n 0, 1) := by decide +kernel
theorem dX8_next_52 : decode cX8_next 52 = .ok (.iconst 0, 1) := by decide +kernel
theorem dX8_next_53 : decode cX8_next 53 = .ok (.putfield 176, 3) := by decide +kernel
theorem dX8_next_56 : decode cX8_next 56 = .ok (.return_, 1) := by decide +kernel
theorem dX8_next_57 : decode cX8_next 57 = .ok (.aload_n 0, 1) := by decide +kernel
theorem dX8_next_58 : decode cX8_next 58 = .ok (.getfield 7, 3) := by decide +kernel
theorem dX8_next_61 : decode cX8_next 61 = .ok (.aload_n 0, 1) := by decide +kernel
theorem dX8_next_62 : decode cX8_next 62 = .ok (.getfield 170, 3) := by decide +kernel
theorem dX8_next_65 : decode cX8_next 65 = .ok (.baload, 1) := by decide +kernel
theorem dX8_next_66 : decode cX8_next 66 = .ok (.istore_n 2, 1) := by decide +kernel
theorem dX8_next_67 : decode cX8_next 67 = .ok (.iload_n 2, 1) := by decide +kernel
theorem dX8_next_68 : decode cX8_next 68 = .ok (.invokestatic 179, 3) := by decide +kernel
theorem dX8_next_71 : decode cX8_next 71 = .ok (.ifCond .eq 116, 3) := by decide +kernel
theorem dX8_next_74 : decode cX8_next 74 = .ok (.lconst 0, 1) := by decide +kernel
theorem dX8_next_75 : decode cX8_next 75 = .ok (.lstore_n 3, 1) := by decide +kernel
theorem dX8_next_76 : decode cX8_next 76 = .ok (.iconst 0, 1) := by decide +kernel
theorem dX8_next_77 : decode cX8_next 77 = .ok (.istore 5, 2) := by decide +kernel
theorem dX8_next_79 : decode cX8_next 79 = .ok (.aload_n 0, 1) := by decide +kernel
theorem dX8_next_80 : decode cX8_next 80 = .ok (.getfield 170, 3) := by decide +kernel
theorem dX8_next_83 : decode cX8_next 83 = .ok (.iload_n 1, 1) := by decide +kernel
theorem dX8_next_84 : decode cX8_next 84 = .ok (.if_icmp .ge 66, 3) := by decide +kernel
theorem dX8_next_87 : decode cX8_next 87 = .ok (.aload_n 0, 1) := by decide +kernel
theorem dX8_next_88 : decode cX8_next 88 = .ok (.getfield 7, 3) := by decide +kernel
theorem dX8_next_91 : decode cX8_next 91 = .ok (.aload_n 0, 1) := by decide +kernel
theorem dX8_next_92 : decode cX8_next 92 = .ok (.getfield 170, 3) := by decide +kernel
theorem dX8_next_95 : decode cX8_next 95 = .ok (.baload, 1) := by decide +kernel
theorem dX8_next_96 : decode cX8_next 96 = .ok (.invokestatic 179, 3) := by decide +kernel
theorem dX8_next_99 : decode cX8_next 99 = .ok (.ifCond .eq 51, 3) := by decide +kernel
theorem dX8_next_102 : decode cX8_next 102 = .ok (.iload 5, 2) := by decide +kernel
theorem dX8_next_104 : decode cX8_next 104 = .ok (.bipush 8, 2) := by decide +kernel
theorem dX8_next_106 : decode cX8_next 106 = .ok (.if_icmp .ge 26, 3) := by decide +kernel
theorem dX8_next_109 : decode cX8_next 109 = .ok (.ldc2_w 182, 3) := by decide +kernel
theorem dX8_next_112 : decode cX8_next 112 = .ok (.lload_n 3, 1) := by decide +kernel
theorem dX8_next_113 : decode cX8_next 113 = .ok (.lmul, 1) := by decide +kernel
theorem dX8_next_114 : decode cX8_next 114 = .ok (.aload_n 0, 1) := by decide +kernel
theorem dX8_next_115 : decode cX8_next 115 = .ok (.getfield 7, 3) := by decide +kernel
theorem dX8_next_118 : decode cX8_next 118 = .ok (.aload_n 0, 1) := by decide +kernel
theorem dX8_next_119 : decode cX8_next 119 = .ok (.getfield 170, 3) := by decide +kernel
theorem dX8_next_122 : decode cX8_next 122 = .ok (.baload, 1) := by decide +kernel
theorem dX8_next_123 : decode cX8_next 123 = .ok (.i2l, 1) := by decide +kernel
theorem dX8_next_124 : decode cX8_next 124 = .ok (.ladd, 1) := by decide +kernel
theorem dX8_next_125 : decode cX8_next 125 = .ok (.ldc2_w 182, 3) := by decide +kernel
theorem dX8_next_128 : decode cX8_next 128 = .ok (.lsub, 1) := by decide +kernel
theorem dX8_next_129 : decode cX8_next 129 = .ok (.goto 4, 3) := by decide +kernel
theorem dX8_next_132 : decode cX8_next 132 = .ok (.lload_n 3, 1) := by decide +kernel
theorem dX8_next_133 : decode cX8_next 133 = .ok (.lstore_n 3, 1) := by decide +kernel
theorem dX8_next_134 : decode cX8_next 134 = .ok (.iinc 5 1, 3) := by decide +kernel
theorem dX8_next_137 : decode cX8_next 137 = .ok (.aload_n 0, 1) := by decide +kernel
theorem dX8_next_138 : decode cX8_next 138 = .ok (.dup, 1) := by decide +kernel
theorem dX8_next_139 : decode cX8_next 139 = .ok (.getfield 170, 3) := by decide +kernel
theorem dX8_next_142 : decode cX8_next 142 = .ok (.iconst 1, 1) := by decide +kernel
theorem dX8_next_143 : decode cX8_next 143 = .ok (.iadd, 1) := by decide +kernel
theorem dX8_next_144 : decode cX8_next 144 = .ok (.putfield 170, 3) := by decide +kernel
theorem dX8_next_147 : decode cX8_next 147 = .ok (.goto (-68), 3) := by decide +kernel
theorem dX8_next_150 : decode cX8_next 150 = .ok (.aload_n 0, 1) := by decide +kernel
theorem dX8_next_151 : decode cX8_next 151 = .ok (.iload 5, 2) := by decide +kernel
theorem dX8_next_153 : decode cX8_next 153 = .ok (.iconst 5, 1) := by decide +kernel
theorem dX8_next_154 : decode cX8_next 154 = .ok (.if_icmp .le 7, 3) := by decide +kernel
theorem dX8_next_157 : decode cX8_next 157 = .ok (.iconst (-1), 1) := by decide +kernel
theorem dX8_next_158 : decode cX8_next 158 = .ok (.goto 7, 3) := by decide +kernel
theorem dX8_next_161 : decode cX8_next 161 = .ok (.lload_n 3, 1) := by decide +kernel
theorem dX8_next_162 : decode cX8_next 162 = .ok (.invokestatic 184, 3) := by decide +kernel
theorem dX8_next_165 : decode cX8_next 165 = .ok (.putfield 188, 3) := by decide +kernel
theorem dX8_next_168 : decode cX8_next 168 = .ok (.aload_n 0, 1) := by decide +kernel
theorem dX8_next_169 : decode cX8_next 169 = .ok (.aload_n 0, 1) := by decide +kernel
theorem dX8_next_170 : decode cX8_next 170 = .ok (.getfield 188, 3) := by decide +kernel
theorem dX8_next_173 : decode cX8_next 173 = .ok (.ifCond .ge 7, 3) := by decide +kernel
theorem dX8_next_176 : decode cX8_next 176 = .ok (.iconst 4, 1) := by decide +kernel
theorem dX8_next_177 : decode cX8_next 177 = .ok (.goto 4, 3) := by decide +kernel
theorem dX8_next_180 : decode cX8_next 180 = .ok (.iconst 1, 1) := by decide +kernel
theorem dX8_next_181 : decode cX8_next 181 = .ok (.putfield 176, 3) := by decide +kernel
theorem dX8_next_184 : decode cX8_next 184 = .ok (.goto 135, 3) := by decide +kernel
theorem dX8_next_187 : decode cX8_next 187 = .ok (.iload_n 2, 1) := by decide +kernel
theorem dX8_next_188 : decode cX8_next 188 = .ok (.i2l, 1) := by decide +kernel
theorem dX8_next_189 : decode cX8_next 189 = .ok (.ldc2_w 191, 3) := by decide +kernel
theorem dX8_next_192 : decode cX8_next 192 = .ok (.ldc2_w 193, 3) := by decide +kernel
theorem dX8_next_195 : decode cX8_next 195 = .ok (.invokestatic 118, 3) := by decide +kernel
theorem dX8_next_198 : decode cX8_next 198 = .ok (.ifCond .eq 96, 3) := by decide +kernel
theorem dX8_next_201 : decode cX8_next 201 = .ok (.aload_n 0, 1) := by decide +kernel
theorem dX8_next_202 : decode cX8_next 202 = .ok (.iconst 2, 1) := by decide +kernel
theorem dX8_next_203 : decode cX8_next 203 = .ok (.putfield 176, 3) := by decide +kernel
theorem dX8_next_206 : decode cX8_next 206 = .ok (.aload_n 0, 1) := by decide +kernel
theorem dX8_next_207 : decode cX8_next 207 = .ok (.iconst 0, 1) := by decide +kernel
theorem dX8_next_208 : decode cX8_next 208 = .ok (.putfield 188, 3) := by decide +kernel
theorem dX8_next_211 : decode cX8_next 211 = .ok (.aload_n 0, 1) := by decide +kernel
theorem dX8_next_212 : decode cX8_next 212 = .ok (.getfield 170, 3) := by decide +kernel
theorem dX8_next_215 : decode cX8_next 215 = .ok (.iload_n 1, 1) := by decide +kernel
theorem dX8_next_216 : decode cX8_next 216 = .ok (.if_icmp .ge 103, 3) := by decide +kernel
theorem dX8_next_219 : decode cX8_next 219 = .ok (.aload_n 0, 1) := by decide +kernel
theorem dX8_next_220 : decode cX8_next 220 = .ok (.getfield 7, 3) := by decide +kernel
theorem dX8_next_223 : decode cX8_next 223 = .ok (.aload_n 0, 1) := by decide +kernel
theorem dX8_next_224 : decode cX8_next 224 = .ok (.getfield 170, 3) := by decide +kernel
theorem dX8_next_227 : decode cX8_next 227 = .ok (.baload, 1) := by decide +kernel
theorem dX8_next_228 : decode cX8_next 228 = .ok (.i2l, 1) := by decide +kernel
theorem dX8_next_229 : decode cX8_next 229 = .ok (.ldc2_w 191, 3) := by decide +kernel
theorem dX8_next_232 : decode cX8_next 232 = .ok (.ldc2_w 193, 3) := by decide +kernel
theorem dX8_next_235 : decode cX8_next 235 = .ok (.invokestatic 118, 3) := by decide +kernel
theorem dX8_next_238 : decode cX8_next 238 = .ok (.ifCond .eq 81, 3) := by decide +kernel
theorem dX8_next_241 : decode cX8_next 241 = .ok (.aload_n 0, 1) := by decide +kernel
theorem dX8_next_242 : decode cX8_next 242 = .ok (.aload_n 0, 1) := by decide +kernel
theorem dX8_next_243 : decode cX8_next 243 = .ok (.getfield 188, 3) := by decide +kernel
theorem dX8_next_246 : decode cX8_next 246 = .ok (.ldc 195, 2) := by decide +kernel
theorem dX8_next_248 : decode cX8_next 248 = .ok (.if_icmp .le 10, 3) := by decide +kernel
theorem dX8_next_251 : decode cX8_next 251 = .ok (.aload_n 0, 1) := by decide +kernel
theorem dX8_next_252 : decode cX8_next 252 = .ok (.getfield 188, 3) := by decide +kernel
theorem dX8_next_255 : decode cX8_next 255 = .ok (.goto 23, 3) := by decide +kernel
theorem dX8_next_258 : decode cX8_next 258 = .ok (.bipush 10, 2) := by decide +kernel
theorem dX8_next_260 : decode cX8_next 260 = .ok (.aload_n 0, 1) := by decide +kernel
theorem dX8_next_261 : decode cX8_next 261 = .ok (.getfield 188, 3) := by decide +kernel
theorem dX8_next_264 : decode cX8_next 264 = .ok (.imul, 1) := by decide +kernel
theorem dX8_next_265 : decode cX8_next 265 = .ok (.aload_n 0, 1) := by decide +kernel
theorem dX8_next_266 : decode cX8_next 266 = .ok (.getfield 7, 3) := by decide +kernel
theorem dX8_next_269 : decode cX8_next 269 = .ok (.aload_n 0, 1) := by decide +kernel
theorem dX8_next_270 : decode cX8_next 270 = .ok (.getfield 170, 3) := by decide +kernel
theorem dX8_next_273 : decode cX8_next 273 = .ok (.baload, 1) := by decide +kernel
theorem dX8_next_274 : decode cX8_next 274 = .ok (.iadd, 1) := by decide +kernel
theorem dX8_next_275 : decode cX8_next 275 = .ok (.bipush 48, 2) := by decide +kernel
theorem dX8_next_277 : decode cX8_next 277 = .ok (.isub, 1) := by decide +kernel
theorem dX8_next_278 : decode cX8_next 278 = .ok (.putfield 188, 3) := by decide +kernel
theorem dX8_next_281 : decode cX8_next 281 = .ok (.aload_n 0, 1) := by decide +kernel
theorem dX8_next_282 : decode cX8_next 282 = .ok (.dup, 1) := by decide +kernel
theorem dX8_next_283 : decode cX8_next 283 = .ok (.getfield 170, 3) := by decide +kernel
theorem dX8_next_286 : decode cX8_next 286 = .ok (.iconst 1, 1) := by decide +kernel
theorem dX8_next_287 : decode cX8_next 287 = .ok (.iadd, 1) := by decide +kernel
theorem dX8_next_288 : decode cX8_next 288 = .ok (.putfield 170, 3) := by decide +kernel
theorem dX8_next_291 : decode cX8_next 291 = .ok (.goto (-80), 3) := by decide +kernel
theorem dX8_next_294 : decode cX8_next 294 = .ok (.aload_n 0, 1) := by decide +kernel
theorem dX8_next_295 : decode cX8_next 295 = .ok (.dup, 1) := by decide +kernel
theorem dX8_next_296 : decode cX8_next 296 = .ok (.getfield 170, 3) := by decide +kernel
theorem dX8_next_299 : decode cX8_next 299 = .ok (.iconst 1, 1) := by decide +kernel
theorem dX8_next_300 : decode cX8_next 300 = .ok (.iadd, 1) := by decide +kernel
theorem dX8_next_301 : decode cX8_next 301 = .ok (.putfield 170, 3) := by decide +kernel
theorem dX8_next_304 : decode cX8_next 304 = .ok (.aload_n 0, 1) := by decide +kernel
theorem dX8_next_305 : decode cX8_next 305 = .ok (.iload_n 2, 1) := by decide +kernel
theorem dX8_next_306 : decode cX8_next 306 = .ok (.bipush 59, 2) := by decide +kernel
theorem dX8_next_308 : decode cX8_next 308 = .ok (.if_icmp .ne 7, 3) := by decide +kernel
theorem dX8_next_311 : decode cX8_next 311 = .ok (.iconst 3, 1) := by decide +kernel
theorem dX8_next_312 : decode cX8_next 312 = .ok (.goto 4, 3) := by decide +kernel
theorem dX8_next_315 : decode cX8_next 315 = .ok (.iconst 4, 1) := by decide +kernel
theorem dX8_next_316 : decode cX8_next 316 = .ok (.putfield 176, 3) := by decide +kernel
theorem dX8_next_319 : decode cX8_next 319 = .ok (.return_, 1) := by decide +kernel
theorem zz_adv {f : Nat → Int32} {F : Int32 → Int32} {k j : Nat} {r1 r2 : Int32} (e1 : r1 = F (f (Int32.toNatClampNeg (nI k)))) (c1 : ¬ r1 = 0) (e2 : r2 = F (f (Int32.toNatClampNeg (nI j)))) (c2 : r2 = 0) (h : k ≤ j) : k < j := by
  rcases Nat.lt_or_ge k j with h9 | h9
  · exact h9
  · obtain rfl : j = k := by omega
    exact absurd (e1.trans (e2.symm.trans c2)) c1
def zz_w7 (r : Int32) : Prop := r = -1 ∨ ∃ q : Nat, q < 7 ∧ r = nI q
def zz_cr (f : Nat → Int32) (j : Nat) : Prop := ∀ k : Nat, k < j → k < 3 → 0 ≤ (f k).toInt ∧ (f k).toInt ≤ 99
theorem zz_cr_upd {f : Nat → Int32} {j : Nat} {x : Int32} (h : zz_cr f j) (hj : j < 7) (hx : j < 3 → 0 ≤ x.toInt ∧ x.toInt ≤ 99) : zz_cr (upd f (Int32.toNatClampNeg (nI j)) x) (j + 1) := by
  intro k hk h3
  rw [zz_cl (by omega)]
  by_cases e : k = j
  · simp only [upd, if_pos e]; exact hx (by omega)
  · simp only [upd, if_neg e]; exact h k (by omega) h3
theorem zz_cr7 {f : Nat → Int32} {j : Nat} (h : zz_cr f j) (hj : 3 ≤ j) : zz_rg f 3 0 99 := fun k hk => h k (by omega) hk
theorem zz_cr_cp {f q : Nat → Int32} {j : Nat} (h : zz_cr f j) (hj : j < 7) (hn : zz_rg q 3 0 99) : zz_cr (upd f (Int32.toNatClampNeg (nI j)) (q (Int32.toNatClampNeg (nI j)))) (j + 1) :=
  zz_cr_upd h hj (fun h3 => by rw [zz_cl (by omega)]; exact hn j h3)
theorem zz_rg_cust {f : Nat → Int32} {q : Nat} {x : Int32} (h : zz_rg f 3 0 99) (hq : q < 7) (hx : q < 3 → 0 ≤ x.toInt ∧ x.toInt ≤ 99) : zz_rg (upd f (Int32.toNatClampNeg (nI q)) x) 3 0 99 := by
  intro k hk
  rw [zz_cl (by omega)]
  by_cases e : k = q
  · simp only [upd, if_pos e]; exact hx (by omega)
  · simp only [upd, if_neg e]; exact h k hk
theorem zz_cmu {mt m m2 : Nat} {w w2 : Int32} (h1 : m ≤ m2) (h2 : m2 ≤ mt) (hw : w.toInt = 0) (h : w2.toInt = 0 → m < m2) : 2 * (mt - m2) + (if w2.toInt = 0 then 1 else 0) < 2 * (mt - m) + (if w.toInt = 0 then 1 else 0) := by
  rw [if_pos hw]
  by_cases e : w2.toInt = 0
  · have := h e
    rw [if_pos e]; omega
  · rw [if_neg e]; omega

set_option maxHeartbeats 4000000 in
set_option maxRecDepth 100000 in
theorem m_wordOf (l : Launch) (dC : Nat → ClassId) (dI : Nat → Nat → Nat) (p0 : Int64) (sz : Nat) : Met l yX8_wordOf (zz_w yX8_wordOf cX8_wordOf 2 (some .int)) ({ frames := 0, cells := 0, slots := 0, locals := 0 }) (va_Pc [.long p0] (zz_B (dC, dI) sz [] [])) (va_Qi (fun (r : Int32) (_ : Unit) => r = -1 ∨ ∃ q : Nat, q < 7 ∧ r = nI q) (fun _ _ => True) (va_A [] sz)) 0 0 (va_A [] sz) := by
  refine Met.ofW (cc := cX8_wordOf) (maxL := 2) (ret := (some .int)) (by decide) rfl ?_
  intro p e s m args below meth c s₁ B hml hv
  obtain ⟨rfl, hsz, hP, hK, hD0, hN⟩ := hv
  have hx := B.exec
  have hb := B.bytes
  have hr := B.returns
  have hts := atoms_spec (ws := zz_w yX8_wordOf cX8_wordOf 2 (some .int)) B.pre
  have hw : ∀ w ∈ zz_all, w.before _ s = true := fun w h => hts w (List.mem_cons_of_mem _ h)
  have hown : s.vm.findClass RX8 = some m.cls := findClass_of_methodNamed B.named
  have hlocks := B.notSynchronized
  subst hsz
  have hD := hD0
  generalize hAe : va_A [] s.heap.size = A
  have hA : ∀ q : Nat, s.heap.size ≤ q → A q := fun q h => by rw [← hAe]; exact Or.inr h
  have hS : va_S A s.heap s.heap [] := va_S.rf
  have hP : va_P (dC, dI) vwCl [] s.heap := hP
  have hl := lv_entry ([.long p0]) (n := 2) (Nat.le_of_ble_eq_true rfl)
  rw [lg_entry_eq]
  generalize (lg_sl ([.long p0]) ++ List.replicate (2 - (lg_sl ([.long p0])).length) Slot.unset).toArray = ls at hl ⊢
  have hl : lv_has ls 2 [(0, .long p0)] := hl
  refine lv_lload_n hx hb dX8_wordOf_0 rfl (lv_at hl 0 rfl) ?_
  refine lv_ldc2 (v := 816978868) hx hb hown (hw _ tw_289) dX8_wordOf_1 ?_
  refine zz_setl (Int32.toInt64 816978868) (by decide) ?_
  refine W.lcmp hx hb dX8_wordOf_4 ?_
  refine lv_if_ne (tgt := 10) hx hb dX8_wordOf_5 (by decide) (fun c_1 => ?_) (fun c_1 => ?_)
  · refine lv_lload_n hx hb dX8_wordOf_10 rfl (lv_at hl 0 rfl) ?_
    refine lv_ldc2 (v := 13260912) hx hb hown (hw _ tw_290) dX8_wordOf_11 ?_
    refine zz_setl (Int32.toInt64 13260912) (by decide) ?_
    refine W.lcmp hx hb dX8_wordOf_14 ?_
    refine lv_if_ne (tgt := 20) hx hb dX8_wordOf_15 (by decide) (fun c_2 => ?_) (fun c_2 => ?_)
    · refine lv_lload_n hx hb dX8_wordOf_20 rfl (lv_at hl 0 rfl) ?_
      refine lv_ldc2 (v := 596061369) hx hb hown (hw _ tw_291) dX8_wordOf_21 ?_
      refine zz_setl (Int32.toInt64 596061369) (by decide) ?_
      refine W.lcmp hx hb dX8_wordOf_24 ?_
      refine lv_if_ne (tgt := 30) hx hb dX8_wordOf_25 (by decide) (fun c_3 => ?_) (fun c_3 => ?_)
      · refine lv_lload_n hx hb dX8_wordOf_30 rfl (lv_at hl 0 rfl) ?_
        refine lv_ldc2 (v := 747048165) hx hb hown (hw _ tw_292) dX8_wordOf_31 ?_
        refine zz_setl (Int32.toInt64 747048165) (by decide) ?_
        refine W.lcmp hx hb dX8_wordOf_34 ?_
        refine lv_if_ne (tgt := 40) hx hb dX8_wordOf_35 (by decide) (fun c_4 => ?_) (fun c_4 => ?_)
        · refine lv_lload_n hx hb dX8_wordOf_40 rfl (lv_at hl 0 rfl) ?_
          refine lv_ldc2 (v := 667556069) hx hb hown (hw _ tw_293) dX8_wordOf_41 ?_
          refine zz_setl (Int32.toInt64 667556069) (by decide) ?_
          refine W.lcmp hx hb dX8_wordOf_44 ?_
          refine lv_if_ne (tgt := 50) hx hb dX8_wordOf_45 (by decide) (fun c_5 => ?_) (fun c_5 => ?_)
          · refine lv_lload_n hx hb dX8_wordOf_50 rfl (lv_at hl 0 rfl) ?_
            refine lv_ldc2 (v := 10157028) hx hb hown (hw _ tw_294) dX8_wordOf_51 ?_
            refine zz_setl (Int32.toInt64 10157028) (by decide) ?_
            refine W.lcmp hx hb dX8_wordOf_54 ?_
            refine lv_if_ne (tgt := 60) hx hb dX8_wordOf_55 (by decide) (fun c_6 => ?_) (fun c_6 => ?_)
            · refine lv_lload_n hx hb dX8_wordOf_60 rfl (lv_at hl 0 rfl) ?_
              refine lv_ldc2 (v := 14555621) hx hb hown (hw _ tw_295) dX8_wordOf_61 ?_
              refine zz_setl (Int32.toInt64 14555621) (by decide) ?_
              refine W.lcmp hx hb dX8_wordOf_64 ?_
              refine lv_if_ne (tgt := 71) hx hb dX8_wordOf_65 (by decide) (fun c_7 => ?_) (fun c_7 => ?_)
              · refine lv_iconst (v := (-1)) hx hb dX8_wordOf_71 (by decide) ?_
                exact W.iret (v := (-1)) hx hb hr (fun t ht hW => ⟨⟨(-1), (), rfl, (Or.inl rfl), trivial⟩, hS.F ht⟩) hS.2.2 dX8_wordOf_72
              · refine lv_bipush (v := 6) hx hb dX8_wordOf_68 (by decide) ?_
                exact W.iret (v := 6) hx hb hr (fun t ht hW => ⟨⟨6, (), rfl, (Or.inr ⟨6, by decide, by decide⟩), trivial⟩, hS.F ht⟩) hS.2.2 dX8_wordOf_70
            · refine lv_iconst (v := 5) hx hb dX8_wordOf_58 (by decide) ?_
              exact W.iret (v := 5) hx hb hr (fun t ht hW => ⟨⟨5, (), rfl, (Or.inr ⟨5, by decide, by decide⟩), trivial⟩, hS.F ht⟩) hS.2.2 dX8_wordOf_59
          · refine lv_iconst (v := 4) hx hb dX8_wordOf_48 (by decide) ?_
            exact W.iret (v := 4) hx hb hr (fun t ht hW => ⟨⟨4, (), rfl, (Or.inr ⟨4, by decide, by decide⟩), trivial⟩, hS.F ht⟩) hS.2.2 dX8_wordOf_49
        · refine lv_iconst (v := 3) hx hb dX8_wordOf_38 (by decide) ?_
          exact W.iret (v := 3) hx hb hr (fun t ht hW => ⟨⟨3, (), rfl, (Or.inr ⟨3, by decide, by decide⟩), trivial⟩, hS.F ht⟩) hS.2.2 dX8_wordOf_39
      · refine lv_iconst (v := 2) hx hb dX8_wordOf_28 (by decide) ?_
        exact W.iret (v := 2) hx hb hr (fun t ht hW => ⟨⟨2, (), rfl, (Or.inr ⟨2, by decide, by decide⟩), trivial⟩, hS.F ht⟩) hS.2.2 dX8_wordOf_29
    · refine lv_iconst (v := 1) hx hb dX8_wordOf_18 (by decide) ?_
      exact W.iret (v := 1) hx hb hr (fun t ht hW => ⟨⟨1, (), rfl, (Or.inr ⟨1, by decide, by decide⟩), trivial⟩, hS.F ht⟩) hS.2.2 dX8_wordOf_19
  · refine lv_iconst (v := 0) hx hb dX8_wordOf_8 (by decide) ?_
    exact W.iret (v := 0) hx hb hr (fun t ht hW => ⟨⟨0, (), rfl, (Or.inr ⟨0, by decide, by decide⟩), trivial⟩, hS.F ht⟩) hS.2.2 dX8_wordOf_9

set_option maxHeartbeats 4000000 in
set_option maxRecDepth 100000 in
theorem m_next (l : Launch) (dC : Nat → ClassId) (dI : Nat → Nat → Nat) (b : Nat → Nat) (gg : Nat → Int32) (mt : Nat) (mc : Nat) (mh : Nat) (mf : Nat) (md : Nat) (ma : Nat) (tk : Int32) (so : Int32) (tl : Int32) (wr : Int32) (wa : Int32) (cB : ClassId) (ta : Nat → Int32) (ml : Nat) (sz : Nat) (hml : ml ≤ 200) (hma : ma ≤ ml) : Met l yX8_next (zz_w yX8_next cX8_next 6 none) ({ frames := 2, cells := 0, slots := 0, locals := 45 }) (va_Pc [.ref (b 0), .int (nI ml)] (zz_B (dC, dI) sz [(b 0, .inr (8, [.ref (b 1), .int (nI mt), .int (nI ma), .int tk, .int so, .int tl, .int wr, .int wa, .int (gg 8), .int (gg 9), .ref (b 11), .ref (b 12), .ref (b 13), .int (nI mc), .int (nI mh), .ref (b 16), .ref (b 17), .ref (b 18), .ref (b 19), .ref (b 20), .ref (b 21), .ref (b 22), .ref (b 23), .ref (b 24), .int (nI mf), .ref (b 26), .ref (b 27), .ref (b 28), .ref (b 29), .ref (b 30), .ref (b 31), .ref (b 32), .int (gg 32), .int (nI md), .ref (b 35), .ref (b 36), .ref (b 37), .ref (b 38), .ref (b 39), .ref (b 40), .int (gg 40), .ref (b 42), .ref (b 43), .ref (b 44), .int (gg 44), .ref (b 46), .ref (b 47), .int (gg 47), .ref (b 49)])), (b 1, .inl (cB, 200, .inl ta))] [(cB, .byte)])) (va_Qv (fun (u : Nat × Int32 × Int32 × Int32) => match u with | (m2, _, s2, t2) => ma ≤ m2 ∧ m2 ≤ ml ∧ (s2 = 0 ∨ ma < m2) ∧ (s2 = 1 → ∃ q : Nat, q < 7 ∧ t2 = nI q)) (fun (u : Nat × Int32 × Int32 × Int32) (t : State) => match u with | (u0, u1, u2, u3) => va_P (dC, dI) vwCl [(b 0, .inr (8, [.ref (b 1), .int (nI mt), .int (nI u0), .int u1, .int u2, .int u3, .int wr, .int wa, .int (gg 8), .int (gg 9), .ref (b 11), .ref (b 12), .ref (b 13), .int (nI mc), .int (nI mh), .ref (b 16), .ref (b 17), .ref (b 18), .ref (b 19), .ref (b 20), .ref (b 21), .ref (b 22), .ref (b 23), .ref (b 24), .int (nI mf), .ref (b 26), .ref (b 27), .ref (b 28), .ref (b 29), .ref (b 30), .ref (b 31), .ref (b 32), .int (gg 32), .int (nI md), .ref (b 35), .ref (b 36), .ref (b 37), .ref (b 38), .ref (b 39), .ref (b 40), .int (gg 40), .ref (b 42), .ref (b 43), .ref (b 44), .int (gg 44), .ref (b 46), .ref (b 47), .int (gg 47), .ref (b 49)])), (b 1, .inl (cB, 200, .inl ta))] t.heap ∧ va_K (dC, dI) vwCl [(cB, .byte)] t ∧ va_D (va_A [(b 0, .inr (8, [.ref (b 1), .int (nI mt), .int (nI ma), .int tk, .int so, .int tl, .int wr, .int wa, .int (gg 8), .int (gg 9), .ref (b 11), .ref (b 12), .ref (b 13), .int (nI mc), .int (nI mh), .ref (b 16), .ref (b 17), .ref (b 18), .ref (b 19), .ref (b 20), .ref (b 21), .ref (b 22), .ref (b 23), .ref (b 24), .int (nI mf), .ref (b 26), .ref (b 27), .ref (b 28), .ref (b 29), .ref (b 30), .ref (b 31), .ref (b 32), .int (gg 32), .int (nI md), .ref (b 35), .ref (b 36), .ref (b 37), .ref (b 38), .ref (b 39), .ref (b 40), .int (gg 40), .ref (b 42), .ref (b 43), .ref (b 44), .int (gg 44), .ref (b 46), .ref (b 47), .int (gg 47), .ref (b 49)])), (b 1, .inl (cB, 200, .inl ta))] sz) [(b 0, .inr (8, [.ref (b 1), .int (nI mt), .int (nI u0), .int u1, .int u2, .int u3, .int wr, .int wa, .int (gg 8), .int (gg 9), .ref (b 11), .ref (b 12), .ref (b 13), .int (nI mc), .int (nI mh), .ref (b 16), .ref (b 17), .ref (b 18), .ref (b 19), .ref (b 20), .ref (b 21), .ref (b 22), .ref (b 23), .ref (b 24), .int (nI mf), .ref (b 26), .ref (b 27), .ref (b 28), .ref (b 29), .ref (b 30), .ref (b 31), .ref (b 32), .int (gg 32), .int (nI md), .ref (b 35), .ref (b 36), .ref (b 37), .ref (b 38), .ref (b 39), .ref (b 40), .int (gg 40), .ref (b 42), .ref (b 43), .ref (b 44), .int (gg 44), .ref (b 46), .ref (b 47), .int (gg 47), .ref (b 49)])), (b 1, .inl (cB, 200, .inl ta))]) (va_A [(b 0, .inr (8, [.ref (b 1), .int (nI mt), .int (nI ma), .int tk, .int so, .int tl, .int wr, .int wa, .int (gg 8), .int (gg 9), .ref (b 11), .ref (b 12), .ref (b 13), .int (nI mc), .int (nI mh), .ref (b 16), .ref (b 17), .ref (b 18), .ref (b 19), .ref (b 20), .ref (b 21), .ref (b 22), .ref (b 23), .ref (b 24), .int (nI mf), .ref (b 26), .ref (b 27), .ref (b 28), .ref (b 29), .ref (b 30), .ref (b 31), .ref (b 32), .int (gg 32), .int (nI md), .ref (b 35), .ref (b 36), .ref (b 37), .ref (b 38), .ref (b 39), .ref (b 40), .int (gg 40), .ref (b 42), .ref (b 43), .ref (b 44), .int (gg 44), .ref (b 46), .ref (b 47), .int (gg 47), .ref (b 49)])), (b 1, .inl (cB, 200, .inl ta))] sz)) 0 0 (va_A [(b 0, .inr (8, [.ref (b 1), .int (nI mt), .int (nI ma), .int tk, .int so, .int tl, .int wr, .int wa, .int (gg 8), .int (gg 9), .ref (b 11), .ref (b 12), .ref (b 13), .int (nI mc), .int (nI mh), .ref (b 16), .ref (b 17), .ref (b 18), .ref (b 19), .ref (b 20), .ref (b 21), .ref (b 22), .ref (b 23), .ref (b 24), .int (nI mf), .ref (b 26), .ref (b 27), .ref (b 28), .ref (b 29), .ref (b 30), .ref (b 31), .ref (b 32), .int (gg 32), .int (nI md), .ref (b 35), .ref (b 36), .ref (b 37), .ref (b 38), .ref (b 39), .ref (b 40), .int (gg 40), .ref (b 42), .ref (b 43), .ref (b 44), .int (gg 44), .ref (b 46), .ref (b 47), .int (gg 47), .ref (b 49)])), (b 1, .inl (cB, 200, .inl ta))] sz) := by
  refine Met.ofW (cc := cX8_next) (maxL := 6) (ret := none) (by decide) rfl ?_
  intro p e s m args below meth c s₁ B hml hv
  obtain ⟨rfl, hsz, hP, hK, hD0, hN⟩ := hv
  have hx := B.exec
  have hb := B.bytes
  have hr := B.returns
  have hts := atoms_spec (ws := zz_w yX8_next cX8_next 6 none) B.pre
  have hw : ∀ w ∈ zz_all, w.before _ s = true := fun w h => hts w (List.mem_cons_of_mem _ h)
  have hown : s.vm.findClass RX8 = some m.cls := findClass_of_methodNamed B.named
  have hlocks := B.notSynchronized
  subst hsz
  have hD := hD0.self (sz := s.heap.size)
  generalize hAe : va_A [(b 0, .inr (8, [.ref (b 1), .int (nI mt), .int (nI ma), .int tk, .int so, .int tl, .int wr, .int wa, .int (gg 8), .int (gg 9), .ref (b 11), .ref (b 12), .ref (b 13), .int (nI mc), .int (nI mh), .ref (b 16), .ref (b 17), .ref (b 18), .ref (b 19), .ref (b 20), .ref (b 21), .ref (b 22), .ref (b 23), .ref (b 24), .int (nI mf), .ref (b 26), .ref (b 27), .ref (b 28), .ref (b 29), .ref (b 30), .ref (b 31), .ref (b 32), .int (gg 32), .int (nI md), .ref (b 35), .ref (b 36), .ref (b 37), .ref (b 38), .ref (b 39), .ref (b 40), .int (gg 40), .ref (b 42), .ref (b 43), .ref (b 44), .int (gg 44), .ref (b 46), .ref (b 47), .int (gg 47), .ref (b 49)])), (b 1, .inl (cB, 200, .inl ta))] s.heap.size = A at hD ⊢
  have hA : ∀ q : Nat, s.heap.size ≤ q → A q := fun q h => by rw [← hAe]; exact Or.inr h
  have hS : va_S A s.heap s.heap [] := va_S.rf
  have hP : va_P (dC, dI) vwCl [(b 0, .inr (8, [.ref (b 1), .int (nI mt), .int (nI ma), .int tk, .int so, .int tl, .int wr, .int wa, .int (gg 8), .int (gg 9), .ref (b 11), .ref (b 12), .ref (b 13), .int (nI mc), .int (nI mh), .ref (b 16), .ref (b 17), .ref (b 18), .ref (b 19), .ref (b 20), .ref (b 21), .ref (b 22), .ref (b 23), .ref (b 24), .int (nI mf), .ref (b 26), .ref (b 27), .ref (b 28), .ref (b 29), .ref (b 30), .ref (b 31), .ref (b 32), .int (gg 32), .int (nI md), .ref (b 35), .ref (b 36), .ref (b 37), .ref (b 38), .ref (b 39), .ref (b 40), .int (gg 40), .ref (b 42), .ref (b 43), .ref (b 44), .int (gg 44), .ref (b 46), .ref (b 47), .int (gg 47), .ref (b 49)])), (b 1, .inl (cB, 200, .inl ta))] s.heap := hP
  have hl := lv_entry ([.ref (b 0), .int (nI ml)]) (n := 6) (Nat.le_of_ble_eq_true rfl)
  rw [lg_entry_eq]
  generalize (lg_sl ([.ref (b 0), .int (nI ml)]) ++ List.replicate (6 - (lg_sl ([.ref (b 0), .int (nI ml)])).length) Slot.unset).toArray = ls at hl ⊢
  have hl : lv_has ls 6 [(0, .ref (b 0)), (1, .int (nI ml))] := hl
  refine zz_loopS (fun (k : (Nat)) => [(b 0, .inr (8, [.ref (b 1), .int (nI mt), .int (nI k), .int tk, .int so, .int tl, .int wr, .int wa, .int (gg 8), .int (gg 9), .ref (b 11), .ref (b 12), .ref (b 13), .int (nI mc), .int (nI mh), .ref (b 16), .ref (b 17), .ref (b 18), .ref (b 19), .ref (b 20), .ref (b 21), .ref (b 22), .ref (b 23), .ref (b 24), .int (nI mf), .ref (b 26), .ref (b 27), .ref (b 28), .ref (b 29), .ref (b 30), .ref (b 31), .ref (b 32), .int (gg 32), .int (nI md), .ref (b 35), .ref (b 36), .ref (b 37), .ref (b 38), .ref (b 39), .ref (b 40), .int (gg 40), .ref (b 42), .ref (b 43), .ref (b 44), .int (gg 44), .ref (b 46), .ref (b 47), .int (gg 47), .ref (b 49)])), (b 1, .inl (cB, 200, .inl ta))]) (fun (k : (Nat)) => [(0, .ref (b 0)), (1, .int (nI ml))]) (fun (k : (Nat)) => ma ≤ k ∧ k ≤ ml) (fun (k : (Nat)) => ml - k) (fun u hI H locs ls hP hD hS hl ih_0 => ?_) ma (show ma ≤ ma ∧ ma ≤ ml from (by refine ⟨?_, ?_⟩ <;> omega)) _ _ _ (hP.sub [0, 1] rfl) (hD.sub [0, 1] (by decide) rfl) hS (lv_sub hl [0, 1] rfl)
  obtain ⟨k, rfl⟩ : ∃ z, z = u := ⟨_, rfl⟩
  have hP : va_P (dC, dI) vwCl [(b 0, .inr (8, [.ref (b 1), .int (nI mt), .int (nI k), .int tk, .int so, .int tl, .int wr, .int wa, .int (gg 8), .int (gg 9), .ref (b 11), .ref (b 12), .ref (b 13), .int (nI mc), .int (nI mh), .ref (b 16), .ref (b 17), .ref (b 18), .ref (b 19), .ref (b 20), .ref (b 21), .ref (b 22), .ref (b 23), .ref (b 24), .int (nI mf), .ref (b 26), .ref (b 27), .ref (b 28), .ref (b 29), .ref (b 30), .ref (b 31), .ref (b 32), .int (gg 32), .int (nI md), .ref (b 35), .ref (b 36), .ref (b 37), .ref (b 38), .ref (b 39), .ref (b 40), .int (gg 40), .ref (b 42), .ref (b 43), .ref (b 44), .int (gg 44), .ref (b 46), .ref (b 47), .int (gg 47), .ref (b 49)])), (b 1, .inl (cB, 200, .inl ta))] H := hP
  have hD : va_D A [(b 0, .inr (8, [.ref (b 1), .int (nI mt), .int (nI k), .int tk, .int so, .int tl, .int wr, .int wa, .int (gg 8), .int (gg 9), .ref (b 11), .ref (b 12), .ref (b 13), .int (nI mc), .int (nI mh), .ref (b 16), .ref (b 17), .ref (b 18), .ref (b 19), .ref (b 20), .ref (b 21), .ref (b 22), .ref (b 23), .ref (b 24), .int (nI mf), .ref (b 26), .ref (b 27), .ref (b 28), .ref (b 29), .ref (b 30), .ref (b 31), .ref (b 32), .int (gg 32), .int (nI md), .ref (b 35), .ref (b 36), .ref (b 37), .ref (b 38), .ref (b 39), .ref (b 40), .int (gg 40), .ref (b 42), .ref (b 43), .ref (b 44), .int (gg 44), .ref (b 46), .ref (b 47), .int (gg 47), .ref (b 49)])), (b 1, .inl (cB, 200, .inl ta))] := hD
  have hl : lv_has ls 6 [(0, .ref (b 0)), (1, .int (nI ml))] := hl
  have hI : ma ≤ k ∧ k ≤ ml := hI
  obtain ⟨ik0, ik1⟩ := hI
  refine lv_aload_n hx hb dX8_next_0 rfl (lv_at hl 0 rfl) ?_
  refine va_get (D := (dC, dI)) (ci := 8) (v := .int (nI k)) (C := RX8) (T := TX8) (N := 49) hx hb hw zz_inX8 hown hK hP 0 rfl rfl 2 (by decide) (hw _ tw_296) (fun _ h9 => h9) rfl dX8_next_1 ?_
  refine lv_iload_n hx hb dX8_next_4 rfl (lv_at hl 1 rfl) ?_
  refine lv_icmp_ge (tgt := 35) hx hb dX8_next_5 (by decide) (fun c_1 => ?_) (fun c_1 => ?_)
  · have zc_1 := c_1
    rw [Int32.le_iff_toInt_le] at zc_1
    try rw [zz_toInt k (by omega)] at zc_1
    try rw [zz_toInt ml (by omega)] at zc_1
    refine lv_aload_n hx hb dX8_next_35 rfl (lv_at hl 0 rfl) ?_
    refine lv_aload_n hx hb dX8_next_36 rfl (lv_at hl 0 rfl) ?_
    refine va_get (D := (dC, dI)) (ci := 8) (v := .int (nI k)) (C := RX8) (T := TX8) (N := 49) hx hb hw zz_inX8 hown hK hP 0 rfl rfl 2 (by decide) (hw _ tw_296) (fun _ h9 => h9) rfl dX8_next_37 ?_
    refine va_put (D := (dC, dI)) (ci := 8) (v := .int (nI k)) (ty := .int) (C := RX8) (T := TX8) (N := 49) hx hb hw zz_inX8 tyX8 tyX8_ok nmX8 hown hK hP hD hS 0 rfl rfl 3 (by decide) (hw _ tw_271) (fun _ h9 => h9) rfl (by decide +kernel) rfl rfl (Nat.le_of_ble_eq_true rfl) dX8_next_40 (fun H locs hP hD hS => ?_)
    have hP : va_P (dC, dI) vwCl [(b 0, .inr (8, [.ref (b 1), .int (nI mt), .int (nI k), .int (nI k), .int so, .int tl, .int wr, .int wa, .int (gg 8), .int (gg 9), .ref (b 11), .ref (b 12), .ref (b 13), .int (nI mc), .int (nI mh), .ref (b 16), .ref (b 17), .ref (b 18), .ref (b 19), .ref (b 20), .ref (b 21), .ref (b 22), .ref (b 23), .ref (b 24), .int (nI mf), .ref (b 26), .ref (b 27), .ref (b 28), .ref (b 29), .ref (b 30), .ref (b 31), .ref (b 32), .int (gg 32), .int (nI md), .ref (b 35), .ref (b 36), .ref (b 37), .ref (b 38), .ref (b 39), .ref (b 40), .int (gg 40), .ref (b 42), .ref (b 43), .ref (b 44), .int (gg 44), .ref (b 46), .ref (b 47), .int (gg 47), .ref (b 49)])), (b 1, .inl (cB, 200, .inl ta))] H := hP
    have hD : va_D A [(b 0, .inr (8, [.ref (b 1), .int (nI mt), .int (nI k), .int (nI k), .int so, .int tl, .int wr, .int wa, .int (gg 8), .int (gg 9), .ref (b 11), .ref (b 12), .ref (b 13), .int (nI mc), .int (nI mh), .ref (b 16), .ref (b 17), .ref (b 18), .ref (b 19), .ref (b 20), .ref (b 21), .ref (b 22), .ref (b 23), .ref (b 24), .int (nI mf), .ref (b 26), .ref (b 27), .ref (b 28), .ref (b 29), .ref (b 30), .ref (b 31), .ref (b 32), .int (gg 32), .int (nI md), .ref (b 35), .ref (b 36), .ref (b 37), .ref (b 38), .ref (b 39), .ref (b 40), .int (gg 40), .ref (b 42), .ref (b 43), .ref (b 44), .int (gg 44), .ref (b 46), .ref (b 47), .int (gg 47), .ref (b 49)])), (b 1, .inl (cB, 200, .inl ta))] := hD
    refine lv_aload_n hx hb dX8_next_43 rfl (lv_at hl 0 rfl) ?_
    refine va_get (D := (dC, dI)) (ci := 8) (v := .int (nI k)) (C := RX8) (T := TX8) (N := 49) hx hb hw zz_inX8 hown hK hP 0 rfl rfl 2 (by decide) (hw _ tw_296) (fun _ h9 => h9) rfl dX8_next_44 ?_
    refine lv_iload_n hx hb dX8_next_47 rfl (lv_at hl 1 rfl) ?_
    refine lv_icmp_ne (tgt := 57) hx hb dX8_next_48 (by decide) (fun c_2 => ?_) (fun c_2 => ?_)
    · have zc_2 := c_2
      rw [← Int32.toInt_inj] at zc_2
      try rw [zz_toInt k (by omega)] at zc_2
      try rw [zz_toInt ml (by omega)] at zc_2
      refine lv_aload_n hx hb dX8_next_57 rfl (lv_at hl 0 rfl) ?_
      refine va_get (D := (dC, dI)) (ci := 8) (v := .ref (b 1)) (C := RX8) (T := TX8) (N := 49) hx hb hw zz_inX8 hown hK hP 0 rfl rfl 0 (by decide) (hw _ tw_191) (fun _ h9 => h9) rfl dX8_next_58 ?_
      refine lv_aload_n hx hb dX8_next_61 rfl (lv_at hl 0 rfl) ?_
      refine va_get (D := (dC, dI)) (ci := 8) (v := .int (nI k)) (C := RX8) (T := TX8) (N := 49) hx hb hw zz_inX8 hown hK hP 0 rfl rfl 2 (by decide) (hw _ tw_296) (fun _ h9 => h9) rfl dX8_next_62 ?_
      refine va_bald hx hb hK hP 1 0 rfl rfl (vp_in_iff.mpr (by rw [zz_toInt k (by omega)]; constructor <;> omega)) dX8_next_65 ?_
      refine lv_istore_n (lv' := [(2, .int (ta (Int32.toNatClampNeg (nI k)))), (0, .ref (b 0)), (1, .int (nI ml))]) hx hb dX8_next_66 rfl hl (by decide) rfl (fun ls hl => ?_)
      refine lv_iload_n hx hb dX8_next_67 rfl (lv_at hl 0 rfl) ?_
      have hPc := hP.sub (ws' := []) [] rfl
      have hDc := hD.sub (ws' := []) [] (by decide) rfl
      have hKc := hK.sub (tys' := []) [] rfl
      have hFc := zz_free0 hS hA
      refine va_calli (va_runS (As := [.int (ta (Int32.toNatClampNeg (nI k)))]) (rest := []) ⟨hx, hb, hml, hown, hw⟩ (m_isLetter l dC dI (ta (Int32.toNatClampNeg (nI k))) H.size) ⟨callB_of 1 hw (zz_good tw_297) rfl rfl rfl (hw _ tw_184) (hw _ tw_298) (by decide +kernel) ⟨Nat.le_of_ble_eq_true rfl, Nat.le_of_ble_eq_true rfl⟩, (hw _ tw_299)⟩ ⟨zz_blind, zz_pre hPc hKc hDc hN⟩ rfl rfl hl.1 rfl (lv_room (Nat.le_of_ble_eq_true rfl)) dX8_next_68 ⟨Nat.le_of_ble_eq_true rfl, Nat.le_of_ble_eq_true rfl⟩) hS (fun q _ h => hFc q h) hFc (fun r_3 u_3 t H1 locs ht hvm e_3 hB hz1 hk1 hS => ?_)
      try dsimp only at e_3
      have hP := zz_keep hP hk1
      clear hk1 hB ht hvm
      generalize H1 = H at hP hS ⊢
      refine lv_if_eq (tgt := 187) hx hb dX8_next_71 (by decide) (fun c_4 => ?_) (fun c_4 => ?_)
      · have zc_4 := c_4
        rw [← Int32.toInt_inj] at zc_4
        try rw [show (0 : Int32).toInt = 0 from by decide] at zc_4
        refine lv_iload_n hx hb dX8_next_187 rfl (lv_at hl 0 rfl) ?_
        refine lv_i2l (v := Int32.toInt64 (ta (Int32.toNatClampNeg (nI k)))) hx hb dX8_next_188 rfl ?_
        refine lv_ldc2 (v := 48) hx hb hown (hw _ tw_300) dX8_next_189 ?_
        refine zz_setl (Int32.toInt64 48) (by decide) ?_
        refine lv_ldc2 (v := 57) hx hb hown (hw _ tw_301) dX8_next_192 ?_
        refine zz_setl (Int32.toInt64 57) (by decide) ?_
        have hPc := hP.sub (ws' := []) [] rfl
        have hDc := hD.sub (ws' := []) [] (by decide) rfl
        have hKc := hK.sub (tys' := []) [] rfl
        have hFc := zz_free0 hS hA
        refine va_calli (va_runS (As := [.long (Int32.toInt64 (ta (Int32.toNatClampNeg (nI k)))), .long (Int32.toInt64 48), .long (Int32.toInt64 57)]) (rest := []) ⟨hx, hb, hml, hown, hw⟩ (k_in l dC dI (ta (Int32.toNatClampNeg (nI k))) 48 57 H.size) ⟨callB_of 3 hw (zz_good tw_183) rfl rfl rfl (hw _ tw_184) (hw _ tw_185) (by decide +kernel) ⟨Nat.le_of_ble_eq_true rfl, Nat.le_of_ble_eq_true rfl⟩, (hw _ tw_186)⟩ ⟨zz_blind, zz_pre hPc hKc hDc hN⟩ rfl rfl hl.1 rfl (lv_room (Nat.le_of_ble_eq_true rfl)) dX8_next_195 ⟨Nat.le_of_ble_eq_true rfl, Nat.le_of_ble_eq_true rfl⟩) hS (fun q _ h => hFc q h) hFc (fun r_5 u_5 t H1 locs ht hvm e_5 hB hz1 hk1 hS => ?_)
        try dsimp only at e_5
        have hP := zz_keep hP hk1
        clear hk1 hB ht hvm
        generalize H1 = H at hP hS ⊢
        refine lv_if_eq (tgt := 294) hx hb dX8_next_198 (by decide) (fun c_6 => ?_) (fun c_6 => ?_)
        · have zc_6 := c_6
          rw [e_5, zz_in0, Int32.le_iff_toInt_le, Int32.le_iff_toInt_le] at zc_6
          try rw [show (48 : Int32).toInt = 48 from by decide] at zc_6
          try rw [show (57 : Int32).toInt = 57 from by decide] at zc_6
          refine lv_aload_n hx hb dX8_next_294 rfl (lv_at hl 1 rfl) ?_
          refine lv_dup hx hb dX8_next_295 rfl ?_
          refine va_get (D := (dC, dI)) (ci := 8) (v := .int (nI k)) (C := RX8) (T := TX8) (N := 49) hx hb hw zz_inX8 hown hK hP 0 rfl rfl 2 (by decide) (hw _ tw_296) (fun _ h9 => h9) rfl dX8_next_296 ?_
          refine lv_iconst (v := 1) hx hb dX8_next_299 (by decide) ?_
          refine lv_iadd hx hb dX8_next_300 ?_
          refine zz_seti (nI (k + 1)) (nI_1 _) ?_
          refine va_put (D := (dC, dI)) (ci := 8) (v := .int (nI (k + 1))) (ty := .int) (C := RX8) (T := TX8) (N := 49) hx hb hw zz_inX8 tyX8 tyX8_ok nmX8 hown hK hP hD hS 0 rfl rfl 2 (by decide) (hw _ tw_296) (fun _ h9 => h9) rfl (by decide +kernel) rfl rfl (Nat.le_of_ble_eq_true rfl) dX8_next_301 (fun H locs hP hD hS => ?_)
          have hP : va_P (dC, dI) vwCl [(b 0, .inr (8, [.ref (b 1), .int (nI mt), .int (nI (k + 1)), .int (nI k), .int so, .int tl, .int wr, .int wa, .int (gg 8), .int (gg 9), .ref (b 11), .ref (b 12), .ref (b 13), .int (nI mc), .int (nI mh), .ref (b 16), .ref (b 17), .ref (b 18), .ref (b 19), .ref (b 20), .ref (b 21), .ref (b 22), .ref (b 23), .ref (b 24), .int (nI mf), .ref (b 26), .ref (b 27), .ref (b 28), .ref (b 29), .ref (b 30), .ref (b 31), .ref (b 32), .int (gg 32), .int (nI md), .ref (b 35), .ref (b 36), .ref (b 37), .ref (b 38), .ref (b 39), .ref (b 40), .int (gg 40), .ref (b 42), .ref (b 43), .ref (b 44), .int (gg 44), .ref (b 46), .ref (b 47), .int (gg 47), .ref (b 49)])), (b 1, .inl (cB, 200, .inl ta))] H := hP
          have hD : va_D A [(b 0, .inr (8, [.ref (b 1), .int (nI mt), .int (nI (k + 1)), .int (nI k), .int so, .int tl, .int wr, .int wa, .int (gg 8), .int (gg 9), .ref (b 11), .ref (b 12), .ref (b 13), .int (nI mc), .int (nI mh), .ref (b 16), .ref (b 17), .ref (b 18), .ref (b 19), .ref (b 20), .ref (b 21), .ref (b 22), .ref (b 23), .ref (b 24), .int (nI mf), .ref (b 26), .ref (b 27), .ref (b 28), .ref (b 29), .ref (b 30), .ref (b 31), .ref (b 32), .int (gg 32), .int (nI md), .ref (b 35), .ref (b 36), .ref (b 37), .ref (b 38), .ref (b 39), .ref (b 40), .int (gg 40), .ref (b 42), .ref (b 43), .ref (b 44), .int (gg 44), .ref (b 46), .ref (b 47), .int (gg 47), .ref (b 49)])), (b 1, .inl (cB, 200, .inl ta))] := hD
          refine lv_aload_n hx hb dX8_next_304 rfl (lv_at hl 1 rfl) ?_
          refine lv_iload_n hx hb dX8_next_305 rfl (lv_at hl 0 rfl) ?_
          refine lv_bipush (v := 59) hx hb dX8_next_306 (by decide) ?_
          refine lv_icmp_ne (tgt := 315) hx hb dX8_next_308 (by decide) (fun c_7 => ?_) (fun c_7 => ?_)
          · have zc_7 := c_7
            rw [← Int32.toInt_inj] at zc_7
            try rw [show (59 : Int32).toInt = 59 from by decide] at zc_7
            refine lv_iconst (v := 4) hx hb dX8_next_315 (by decide) ?_
            refine va_put (D := (dC, dI)) (ci := 8) (v := .int 4) (ty := .int) (C := RX8) (T := TX8) (N := 49) hx hb hw zz_inX8 tyX8 tyX8_ok nmX8 hown hK hP hD hS 0 rfl rfl 4 (by decide) (hw _ tw_302) (fun _ h9 => h9) rfl (by decide +kernel) rfl rfl (Nat.le_of_ble_eq_true rfl) dX8_next_316 (fun H locs hP hD hS => ?_)
            have hP : va_P (dC, dI) vwCl [(b 0, .inr (8, [.ref (b 1), .int (nI mt), .int (nI (k + 1)), .int (nI k), .int 4, .int tl, .int wr, .int wa, .int (gg 8), .int (gg 9), .ref (b 11), .ref (b 12), .ref (b 13), .int (nI mc), .int (nI mh), .ref (b 16), .ref (b 17), .ref (b 18), .ref (b 19), .ref (b 20), .ref (b 21), .ref (b 22), .ref (b 23), .ref (b 24), .int (nI mf), .ref (b 26), .ref (b 27), .ref (b 28), .ref (b 29), .ref (b 30), .ref (b 31), .ref (b 32), .int (gg 32), .int (nI md), .ref (b 35), .ref (b 36), .ref (b 37), .ref (b 38), .ref (b 39), .ref (b 40), .int (gg 40), .ref (b 42), .ref (b 43), .ref (b 44), .int (gg 44), .ref (b 46), .ref (b 47), .int (gg 47), .ref (b 49)])), (b 1, .inl (cB, 200, .inl ta))] H := hP
            have hD : va_D A [(b 0, .inr (8, [.ref (b 1), .int (nI mt), .int (nI (k + 1)), .int (nI k), .int 4, .int tl, .int wr, .int wa, .int (gg 8), .int (gg 9), .ref (b 11), .ref (b 12), .ref (b 13), .int (nI mc), .int (nI mh), .ref (b 16), .ref (b 17), .ref (b 18), .ref (b 19), .ref (b 20), .ref (b 21), .ref (b 22), .ref (b 23), .ref (b 24), .int (nI mf), .ref (b 26), .ref (b 27), .ref (b 28), .ref (b 29), .ref (b 30), .ref (b 31), .ref (b 32), .int (gg 32), .int (nI md), .ref (b 35), .ref (b 36), .ref (b 37), .ref (b 38), .ref (b 39), .ref (b 40), .int (gg 40), .ref (b 42), .ref (b 43), .ref (b 44), .int (gg 44), .ref (b 46), .ref (b 47), .int (gg 47), .ref (b 49)])), (b 1, .inl (cB, 200, .inl ta))] := hD
            have hP9 := hP.sub (ws' := [(b 0, .inr (8, [.ref (b 1), .int (nI mt), .int (nI (k + 1)), .int (nI k), .int 4, .int tl, .int wr, .int wa, .int (gg 8), .int (gg 9), .ref (b 11), .ref (b 12), .ref (b 13), .int (nI mc), .int (nI mh), .ref (b 16), .ref (b 17), .ref (b 18), .ref (b 19), .ref (b 20), .ref (b 21), .ref (b 22), .ref (b 23), .ref (b 24), .int (nI mf), .ref (b 26), .ref (b 27), .ref (b 28), .ref (b 29), .ref (b 30), .ref (b 31), .ref (b 32), .int (gg 32), .int (nI md), .ref (b 35), .ref (b 36), .ref (b 37), .ref (b 38), .ref (b 39), .ref (b 40), .int (gg 40), .ref (b 42), .ref (b 43), .ref (b 44), .int (gg 44), .ref (b 46), .ref (b 47), .int (gg 47), .ref (b 49)])), (b 1, .inl (cB, 200, .inl ta))]) [0, 1] rfl
            have hD9 := hD.sub (ws' := [(b 0, .inr (8, [.ref (b 1), .int (nI mt), .int (nI (k + 1)), .int (nI k), .int 4, .int tl, .int wr, .int wa, .int (gg 8), .int (gg 9), .ref (b 11), .ref (b 12), .ref (b 13), .int (nI mc), .int (nI mh), .ref (b 16), .ref (b 17), .ref (b 18), .ref (b 19), .ref (b 20), .ref (b 21), .ref (b 22), .ref (b 23), .ref (b 24), .int (nI mf), .ref (b 26), .ref (b 27), .ref (b 28), .ref (b 29), .ref (b 30), .ref (b 31), .ref (b 32), .int (gg 32), .int (nI md), .ref (b 35), .ref (b 36), .ref (b 37), .ref (b 38), .ref (b 39), .ref (b 40), .int (gg 40), .ref (b 42), .ref (b 43), .ref (b 44), .int (gg 44), .ref (b 46), .ref (b 47), .int (gg 47), .ref (b 49)])), (b 1, .inl (cB, 200, .inl ta))]) [0, 1] (by decide) rfl
            have hK9 := hK.sub (tys' := [(cB, .byte)]) [0] rfl
            exact W.vret hx hb hr (fun t ht hW => ⟨⟨((k + 1), (nI k), 4, tl), rfl, ⟨by omega, by omega, Or.inr (by omega), fun h9 => absurd h9 (by decide)⟩, by rw [ht]; exact hP9, va_K.moved hW.alike hK9, hD9⟩, hS.F ht⟩) hS.2.2 dX8_next_319
          · have zc_7 := c_7
            rw [← Int32.toInt_inj] at zc_7
            try rw [show (59 : Int32).toInt = 59 from by decide] at zc_7
            refine lv_iconst (v := 3) hx hb dX8_next_311 (by decide) ?_
            refine lv_goto (tgt := 316) hx hb dX8_next_312 (by decide) ?_
            refine va_put (D := (dC, dI)) (ci := 8) (v := .int 3) (ty := .int) (C := RX8) (T := TX8) (N := 49) hx hb hw zz_inX8 tyX8 tyX8_ok nmX8 hown hK hP hD hS 0 rfl rfl 4 (by decide) (hw _ tw_302) (fun _ h9 => h9) rfl (by decide +kernel) rfl rfl (Nat.le_of_ble_eq_true rfl) dX8_next_316 (fun H locs hP hD hS => ?_)
            have hP : va_P (dC, dI) vwCl [(b 0, .inr (8, [.ref (b 1), .int (nI mt), .int (nI (k + 1)), .int (nI k), .int 3, .int tl, .int wr, .int wa, .int (gg 8), .int (gg 9), .ref (b 11), .ref (b 12), .ref (b 13), .int (nI mc), .int (nI mh), .ref (b 16), .ref (b 17), .ref (b 18), .ref (b 19), .ref (b 20), .ref (b 21), .ref (b 22), .ref (b 23), .ref (b 24), .int (nI mf), .ref (b 26), .ref (b 27), .ref (b 28), .ref (b 29), .ref (b 30), .ref (b 31), .ref (b 32), .int (gg 32), .int (nI md), .ref (b 35), .ref (b 36), .ref (b 37), .ref (b 38), .ref (b 39), .ref (b 40), .int (gg 40), .ref (b 42), .ref (b 43), .ref (b 44), .int (gg 44), .ref (b 46), .ref (b 47), .int (gg 47), .ref (b 49)])), (b 1, .inl (cB, 200, .inl ta))] H := hP
            have hD : va_D A [(b 0, .inr (8, [.ref (b 1), .int (nI mt), .int (nI (k + 1)), .int (nI k), .int 3, .int tl, .int wr, .int wa, .int (gg 8), .int (gg 9), .ref (b 11), .ref (b 12), .ref (b 13), .int (nI mc), .int (nI mh), .ref (b 16), .ref (b 17), .ref (b 18), .ref (b 19), .ref (b 20), .ref (b 21), .ref (b 22), .ref (b 23), .ref (b 24), .int (nI mf), .ref (b 26), .ref (b 27), .ref (b 28), .ref (b 29), .ref (b 30), .ref (b 31), .ref (b 32), .int (gg 32), .int (nI md), .ref (b 35), .ref (b 36), .ref (b 37), .ref (b 38), .ref (b 39), .ref (b 40), .int (gg 40), .ref (b 42), .ref (b 43), .ref (b 44), .int (gg 44), .ref (b 46), .ref (b 47), .int (gg 47), .ref (b 49)])), (b 1, .inl (cB, 200, .inl ta))] := hD
            have hP9 := hP.sub (ws' := [(b 0, .inr (8, [.ref (b 1), .int (nI mt), .int (nI (k + 1)), .int (nI k), .int 3, .int tl, .int wr, .int wa, .int (gg 8), .int (gg 9), .ref (b 11), .ref (b 12), .ref (b 13), .int (nI mc), .int (nI mh), .ref (b 16), .ref (b 17), .ref (b 18), .ref (b 19), .ref (b 20), .ref (b 21), .ref (b 22), .ref (b 23), .ref (b 24), .int (nI mf), .ref (b 26), .ref (b 27), .ref (b 28), .ref (b 29), .ref (b 30), .ref (b 31), .ref (b 32), .int (gg 32), .int (nI md), .ref (b 35), .ref (b 36), .ref (b 37), .ref (b 38), .ref (b 39), .ref (b 40), .int (gg 40), .ref (b 42), .ref (b 43), .ref (b 44), .int (gg 44), .ref (b 46), .ref (b 47), .int (gg 47), .ref (b 49)])), (b 1, .inl (cB, 200, .inl ta))]) [0, 1] rfl
            have hD9 := hD.sub (ws' := [(b 0, .inr (8, [.ref (b 1), .int (nI mt), .int (nI (k + 1)), .int (nI k), .int 3, .int tl, .int wr, .int wa, .int (gg 8), .int (gg 9), .ref (b 11), .ref (b 12), .ref (b 13), .int (nI mc), .int (nI mh), .ref (b 16), .ref (b 17), .ref (b 18), .ref (b 19), .ref (b 20), .ref (b 21), .ref (b 22), .ref (b 23), .ref (b 24), .int (nI mf), .ref (b 26), .ref (b 27), .ref (b 28), .ref (b 29), .ref (b 30), .ref (b 31), .ref (b 32), .int (gg 32), .int (nI md), .ref (b 35), .ref (b 36), .ref (b 37), .ref (b 38), .ref (b 39), .ref (b 40), .int (gg 40), .ref (b 42), .ref (b 43), .ref (b 44), .int (gg 44), .ref (b 46), .ref (b 47), .int (gg 47), .ref (b 49)])), (b 1, .inl (cB, 200, .inl ta))]) [0, 1] (by decide) rfl
            have hK9 := hK.sub (tys' := [(cB, .byte)]) [0] rfl
            exact W.vret hx hb hr (fun t ht hW => ⟨⟨((k + 1), (nI k), 3, tl), rfl, ⟨by omega, by omega, Or.inr (by omega), fun h9 => absurd h9 (by decide)⟩, by rw [ht]; exact hP9, va_K.moved hW.alike hK9, hD9⟩, hS.F ht⟩) hS.2.2 dX8_next_319
        · have zc_6 := c_6
          rw [e_5, zz_in0, Int32.le_iff_toInt_le, Int32.le_iff_toInt_le] at zc_6
          try rw [show (48 : Int32).toInt = 48 from by decide] at zc_6
          try rw [show (57 : Int32).toInt = 57 from by decide] at zc_6
          refine lv_aload_n hx hb dX8_next_201 rfl (lv_at hl 1 rfl) ?_
          refine lv_iconst (v := 2) hx hb dX8_next_202 (by decide) ?_
          refine va_put (D := (dC, dI)) (ci := 8) (v := .int 2) (ty := .int) (C := RX8) (T := TX8) (N := 49) hx hb hw zz_inX8 tyX8 tyX8_ok nmX8 hown hK hP hD hS 0 rfl rfl 4 (by decide) (hw _ tw_302) (fun _ h9 => h9) rfl (by decide +kernel) rfl rfl (Nat.le_of_ble_eq_true rfl) dX8_next_203 (fun H locs hP hD hS => ?_)
          have hP : va_P (dC, dI) vwCl [(b 0, .inr (8, [.ref (b 1), .int (nI mt), .int (nI k), .int (nI k), .int 2, .int tl, .int wr, .int wa, .int (gg 8), .int (gg 9), .ref (b 11), .ref (b 12), .ref (b 13), .int (nI mc), .int (nI mh), .ref (b 16), .ref (b 17), .ref (b 18), .ref (b 19), .ref (b 20), .ref (b 21), .ref (b 22), .ref (b 23), .ref (b 24), .int (nI mf), .ref (b 26), .ref (b 27), .ref (b 28), .ref (b 29), .ref (b 30), .ref (b 31), .ref (b 32), .int (gg 32), .int (nI md), .ref (b 35), .ref (b 36), .ref (b 37), .ref (b 38), .ref (b 39), .ref (b 40), .int (gg 40), .ref (b 42), .ref (b 43), .ref (b 44), .int (gg 44), .ref (b 46), .ref (b 47), .int (gg 47), .ref (b 49)])), (b 1, .inl (cB, 200, .inl ta))] H := hP
          have hD : va_D A [(b 0, .inr (8, [.ref (b 1), .int (nI mt), .int (nI k), .int (nI k), .int 2, .int tl, .int wr, .int wa, .int (gg 8), .int (gg 9), .ref (b 11), .ref (b 12), .ref (b 13), .int (nI mc), .int (nI mh), .ref (b 16), .ref (b 17), .ref (b 18), .ref (b 19), .ref (b 20), .ref (b 21), .ref (b 22), .ref (b 23), .ref (b 24), .int (nI mf), .ref (b 26), .ref (b 27), .ref (b 28), .ref (b 29), .ref (b 30), .ref (b 31), .ref (b 32), .int (gg 32), .int (nI md), .ref (b 35), .ref (b 36), .ref (b 37), .ref (b 38), .ref (b 39), .ref (b 40), .int (gg 40), .ref (b 42), .ref (b 43), .ref (b 44), .int (gg 44), .ref (b 46), .ref (b 47), .int (gg 47), .ref (b 49)])), (b 1, .inl (cB, 200, .inl ta))] := hD
          refine lv_aload_n hx hb dX8_next_206 rfl (lv_at hl 1 rfl) ?_
          refine lv_iconst (v := 0) hx hb dX8_next_207 (by decide) ?_
          refine va_put (D := (dC, dI)) (ci := 8) (v := .int 0) (ty := .int) (C := RX8) (T := TX8) (N := 49) hx hb hw zz_inX8 tyX8 tyX8_ok nmX8 hown hK hP hD hS 0 rfl rfl 5 (by decide) (hw _ tw_303) (fun _ h9 => h9) rfl (by decide +kernel) rfl rfl (Nat.le_of_ble_eq_true rfl) dX8_next_208 (fun H locs hP hD hS => ?_)
          have hP : va_P (dC, dI) vwCl [(b 0, .inr (8, [.ref (b 1), .int (nI mt), .int (nI k), .int (nI k), .int 2, .int 0, .int wr, .int wa, .int (gg 8), .int (gg 9), .ref (b 11), .ref (b 12), .ref (b 13), .int (nI mc), .int (nI mh), .ref (b 16), .ref (b 17), .ref (b 18), .ref (b 19), .ref (b 20), .ref (b 21), .ref (b 22), .ref (b 23), .ref (b 24), .int (nI mf), .ref (b 26), .ref (b 27), .ref (b 28), .ref (b 29), .ref (b 30), .ref (b 31), .ref (b 32), .int (gg 32), .int (nI md), .ref (b 35), .ref (b 36), .ref (b 37), .ref (b 38), .ref (b 39), .ref (b 40), .int (gg 40), .ref (b 42), .ref (b 43), .ref (b 44), .int (gg 44), .ref (b 46), .ref (b 47), .int (gg 47), .ref (b 49)])), (b 1, .inl (cB, 200, .inl ta))] H := hP
          have hD : va_D A [(b 0, .inr (8, [.ref (b 1), .int (nI mt), .int (nI k), .int (nI k), .int 2, .int 0, .int wr, .int wa, .int (gg 8), .int (gg 9), .ref (b 11), .ref (b 12), .ref (b 13), .int (nI mc), .int (nI mh), .ref (b 16), .ref (b 17), .ref (b 18), .ref (b 19), .ref (b 20), .ref (b 21), .ref (b 22), .ref (b 23), .ref (b 24), .int (nI mf), .ref (b 26), .ref (b 27), .ref (b 28), .ref (b 29), .ref (b 30), .ref (b 31), .ref (b 32), .int (gg 32), .int (nI md), .ref (b 35), .ref (b 36), .ref (b 37), .ref (b 38), .ref (b 39), .ref (b 40), .int (gg 40), .ref (b 42), .ref (b 43), .ref (b 44), .int (gg 44), .ref (b 46), .ref (b 47), .int (gg 47), .ref (b 49)])), (b 1, .inl (cB, 200, .inl ta))] := hD
          refine zz_loopS (fun (u : (Nat) × (Int32)) => match u with | (i, td) => [(b 0, .inr (8, [.ref (b 1), .int (nI mt), .int (nI i), .int (nI k), .int 2, .int td, .int wr, .int wa, .int (gg 8), .int (gg 9), .ref (b 11), .ref (b 12), .ref (b 13), .int (nI mc), .int (nI mh), .ref (b 16), .ref (b 17), .ref (b 18), .ref (b 19), .ref (b 20), .ref (b 21), .ref (b 22), .ref (b 23), .ref (b 24), .int (nI mf), .ref (b 26), .ref (b 27), .ref (b 28), .ref (b 29), .ref (b 30), .ref (b 31), .ref (b 32), .int (gg 32), .int (nI md), .ref (b 35), .ref (b 36), .ref (b 37), .ref (b 38), .ref (b 39), .ref (b 40), .int (gg 40), .ref (b 42), .ref (b 43), .ref (b 44), .int (gg 44), .ref (b 46), .ref (b 47), .int (gg 47), .ref (b 49)])), (b 1, .inl (cB, 200, .inl ta))]) (fun (u : (Nat) × (Int32)) => match u with | (i, td) => [(0, .ref (b 0)), (1, .int (nI ml)), (2, .int (ta (Int32.toNatClampNeg (nI k))))]) (fun (u : (Nat) × (Int32)) => match u with | (i, td) => k ≤ i ∧ i ≤ ml) (fun (u : (Nat) × (Int32)) => match u with | (i, td) => ml - i) (fun u hI H locs ls hP hD hS hl ih_211 => ?_) (k, 0) (show k ≤ k ∧ k ≤ ml from (by refine ⟨?_, ?_⟩ <;> omega)) _ _ _ (hP.sub [0, 1] rfl) (hD.sub [0, 1] (by decide) rfl) hS (lv_sub hl [1, 2, 0] rfl)
          obtain ⟨i, td⟩ := u
          have hP : va_P (dC, dI) vwCl [(b 0, .inr (8, [.ref (b 1), .int (nI mt), .int (nI i), .int (nI k), .int 2, .int td, .int wr, .int wa, .int (gg 8), .int (gg 9), .ref (b 11), .ref (b 12), .ref (b 13), .int (nI mc), .int (nI mh), .ref (b 16), .ref (b 17), .ref (b 18), .ref (b 19), .ref (b 20), .ref (b 21), .ref (b 22), .ref (b 23), .ref (b 24), .int (nI mf), .ref (b 26), .ref (b 27), .ref (b 28), .ref (b 29), .ref (b 30), .ref (b 31), .ref (b 32), .int (gg 32), .int (nI md), .ref (b 35), .ref (b 36), .ref (b 37), .ref (b 38), .ref (b 39), .ref (b 40), .int (gg 40), .ref (b 42), .ref (b 43), .ref (b 44), .int (gg 44), .ref (b 46), .ref (b 47), .int (gg 47), .ref (b 49)])), (b 1, .inl (cB, 200, .inl ta))] H := hP
          have hD : va_D A [(b 0, .inr (8, [.ref (b 1), .int (nI mt), .int (nI i), .int (nI k), .int 2, .int td, .int wr, .int wa, .int (gg 8), .int (gg 9), .ref (b 11), .ref (b 12), .ref (b 13), .int (nI mc), .int (nI mh), .ref (b 16), .ref (b 17), .ref (b 18), .ref (b 19), .ref (b 20), .ref (b 21), .ref (b 22), .ref (b 23), .ref (b 24), .int (nI mf), .ref (b 26), .ref (b 27), .ref (b 28), .ref (b 29), .ref (b 30), .ref (b 31), .ref (b 32), .int (gg 32), .int (nI md), .ref (b 35), .ref (b 36), .ref (b 37), .ref (b 38), .ref (b 39), .ref (b 40), .int (gg 40), .ref (b 42), .ref (b 43), .ref (b 44), .int (gg 44), .ref (b 46), .ref (b 47), .int (gg 47), .ref (b 49)])), (b 1, .inl (cB, 200, .inl ta))] := hD
          have hl : lv_has ls 6 [(0, .ref (b 0)), (1, .int (nI ml)), (2, .int (ta (Int32.toNatClampNeg (nI k))))] := hl
          have hI : k ≤ i ∧ i ≤ ml := hI
          obtain ⟨ii0, ii1⟩ := hI
          refine lv_aload_n hx hb dX8_next_211 rfl (lv_at hl 0 rfl) ?_
          refine va_get (D := (dC, dI)) (ci := 8) (v := .int (nI i)) (C := RX8) (T := TX8) (N := 49) hx hb hw zz_inX8 hown hK hP 0 rfl rfl 2 (by decide) (hw _ tw_296) (fun _ h9 => h9) rfl dX8_next_212 ?_
          refine lv_iload_n hx hb dX8_next_215 rfl (lv_at hl 1 rfl) ?_
          refine lv_icmp_ge (tgt := 319) hx hb dX8_next_216 (by decide) (fun c_8 => ?_) (fun c_8 => ?_)
          · have zc_8 := c_8
            rw [Int32.le_iff_toInt_le] at zc_8
            try rw [zz_toInt i (by omega)] at zc_8
            try rw [zz_toInt ml (by omega)] at zc_8
            have hP9 := hP.sub (ws' := [(b 0, .inr (8, [.ref (b 1), .int (nI mt), .int (nI i), .int (nI k), .int 2, .int td, .int wr, .int wa, .int (gg 8), .int (gg 9), .ref (b 11), .ref (b 12), .ref (b 13), .int (nI mc), .int (nI mh), .ref (b 16), .ref (b 17), .ref (b 18), .ref (b 19), .ref (b 20), .ref (b 21), .ref (b 22), .ref (b 23), .ref (b 24), .int (nI mf), .ref (b 26), .ref (b 27), .ref (b 28), .ref (b 29), .ref (b 30), .ref (b 31), .ref (b 32), .int (gg 32), .int (nI md), .ref (b 35), .ref (b 36), .ref (b 37), .ref (b 38), .ref (b 39), .ref (b 40), .int (gg 40), .ref (b 42), .ref (b 43), .ref (b 44), .int (gg 44), .ref (b 46), .ref (b 47), .int (gg 47), .ref (b 49)])), (b 1, .inl (cB, 200, .inl ta))]) [0, 1] rfl
            have hD9 := hD.sub (ws' := [(b 0, .inr (8, [.ref (b 1), .int (nI mt), .int (nI i), .int (nI k), .int 2, .int td, .int wr, .int wa, .int (gg 8), .int (gg 9), .ref (b 11), .ref (b 12), .ref (b 13), .int (nI mc), .int (nI mh), .ref (b 16), .ref (b 17), .ref (b 18), .ref (b 19), .ref (b 20), .ref (b 21), .ref (b 22), .ref (b 23), .ref (b 24), .int (nI mf), .ref (b 26), .ref (b 27), .ref (b 28), .ref (b 29), .ref (b 30), .ref (b 31), .ref (b 32), .int (gg 32), .int (nI md), .ref (b 35), .ref (b 36), .ref (b 37), .ref (b 38), .ref (b 39), .ref (b 40), .int (gg 40), .ref (b 42), .ref (b 43), .ref (b 44), .int (gg 44), .ref (b 46), .ref (b 47), .int (gg 47), .ref (b 49)])), (b 1, .inl (cB, 200, .inl ta))]) [0, 1] (by decide) rfl
            have hK9 := hK.sub (tys' := [(cB, .byte)]) [0] rfl
            exact W.vret hx hb hr (fun t ht hW => ⟨⟨(i, (nI k), 2, td), rfl, ⟨by omega, by omega, Or.inr (by omega), fun h9 => absurd h9 (by decide)⟩, by rw [ht]; exact hP9, va_K.moved hW.alike hK9, hD9⟩, hS.F ht⟩) hS.2.2 dX8_next_319
          · have zc_8 := c_8
            rw [Int32.le_iff_toInt_le] at zc_8
            try rw [zz_toInt i (by omega)] at zc_8
            try rw [zz_toInt ml (by omega)] at zc_8
            refine lv_aload_n hx hb dX8_next_219 rfl (lv_at hl 0 rfl) ?_
            refine va_get (D := (dC, dI)) (ci := 8) (v := .ref (b 1)) (C := RX8) (T := TX8) (N := 49) hx hb hw zz_inX8 hown hK hP 0 rfl rfl 0 (by decide) (hw _ tw_191) (fun _ h9 => h9) rfl dX8_next_220 ?_
            refine lv_aload_n hx hb dX8_next_223 rfl (lv_at hl 0 rfl) ?_
            refine va_get (D := (dC, dI)) (ci := 8) (v := .int (nI i)) (C := RX8) (T := TX8) (N := 49) hx hb hw zz_inX8 hown hK hP 0 rfl rfl 2 (by decide) (hw _ tw_296) (fun _ h9 => h9) rfl dX8_next_224 ?_
            refine va_bald hx hb hK hP 1 0 rfl rfl (vp_in_iff.mpr (by rw [zz_toInt i (by omega)]; constructor <;> omega)) dX8_next_227 ?_
            refine lv_i2l (v := Int32.toInt64 (ta (Int32.toNatClampNeg (nI i)))) hx hb dX8_next_228 rfl ?_
            refine lv_ldc2 (v := 48) hx hb hown (hw _ tw_300) dX8_next_229 ?_
            refine zz_setl (Int32.toInt64 48) (by decide) ?_
            refine lv_ldc2 (v := 57) hx hb hown (hw _ tw_301) dX8_next_232 ?_
            refine zz_setl (Int32.toInt64 57) (by decide) ?_
            have hPc := hP.sub (ws' := []) [] rfl
            have hDc := hD.sub (ws' := []) [] (by decide) rfl
            have hKc := hK.sub (tys' := []) [] rfl
            have hFc := zz_free0 hS hA
            refine va_calli (va_runS (As := [.long (Int32.toInt64 (ta (Int32.toNatClampNeg (nI i)))), .long (Int32.toInt64 48), .long (Int32.toInt64 57)]) (rest := []) ⟨hx, hb, hml, hown, hw⟩ (k_in l dC dI (ta (Int32.toNatClampNeg (nI i))) 48 57 H.size) ⟨callB_of 3 hw (zz_good tw_183) rfl rfl rfl (hw _ tw_184) (hw _ tw_185) (by decide +kernel) ⟨Nat.le_of_ble_eq_true rfl, Nat.le_of_ble_eq_true rfl⟩, (hw _ tw_186)⟩ ⟨zz_blind, zz_pre hPc hKc hDc hN⟩ rfl rfl hl.1 rfl (lv_room (Nat.le_of_ble_eq_true rfl)) dX8_next_235 ⟨Nat.le_of_ble_eq_true rfl, Nat.le_of_ble_eq_true rfl⟩) hS (fun q _ h => hFc q h) hFc (fun r_9 u_9 t H1 locs ht hvm e_9 hB hz1 hk1 hS => ?_)
            try dsimp only at e_9
            have hP := zz_keep hP hk1
            clear hk1 hB ht hvm
            generalize H1 = H at hP hS ⊢
            refine lv_if_eq (tgt := 319) hx hb dX8_next_238 (by decide) (fun c_10 => ?_) (fun c_10 => ?_)
            · have zc_10 := c_10
              rw [e_9, zz_in0, Int32.le_iff_toInt_le, Int32.le_iff_toInt_le] at zc_10
              try rw [show (48 : Int32).toInt = 48 from by decide] at zc_10
              try rw [show (57 : Int32).toInt = 57 from by decide] at zc_10
              have hP9 := hP.sub (ws' := [(b 0, .inr (8, [.ref (b 1), .int (nI mt), .int (nI i), .int (nI k), .int 2, .int td, .int wr, .int wa, .int (gg 8), .int (gg 9), .ref (b 11), .ref (b 12), .ref (b 13), .int (nI mc), .int (nI mh), .ref (b 16), .ref (b 17), .ref (b 18), .ref (b 19), .ref (b 20), .ref (b 21), .ref (b 22), .ref (b 23), .ref (b 24), .int (nI mf), .ref (b 26), .ref (b 27), .ref (b 28), .ref (b 29), .ref (b 30), .ref (b 31), .ref (b 32), .int (gg 32), .int (nI md), .ref (b 35), .ref (b 36), .ref (b 37), .ref (b 38), .ref (b 39), .ref (b 40), .int (gg 40), .ref (b 42), .ref (b 43), .ref (b 44), .int (gg 44), .ref (b 46), .ref (b 47), .int (gg 47), .ref (b 49)])), (b 1, .inl (cB, 200, .inl ta))]) [0, 1] rfl
              have hD9 := hD.sub (ws' := [(b 0, .inr (8, [.ref (b 1), .int (nI mt), .int (nI i), .int (nI k), .int 2, .int td, .int wr, .int wa, .int (gg 8), .int (gg 9), .ref (b 11), .ref (b 12), .ref (b 13), .int (nI mc), .int (nI mh), .ref (b 16), .ref (b 17), .ref (b 18), .ref (b 19), .ref (b 20), .ref (b 21), .ref (b 22), .ref (b 23), .ref (b 24), .int (nI mf), .ref (b 26), .ref (b 27), .ref (b 28), .ref (b 29), .ref (b 30), .ref (b 31), .ref (b 32), .int (gg 32), .int (nI md), .ref (b 35), .ref (b 36), .ref (b 37), .ref (b 38), .ref (b 39), .ref (b 40), .int (gg 40), .ref (b 42), .ref (b 43), .ref (b 44), .int (gg 44), .ref (b 46), .ref (b 47), .int (gg 47), .ref (b 49)])), (b 1, .inl (cB, 200, .inl ta))]) [0, 1] (by decide) rfl
              have hK9 := hK.sub (tys' := [(cB, .byte)]) [0] rfl
              exact W.vret hx hb hr (fun t ht hW => ⟨⟨(i, (nI k), 2, td), rfl, ⟨by omega, by omega, Or.inr (Nat.lt_of_le_of_lt (show ma ≤ k by omega) (zz_adv (f := ta) (F := fun x => zz_in x 48 57) e_5 c_6 e_9 c_10 (by omega))), fun h9 => absurd h9 (by decide)⟩, by rw [ht]; exact hP9, va_K.moved hW.alike hK9, hD9⟩, hS.F ht⟩) hS.2.2 dX8_next_319
            · have zc_10 := c_10
              rw [e_9, zz_in0, Int32.le_iff_toInt_le, Int32.le_iff_toInt_le] at zc_10
              try rw [show (48 : Int32).toInt = 48 from by decide] at zc_10
              try rw [show (57 : Int32).toInt = 57 from by decide] at zc_10
              refine lv_aload_n hx hb dX8_next_241 rfl (lv_at hl 0 rfl) ?_
              refine lv_aload_n hx hb dX8_next_242 rfl (lv_at hl 0 rfl) ?_
              refine va_get (D := (dC, dI)) (ci := 8) (v := .int td) (C := RX8) (T := TX8) (N := 49) hx hb hw zz_inX8 hown hK hP 0 rfl rfl 5 (by decide) (hw _ tw_303) (fun _ h9 => h9) rfl dX8_next_243 ?_
              refine lv_ldc (v := 99999) hx hb hown (hw _ tw_304) dX8_next_246 ?_
              refine lv_icmp_le (tgt := 258) hx hb dX8_next_248 (by decide) (fun c_11 => ?_) (fun c_11 => ?_)
              · have zc_11 := c_11
                rw [Int32.le_iff_toInt_le] at zc_11
                try rw [show (99999 : Int32).toInt = 99999 from by decide] at zc_11
                refine lv_bipush (v := 10) hx hb dX8_next_258 (by decide) ?_
                refine lv_aload_n hx hb dX8_next_260 rfl (lv_at hl 0 rfl) ?_
                refine va_get (D := (dC, dI)) (ci := 8) (v := .int td) (C := RX8) (T := TX8) (N := 49) hx hb hw zz_inX8 hown hK hP 0 rfl rfl 5 (by decide) (hw _ tw_303) (fun _ h9 => h9) rfl dX8_next_261 ?_
                refine lv_imul hx hb dX8_next_264 ?_
                refine lv_aload_n hx hb dX8_next_265 rfl (lv_at hl 0 rfl) ?_
                refine va_get (D := (dC, dI)) (ci := 8) (v := .ref (b 1)) (C := RX8) (T := TX8) (N := 49) hx hb hw zz_inX8 hown hK hP 0 rfl rfl 0 (by decide) (hw _ tw_191) (fun _ h9 => h9) rfl dX8_next_266 ?_
                refine lv_aload_n hx hb dX8_next_269 rfl (lv_at hl 0 rfl) ?_
                refine va_get (D := (dC, dI)) (ci := 8) (v := .int (nI i)) (C := RX8) (T := TX8) (N := 49) hx hb hw zz_inX8 hown hK hP 0 rfl rfl 2 (by decide) (hw _ tw_296) (fun _ h9 => h9) rfl dX8_next_270 ?_
                refine va_bald hx hb hK hP 1 0 rfl rfl (vp_in_iff.mpr (by rw [zz_toInt i (by omega)]; constructor <;> omega)) dX8_next_273 ?_
                refine lv_iadd hx hb dX8_next_274 ?_
                refine lv_bipush (v := 48) hx hb dX8_next_275 (by decide) ?_
                refine lv_isub hx hb dX8_next_277 ?_
                refine va_put (D := (dC, dI)) (ci := 8) (v := .int (((10 * td) + (ta (Int32.toNatClampNeg (nI i)))) - 48)) (ty := .int) (C := RX8) (T := TX8) (N := 49) hx hb hw zz_inX8 tyX8 tyX8_ok nmX8 hown hK hP hD hS 0 rfl rfl 5 (by decide) (hw _ tw_303) (fun _ h9 => h9) rfl (by decide +kernel) rfl rfl (Nat.le_of_ble_eq_true rfl) dX8_next_278 (fun H locs hP hD hS => ?_)
                have hP : va_P (dC, dI) vwCl [(b 0, .inr (8, [.ref (b 1), .int (nI mt), .int (nI i), .int (nI k), .int 2, .int (((10 * td) + (ta (Int32.toNatClampNeg (nI i)))) - 48), .int wr, .int wa, .int (gg 8), .int (gg 9), .ref (b 11), .ref (b 12), .ref (b 13), .int (nI mc), .int (nI mh), .ref (b 16), .ref (b 17), .ref (b 18), .ref (b 19), .ref (b 20), .ref (b 21), .ref (b 22), .ref (b 23), .ref (b 24), .int (nI mf), .ref (b 26), .ref (b 27), .ref (b 28), .ref (b 29), .ref (b 30), .ref (b 31), .ref (b 32), .int (gg 32), .int (nI md), .ref (b 35), .ref (b 36), .ref (b 37), .ref (b 38), .ref (b 39), .ref (b 40), .int (gg 40), .ref (b 42), .ref (b 43), .ref (b 44), .int (gg 44), .ref (b 46), .ref (b 47), .int (gg 47), .ref (b 49)])), (b 1, .inl (cB, 200, .inl ta))] H := hP
                have hD : va_D A [(b 0, .inr (8, [.ref (b 1), .int (nI mt), .int (nI i), .int (nI k), .int 2, .int (((10 * td) + (ta (Int32.toNatClampNeg (nI i)))) - 48), .int wr, .int wa, .int (gg 8), .int (gg 9), .ref (b 11), .ref (b 12), .ref (b 13), .int (nI mc), .int (nI mh), .ref (b 16), .ref (b 17), .ref (b 18), .ref (b 19), .ref (b 20), .ref (b 21), .ref (b 22), .ref (b 23), .ref (b 24), .int (nI mf), .ref (b 26), .ref (b 27), .ref (b 28), .ref (b 29), .ref (b 30), .ref (b 31), .ref (b 32), .int (gg 32), .int (nI md), .ref (b 35), .ref (b 36), .ref (b 37), .ref (b 38), .ref (b 39), .ref (b 40), .int (gg 40), .ref (b 42), .ref (b 43), .ref (b 44), .int (gg 44), .ref (b 46), .ref (b 47), .int (gg 47), .ref (b 49)])), (b 1, .inl (cB, 200, .inl ta))] := hD
                refine lv_aload_n hx hb dX8_next_281 rfl (lv_at hl 0 rfl) ?_
                refine lv_dup hx hb dX8_next_282 rfl ?_
                refine va_get (D := (dC, dI)) (ci := 8) (v := .int (nI i)) (C := RX8) (T := TX8) (N := 49) hx hb hw zz_inX8 hown hK hP 0 rfl rfl 2 (by decide) (hw _ tw_296) (fun _ h9 => h9) rfl dX8_next_283 ?_
                refine lv_iconst (v := 1) hx hb dX8_next_286 (by decide) ?_
                refine lv_iadd hx hb dX8_next_287 ?_
                refine zz_seti (nI (i + 1)) (nI_1 _) ?_
                refine va_put (D := (dC, dI)) (ci := 8) (v := .int (nI (i + 1))) (ty := .int) (C := RX8) (T := TX8) (N := 49) hx hb hw zz_inX8 tyX8 tyX8_ok nmX8 hown hK hP hD hS 0 rfl rfl 2 (by decide) (hw _ tw_296) (fun _ h9 => h9) rfl (by decide +kernel) rfl rfl (Nat.le_of_ble_eq_true rfl) dX8_next_288 (fun H locs hP hD hS => ?_)
                have hP : va_P (dC, dI) vwCl [(b 0, .inr (8, [.ref (b 1), .int (nI mt), .int (nI (i + 1)), .int (nI k), .int 2, .int (((10 * td) + (ta (Int32.toNatClampNeg (nI i)))) - 48), .int wr, .int wa, .int (gg 8), .int (gg 9), .ref (b 11), .ref (b 12), .ref (b 13), .int (nI mc), .int (nI mh), .ref (b 16), .ref (b 17), .ref (b 18), .ref (b 19), .ref (b 20), .ref (b 21), .ref (b 22), .ref (b 23), .ref (b 24), .int (nI mf), .ref (b 26), .ref (b 27), .ref (b 28), .ref (b 29), .ref (b 30), .ref (b 31), .ref (b 32), .int (gg 32), .int (nI md), .ref (b 35), .ref (b 36), .ref (b 37), .ref (b 38), .ref (b 39), .ref (b 40), .int (gg 40), .ref (b 42), .ref (b 43), .ref (b 44), .int (gg 44), .ref (b 46), .ref (b 47), .int (gg 47), .ref (b 49)])), (b 1, .inl (cB, 200, .inl ta))] H := hP
                have hD : va_D A [(b 0, .inr (8, [.ref (b 1), .int (nI mt), .int (nI (i + 1)), .int (nI k), .int 2, .int (((10 * td) + (ta (Int32.toNatClampNeg (nI i)))) - 48), .int wr, .int wa, .int (gg 8), .int (gg 9), .ref (b 11), .ref (b 12), .ref (b 13), .int (nI mc), .int (nI mh), .ref (b 16), .ref (b 17), .ref (b 18), .ref (b 19), .ref (b 20), .ref (b 21), .ref (b 22), .ref (b 23), .ref (b 24), .int (nI mf), .ref (b 26), .ref (b 27), .ref (b 28), .ref (b 29), .ref (b 30), .ref (b 31), .ref (b 32), .int (gg 32), .int (nI md), .ref (b 35), .ref (b 36), .ref (b 37), .ref (b 38), .ref (b 39), .ref (b 40), .int (gg 40), .ref (b 42), .ref (b 43), .ref (b 44), .int (gg 44), .ref (b 46), .ref (b 47), .int (gg 47), .ref (b 49)])), (b 1, .inl (cB, 200, .inl ta))] := hD
                refine lv_goto (tgt := 211) hx hb dX8_next_291 (by decide) ?_
                exact ih_211 ((i + 1), (((10 * td) + (ta (Int32.toNatClampNeg (nI i)))) - 48)) (show k ≤ (i + 1) ∧ (i + 1) ≤ ml from (by refine ⟨?_, ?_⟩ <;> omega)) (show ml - (i + 1) < ml - i from by omega) _ _ _ (hP.sub [0, 1] rfl) (hD.sub [0, 1] (by decide) rfl) hS (lv_sub hl [0, 1, 2] rfl)
              · have zc_11 := c_11
                rw [Int32.le_iff_toInt_le] at zc_11
                try rw [show (99999 : Int32).toInt = 99999 from by decide] at zc_11
                refine lv_aload_n hx hb dX8_next_251 rfl (lv_at hl 0 rfl) ?_
                refine va_get (D := (dC, dI)) (ci := 8) (v := .int td) (C := RX8) (T := TX8) (N := 49) hx hb hw zz_inX8 hown hK hP 0 rfl rfl 5 (by decide) (hw _ tw_303) (fun _ h9 => h9) rfl dX8_next_252 ?_
                refine lv_goto (tgt := 278) hx hb dX8_next_255 (by decide) ?_
                refine va_put (D := (dC, dI)) (ci := 8) (v := .int td) (ty := .int) (C := RX8) (T := TX8) (N := 49) hx hb hw zz_inX8 tyX8 tyX8_ok nmX8 hown hK hP hD hS 0 rfl rfl 5 (by decide) (hw _ tw_303) (fun _ h9 => h9) rfl (by decide +kernel) rfl rfl (Nat.le_of_ble_eq_true rfl) dX8_next_278 (fun H locs hP hD hS => ?_)
                have hP : va_P (dC, dI) vwCl [(b 0, .inr (8, [.ref (b 1), .int (nI mt), .int (nI i), .int (nI k), .int 2, .int td, .int wr, .int wa, .int (gg 8), .int (gg 9), .ref (b 11), .ref (b 12), .ref (b 13), .int (nI mc), .int (nI mh), .ref (b 16), .ref (b 17), .ref (b 18), .ref (b 19), .ref (b 20), .ref (b 21), .ref (b 22), .ref (b 23), .ref (b 24), .int (nI mf), .ref (b 26), .ref (b 27), .ref (b 28), .ref (b 29), .ref (b 30), .ref (b 31), .ref (b 32), .int (gg 32), .int (nI md), .ref (b 35), .ref (b 36), .ref (b 37), .ref (b 38), .ref (b 39), .ref (b 40), .int (gg 40), .ref (b 42), .ref (b 43), .ref (b 44), .int (gg 44), .ref (b 46), .ref (b 47), .int (gg 47), .ref (b 49)])), (b 1, .inl (cB, 200, .inl ta))] H := hP
                have hD : va_D A [(b 0, .inr (8, [.ref (b 1), .int (nI mt), .int (nI i), .int (nI k), .int 2, .int td, .int wr, .int wa, .int (gg 8), .int (gg 9), .ref (b 11), .ref (b 12), .ref (b 13), .int (nI mc), .int (nI mh), .ref (b 16), .ref (b 17), .ref (b 18), .ref (b 19), .ref (b 20), .ref (b 21), .ref (b 22), .ref (b 23), .ref (b 24), .int (nI mf), .ref (b 26), .ref (b 27), .ref (b 28), .ref (b 29), .ref (b 30), .ref (b 31), .ref (b 32), .int (gg 32), .int (nI md), .ref (b 35), .ref (b 36), .ref (b 37), .ref (b 38), .ref (b 39), .ref (b 40), .int (gg 40), .ref (b 42), .ref (b 43), .ref (b 44), .int (gg 44), .ref (b 46), .ref (b 47), .int (gg 47), .ref (b 49)])), (b 1, .inl (cB, 200, .inl ta))] := hD
                refine lv_aload_n hx hb dX8_next_281 rfl (lv_at hl 0 rfl) ?_
                refine lv_dup hx hb dX8_next_282 rfl ?_
                refine va_get (D := (dC, dI)) (ci := 8) (v := .int (nI i)) (C := RX8) (T := TX8) (N := 49) hx hb hw zz_inX8 hown hK hP 0 rfl rfl 2 (by decide) (hw _ tw_296) (fun _ h9 => h9) rfl dX8_next_283 ?_
                refine lv_iconst (v := 1) hx hb dX8_next_286 (by decide) ?_
                refine lv_iadd hx hb dX8_next_287 ?_
                refine zz_seti (nI (i + 1)) (nI_1 _) ?_
                refine va_put (D := (dC, dI)) (ci := 8) (v := .int (nI (i + 1))) (ty := .int) (C := RX8) (T := TX8) (N := 49) hx hb hw zz_inX8 tyX8 tyX8_ok nmX8 hown hK hP hD hS 0 rfl rfl 2 (by decide) (hw _ tw_296) (fun _ h9 => h9) rfl (by decide +kernel) rfl rfl (Nat.le_of_ble_eq_true rfl) dX8_next_288 (fun H locs hP hD hS => ?_)
                have hP : va_P (dC, dI) vwCl [(b 0, .inr (8, [.ref (b 1), .int (nI mt), .int (nI (i + 1)), .int (nI k), .int 2, .int td, .int wr, .int wa, .int (gg 8), .int (gg 9), .ref (b 11), .ref (b 12), .ref (b 13), .int (nI mc), .int (nI mh), .ref (b 16), .ref (b 17), .ref (b 18), .ref (b 19), .ref (b 20), .ref (b 21), .ref (b 22), .ref (b 23), .ref (b 24), .int (nI mf), .ref (b 26), .ref (b 27), .ref (b 28), .ref (b 29), .ref (b 30), .ref (b 31), .ref (b 32), .int (gg 32), .int (nI md), .ref (b 35), .ref (b 36), .ref (b 37), .ref (b 38), .ref (b 39), .ref (b 40), .int (gg 40), .ref (b 42), .ref (b 43), .ref (b 44), .int (gg 44), .ref (b 46), .ref (b 47), .int (gg 47), .ref (b 49)])), (b 1, .inl (cB, 200, .inl ta))] H := hP
                have hD : va_D A [(b 0, .inr (8, [.ref (b 1), .int (nI mt), .int (nI (i + 1)), .int (nI k), .int 2, .int td, .int wr, .int wa, .int (gg 8), .int (gg 9), .ref (b 11), .ref (b 12), .ref (b 13), .int (nI mc), .int (nI mh), .ref (b 16), .ref (b 17), .ref (b 18), .ref (b 19), .ref (b 20), .ref (b 21), .ref (b 22), .ref (b 23), .ref (b 24), .int (nI mf), .ref (b 26), .ref (b 27), .ref (b 28), .ref (b 29), .ref (b 30), .ref (b 31), .ref (b 32), .int (gg 32), .int (nI md), .ref (b 35), .ref (b 36), .ref (b 37), .ref (b 38), .ref (b 39), .ref (b 40), .int (gg 40), .ref (b 42), .ref (b 43), .ref (b 44), .int (gg 44), .ref (b 46), .ref (b 47), .int (gg 47), .ref (b 49)])), (b 1, .inl (cB, 200, .inl ta))] := hD
                refine lv_goto (tgt := 211) hx hb dX8_next_291 (by decide) ?_
                exact ih_211 ((i + 1), td) (show k ≤ (i + 1) ∧ (i + 1) ≤ ml from (by refine ⟨?_, ?_⟩ <;> omega)) (show ml - (i + 1) < ml - i from by omega) _ _ _ (hP.sub [0, 1] rfl) (hD.sub [0, 1] (by decide) rfl) hS (lv_sub hl [0, 1, 2] rfl)
      · have zc_4 := c_4
        rw [← Int32.toInt_inj] at zc_4
        try rw [show (0 : Int32).toInt = 0 from by decide] at zc_4
        refine lv_lconst (v := Int32.toInt64 0) hx hb dX8_next_74 (by decide) ?_
        refine lv_lstore_n (lv' := [(3, .long (Int32.toInt64 0)), (2, .int (ta (Int32.toNatClampNeg (nI k)))), (0, .ref (b 0)), (1, .int (nI ml))]) hx hb dX8_next_75 rfl hl (by decide) rfl (fun ls hl => ?_)
        refine lv_iconst (v := 0) hx hb dX8_next_76 (by decide) ?_
        refine lv_istore (lv' := [(5, .int 0), (3, .long (Int32.toInt64 0)), (2, .int (ta (Int32.toNatClampNeg (nI k)))), (0, .ref (b 0)), (1, .int (nI ml))]) hx hb dX8_next_77 hl (by decide) rfl (fun ls hl => ?_)
        refine zz_loopS (fun (u : (Nat) × (Int64) × (Nat)) => match u with | (j, y, nn) => [(b 0, .inr (8, [.ref (b 1), .int (nI mt), .int (nI j), .int (nI k), .int so, .int tl, .int wr, .int wa, .int (gg 8), .int (gg 9), .ref (b 11), .ref (b 12), .ref (b 13), .int (nI mc), .int (nI mh), .ref (b 16), .ref (b 17), .ref (b 18), .ref (b 19), .ref (b 20), .ref (b 21), .ref (b 22), .ref (b 23), .ref (b 24), .int (nI mf), .ref (b 26), .ref (b 27), .ref (b 28), .ref (b 29), .ref (b 30), .ref (b 31), .ref (b 32), .int (gg 32), .int (nI md), .ref (b 35), .ref (b 36), .ref (b 37), .ref (b 38), .ref (b 39), .ref (b 40), .int (gg 40), .ref (b 42), .ref (b 43), .ref (b 44), .int (gg 44), .ref (b 46), .ref (b 47), .int (gg 47), .ref (b 49)])), (b 1, .inl (cB, 200, .inl ta))]) (fun (u : (Nat) × (Int64) × (Nat)) => match u with | (j, y, nn) => [(0, .ref (b 0)), (1, .int (nI ml)), (2, .int (ta (Int32.toNatClampNeg (nI k)))), (3, .long y), (5, .int (nI nn))]) (fun (u : (Nat) × (Int64) × (Nat)) => match u with | (j, y, nn) => k ≤ j ∧ j ≤ ml ∧ nn ≤ j) (fun (u : (Nat) × (Int64) × (Nat)) => match u with | (j, y, nn) => ml - j) (fun u hI H locs ls hP hD hS hl ih_79 => ?_) (k, Int32.toInt64 0, 0) (show k ≤ k ∧ k ≤ ml ∧ 0 ≤ k from (by refine ⟨?_, ?_, ?_⟩ <;> omega)) _ _ _ (hP.sub [0, 1] rfl) (hD.sub [0, 1] (by decide) rfl) hS (lv_sub hl [3, 4, 2, 1, 0] rfl)
        obtain ⟨j, y, nn⟩ := u
        have hP : va_P (dC, dI) vwCl [(b 0, .inr (8, [.ref (b 1), .int (nI mt), .int (nI j), .int (nI k), .int so, .int tl, .int wr, .int wa, .int (gg 8), .int (gg 9), .ref (b 11), .ref (b 12), .ref (b 13), .int (nI mc), .int (nI mh), .ref (b 16), .ref (b 17), .ref (b 18), .ref (b 19), .ref (b 20), .ref (b 21), .ref (b 22), .ref (b 23), .ref (b 24), .int (nI mf), .ref (b 26), .ref (b 27), .ref (b 28), .ref (b 29), .ref (b 30), .ref (b 31), .ref (b 32), .int (gg 32), .int (nI md), .ref (b 35), .ref (b 36), .ref (b 37), .ref (b 38), .ref (b 39), .ref (b 40), .int (gg 40), .ref (b 42), .ref (b 43), .ref (b 44), .int (gg 44), .ref (b 46), .ref (b 47), .int (gg 47), .ref (b 49)])), (b 1, .inl (cB, 200, .inl ta))] H := hP
        have hD : va_D A [(b 0, .inr (8, [.ref (b 1), .int (nI mt), .int (nI j), .int (nI k), .int so, .int tl, .int wr, .int wa, .int (gg 8), .int (gg 9), .ref (b 11), .ref (b 12), .ref (b 13), .int (nI mc), .int (nI mh), .ref (b 16), .ref (b 17), .ref (b 18), .ref (b 19), .ref (b 20), .ref (b 21), .ref (b 22), .ref (b 23), .ref (b 24), .int (nI mf), .ref (b 26), .ref (b 27), .ref (b 28), .ref (b 29), .ref (b 30), .ref (b 31), .ref (b 32), .int (gg 32), .int (nI md), .ref (b 35), .ref (b 36), .ref (b 37), .ref (b 38), .ref (b 39), .ref (b 40), .int (gg 40), .ref (b 42), .ref (b 43), .ref (b 44), .int (gg 44), .ref (b 46), .ref (b 47), .int (gg 47), .ref (b 49)])), (b 1, .inl (cB, 200, .inl ta))] := hD
        have hl : lv_has ls 6 [(0, .ref (b 0)), (1, .int (nI ml)), (2, .int (ta (Int32.toNatClampNeg (nI k)))), (3, .long y), (5, .int (nI nn))] := hl
        have hI : k ≤ j ∧ j ≤ ml ∧ nn ≤ j := hI
        obtain ⟨ij0, ij1, inn⟩ := hI
        refine lv_aload_n hx hb dX8_next_79 rfl (lv_at hl 0 rfl) ?_
        refine va_get (D := (dC, dI)) (ci := 8) (v := .int (nI j)) (C := RX8) (T := TX8) (N := 49) hx hb hw zz_inX8 hown hK hP 0 rfl rfl 2 (by decide) (hw _ tw_296) (fun _ h9 => h9) rfl dX8_next_80 ?_
        refine lv_iload_n hx hb dX8_next_83 rfl (lv_at hl 1 rfl) ?_
        refine lv_icmp_ge (tgt := 150) hx hb dX8_next_84 (by decide) (fun c_12 => ?_) (fun c_12 => ?_)
        · have zc_12 := c_12
          rw [Int32.le_iff_toInt_le] at zc_12
          try rw [zz_toInt j (by omega)] at zc_12
          try rw [zz_toInt ml (by omega)] at zc_12
          have hadv : k < j := by omega
          refine lv_aload_n hx hb dX8_next_150 rfl (lv_at hl 0 rfl) ?_
          refine lv_iload hx hb dX8_next_151 (lv_at hl 4 rfl) ?_
          refine lv_iconst (v := 5) hx hb dX8_next_153 (by decide) ?_
          refine lv_icmp_le (tgt := 161) hx hb dX8_next_154 (by decide) (fun c_13 => ?_) (fun c_13 => ?_)
          · have zc_13 := c_13
            rw [Int32.le_iff_toInt_le] at zc_13
            try rw [zz_toInt nn (by omega)] at zc_13
            try rw [show (5 : Int32).toInt = 5 from by decide] at zc_13
            refine lv_lload_n hx hb dX8_next_161 rfl (lv_at hl 3 rfl) ?_
            have hPc := hP.sub (ws' := []) [] rfl
            have hDc := hD.sub (ws' := []) [] (by decide) rfl
            have hKc := hK.sub (tys' := []) [] rfl
            have hFc := zz_free0 hS hA
            refine va_calli (va_runS (As := [.long y]) (rest := [.ref (b 0)]) ⟨hx, hb, hml, hown, hw⟩ (m_wordOf l dC dI y H.size) ⟨callB_of 1 hw (zz_good tw_305) rfl rfl rfl (hw _ tw_184) (hw _ tw_306) (by decide +kernel) ⟨Nat.le_of_ble_eq_true rfl, Nat.le_of_ble_eq_true rfl⟩, (hw _ tw_307)⟩ ⟨zz_blind, zz_pre hPc hKc hDc hN⟩ rfl rfl hl.1 rfl (lv_room (Nat.le_of_ble_eq_true rfl)) dX8_next_162 ⟨Nat.le_of_ble_eq_true rfl, Nat.le_of_ble_eq_true rfl⟩) hS (fun q _ h => hFc q h) hFc (fun r_14 u_14 t H1 locs ht hvm e_14 hB hz1 hk1 hS => ?_)
            try dsimp only at e_14
            have hP := zz_keep hP hk1
            clear hk1 hB ht hvm
            generalize H1 = H at hP hS ⊢
            rcases e_14 with er_14 | ⟨qj_14, hj_14, er_14⟩
            · refine zz_seti (-1) er_14 ?_
              refine va_put (D := (dC, dI)) (ci := 8) (v := .int (-1)) (ty := .int) (C := RX8) (T := TX8) (N := 49) hx hb hw zz_inX8 tyX8 tyX8_ok nmX8 hown hK hP hD hS 0 rfl rfl 5 (by decide) (hw _ tw_303) (fun _ h9 => h9) rfl (by decide +kernel) rfl rfl (Nat.le_of_ble_eq_true rfl) dX8_next_165 (fun H locs hP hD hS => ?_)
              have hP : va_P (dC, dI) vwCl [(b 0, .inr (8, [.ref (b 1), .int (nI mt), .int (nI j), .int (nI k), .int so, .int (-1), .int wr, .int wa, .int (gg 8), .int (gg 9), .ref (b 11), .ref (b 12), .ref (b 13), .int (nI mc), .int (nI mh), .ref (b 16), .ref (b 17), .ref (b 18), .ref (b 19), .ref (b 20), .ref (b 21), .ref (b 22), .ref (b 23), .ref (b 24), .int (nI mf), .ref (b 26), .ref (b 27), .ref (b 28), .ref (b 29), .ref (b 30), .ref (b 31), .ref (b 32), .int (gg 32), .int (nI md), .ref (b 35), .ref (b 36), .ref (b 37), .ref (b 38), .ref (b 39), .ref (b 40), .int (gg 40), .ref (b 42), .ref (b 43), .ref (b 44), .int (gg 44), .ref (b 46), .ref (b 47), .int (gg 47), .ref (b 49)])), (b 1, .inl (cB, 200, .inl ta))] H := hP
              have hD : va_D A [(b 0, .inr (8, [.ref (b 1), .int (nI mt), .int (nI j), .int (nI k), .int so, .int (-1), .int wr, .int wa, .int (gg 8), .int (gg 9), .ref (b 11), .ref (b 12), .ref (b 13), .int (nI mc), .int (nI mh), .ref (b 16), .ref (b 17), .ref (b 18), .ref (b 19), .ref (b 20), .ref (b 21), .ref (b 22), .ref (b 23), .ref (b 24), .int (nI mf), .ref (b 26), .ref (b 27), .ref (b 28), .ref (b 29), .ref (b 30), .ref (b 31), .ref (b 32), .int (gg 32), .int (nI md), .ref (b 35), .ref (b 36), .ref (b 37), .ref (b 38), .ref (b 39), .ref (b 40), .int (gg 40), .ref (b 42), .ref (b 43), .ref (b 44), .int (gg 44), .ref (b 46), .ref (b 47), .int (gg 47), .ref (b 49)])), (b 1, .inl (cB, 200, .inl ta))] := hD
              refine lv_aload_n hx hb dX8_next_168 rfl (lv_at hl 0 rfl) ?_
              refine lv_aload_n hx hb dX8_next_169 rfl (lv_at hl 0 rfl) ?_
              refine va_get (D := (dC, dI)) (ci := 8) (v := .int (-1)) (C := RX8) (T := TX8) (N := 49) hx hb hw zz_inX8 hown hK hP 0 rfl rfl 5 (by decide) (hw _ tw_303) (fun _ h9 => h9) rfl dX8_next_170 ?_
              refine lv_if_ge (tgt := 180) hx hb dX8_next_173 (by decide) (fun c_9 => absurd c_9 (by decide)) (fun _ => ?_)
              refine lv_iconst (v := 4) hx hb dX8_next_176 (by decide) ?_
              refine lv_goto (tgt := 181) hx hb dX8_next_177 (by decide) ?_
              refine va_put (D := (dC, dI)) (ci := 8) (v := .int 4) (ty := .int) (C := RX8) (T := TX8) (N := 49) hx hb hw zz_inX8 tyX8 tyX8_ok nmX8 hown hK hP hD hS 0 rfl rfl 4 (by decide) (hw _ tw_302) (fun _ h9 => h9) rfl (by decide +kernel) rfl rfl (Nat.le_of_ble_eq_true rfl) dX8_next_181 (fun H locs hP hD hS => ?_)
              have hP : va_P (dC, dI) vwCl [(b 0, .inr (8, [.ref (b 1), .int (nI mt), .int (nI j), .int (nI k), .int 4, .int (-1), .int wr, .int wa, .int (gg 8), .int (gg 9), .ref (b 11), .ref (b 12), .ref (b 13), .int (nI mc), .int (nI mh), .ref (b 16), .ref (b 17), .ref (b 18), .ref (b 19), .ref (b 20), .ref (b 21), .ref (b 22), .ref (b 23), .ref (b 24), .int (nI mf), .ref (b 26), .ref (b 27), .ref (b 28), .ref (b 29), .ref (b 30), .ref (b 31), .ref (b 32), .int (gg 32), .int (nI md), .ref (b 35), .ref (b 36), .ref (b 37), .ref (b 38), .ref (b 39), .ref (b 40), .int (gg 40), .ref (b 42), .ref (b 43), .ref (b 44), .int (gg 44), .ref (b 46), .ref (b 47), .int (gg 47), .ref (b 49)])), (b 1, .inl (cB, 200, .inl ta))] H := hP
              have hD : va_D A [(b 0, .inr (8, [.ref (b 1), .int (nI mt), .int (nI j), .int (nI k), .int 4, .int (-1), .int wr, .int wa, .int (gg 8), .int (gg 9), .ref (b 11), .ref (b 12), .ref (b 13), .int (nI mc), .int (nI mh), .ref (b 16), .ref (b 17), .ref (b 18), .ref (b 19), .ref (b 20), .ref (b 21), .ref (b 22), .ref (b 23), .ref (b 24), .int (nI mf), .ref (b 26), .ref (b 27), .ref (b 28), .ref (b 29), .ref (b 30), .ref (b 31), .ref (b 32), .int (gg 32), .int (nI md), .ref (b 35), .ref (b 36), .ref (b 37), .ref (b 38), .ref (b 39), .ref (b 40), .int (gg 40), .ref (b 42), .ref (b 43), .ref (b 44), .int (gg 44), .ref (b 46), .ref (b 47), .int (gg 47), .ref (b 49)])), (b 1, .inl (cB, 200, .inl ta))] := hD
              refine lv_goto (tgt := 319) hx hb dX8_next_184 (by decide) ?_
              have hP9 := hP.sub (ws' := [(b 0, .inr (8, [.ref (b 1), .int (nI mt), .int (nI j), .int (nI k), .int 4, .int (-1), .int wr, .int wa, .int (gg 8), .int (gg 9), .ref (b 11), .ref (b 12), .ref (b 13), .int (nI mc), .int (nI mh), .ref (b 16), .ref (b 17), .ref (b 18), .ref (b 19), .ref (b 20), .ref (b 21), .ref (b 22), .ref (b 23), .ref (b 24), .int (nI mf), .ref (b 26), .ref (b 27), .ref (b 28), .ref (b 29), .ref (b 30), .ref (b 31), .ref (b 32), .int (gg 32), .int (nI md), .ref (b 35), .ref (b 36), .ref (b 37), .ref (b 38), .ref (b 39), .ref (b 40), .int (gg 40), .ref (b 42), .ref (b 43), .ref (b 44), .int (gg 44), .ref (b 46), .ref (b 47), .int (gg 47), .ref (b 49)])), (b 1, .inl (cB, 200, .inl ta))]) [0, 1] rfl
              have hD9 := hD.sub (ws' := [(b 0, .inr (8, [.ref (b 1), .int (nI mt), .int (nI j), .int (nI k), .int 4, .int (-1), .int wr, .int wa, .int (gg 8), .int (gg 9), .ref (b 11), .ref (b 12), .ref (b 13), .int (nI mc), .int (nI mh), .ref (b 16), .ref (b 17), .ref (b 18), .ref (b 19), .ref (b 20), .ref (b 21), .ref (b 22), .ref (b 23), .ref (b 24), .int (nI mf), .ref (b 26), .ref (b 27), .ref (b 28), .ref (b 29), .ref (b 30), .ref (b 31), .ref (b 32), .int (gg 32), .int (nI md), .ref (b 35), .ref (b 36), .ref (b 37), .ref (b 38), .ref (b 39), .ref (b 40), .int (gg 40), .ref (b 42), .ref (b 43), .ref (b 44), .int (gg 44), .ref (b 46), .ref (b 47), .int (gg 47), .ref (b 49)])), (b 1, .inl (cB, 200, .inl ta))]) [0, 1] (by decide) rfl
              have hK9 := hK.sub (tys' := [(cB, .byte)]) [0] rfl
              exact W.vret hx hb hr (fun t ht hW => ⟨⟨(j, (nI k), 4, (-1)), rfl, ⟨by omega, by omega, Or.inr (by omega), fun h9 => absurd h9 (by decide)⟩, by rw [ht]; exact hP9, va_K.moved hW.alike hK9, hD9⟩, hS.F ht⟩) hS.2.2 dX8_next_319
            · refine zz_seti (nI qj_14) er_14 ?_
              refine va_put (D := (dC, dI)) (ci := 8) (v := .int (nI qj_14)) (ty := .int) (C := RX8) (T := TX8) (N := 49) hx hb hw zz_inX8 tyX8 tyX8_ok nmX8 hown hK hP hD hS 0 rfl rfl 5 (by decide) (hw _ tw_303) (fun _ h9 => h9) rfl (by decide +kernel) rfl rfl (Nat.le_of_ble_eq_true rfl) dX8_next_165 (fun H locs hP hD hS => ?_)
              have hP : va_P (dC, dI) vwCl [(b 0, .inr (8, [.ref (b 1), .int (nI mt), .int (nI j), .int (nI k), .int so, .int (nI qj_14), .int wr, .int wa, .int (gg 8), .int (gg 9), .ref (b 11), .ref (b 12), .ref (b 13), .int (nI mc), .int (nI mh), .ref (b 16), .ref (b 17), .ref (b 18), .ref (b 19), .ref (b 20), .ref (b 21), .ref (b 22), .ref (b 23), .ref (b 24), .int (nI mf), .ref (b 26), .ref (b 27), .ref (b 28), .ref (b 29), .ref (b 30), .ref (b 31), .ref (b 32), .int (gg 32), .int (nI md), .ref (b 35), .ref (b 36), .ref (b 37), .ref (b 38), .ref (b 39), .ref (b 40), .int (gg 40), .ref (b 42), .ref (b 43), .ref (b 44), .int (gg 44), .ref (b 46), .ref (b 47), .int (gg 47), .ref (b 49)])), (b 1, .inl (cB, 200, .inl ta))] H := hP
              have hD : va_D A [(b 0, .inr (8, [.ref (b 1), .int (nI mt), .int (nI j), .int (nI k), .int so, .int (nI qj_14), .int wr, .int wa, .int (gg 8), .int (gg 9), .ref (b 11), .ref (b 12), .ref (b 13), .int (nI mc), .int (nI mh), .ref (b 16), .ref (b 17), .ref (b 18), .ref (b 19), .ref (b 20), .ref (b 21), .ref (b 22), .ref (b 23), .ref (b 24), .int (nI mf), .ref (b 26), .ref (b 27), .ref (b 28), .ref (b 29), .ref (b 30), .ref (b 31), .ref (b 32), .int (gg 32), .int (nI md), .ref (b 35), .ref (b 36), .ref (b 37), .ref (b 38), .ref (b 39), .ref (b 40), .int (gg 40), .ref (b 42), .ref (b 43), .ref (b 44), .int (gg 44), .ref (b 46), .ref (b 47), .int (gg 47), .ref (b 49)])), (b 1, .inl (cB, 200, .inl ta))] := hD
              refine lv_aload_n hx hb dX8_next_168 rfl (lv_at hl 0 rfl) ?_
              refine lv_aload_n hx hb dX8_next_169 rfl (lv_at hl 0 rfl) ?_
              refine va_get (D := (dC, dI)) (ci := 8) (v := .int (nI qj_14)) (C := RX8) (T := TX8) (N := 49) hx hb hw zz_inX8 hown hK hP 0 rfl rfl 5 (by decide) (hw _ tw_303) (fun _ h9 => h9) rfl dX8_next_170 ?_
              refine lv_if_ge (tgt := 180) hx hb dX8_next_173 (by decide) (fun _ => ?_) (fun c_15 => absurd c_15 (fun h9 => h9 (by rw [Int32.le_iff_toInt_le, zz_toInt qj_14 (by omega), show (0 : Int32).toInt = 0 from by decide]; omega)))
              refine lv_iconst (v := 1) hx hb dX8_next_180 (by decide) ?_
              refine va_put (D := (dC, dI)) (ci := 8) (v := .int 1) (ty := .int) (C := RX8) (T := TX8) (N := 49) hx hb hw zz_inX8 tyX8 tyX8_ok nmX8 hown hK hP hD hS 0 rfl rfl 4 (by decide) (hw _ tw_302) (fun _ h9 => h9) rfl (by decide +kernel) rfl rfl (Nat.le_of_ble_eq_true rfl) dX8_next_181 (fun H locs hP hD hS => ?_)
              have hP : va_P (dC, dI) vwCl [(b 0, .inr (8, [.ref (b 1), .int (nI mt), .int (nI j), .int (nI k), .int 1, .int (nI qj_14), .int wr, .int wa, .int (gg 8), .int (gg 9), .ref (b 11), .ref (b 12), .ref (b 13), .int (nI mc), .int (nI mh), .ref (b 16), .ref (b 17), .ref (b 18), .ref (b 19), .ref (b 20), .ref (b 21), .ref (b 22), .ref (b 23), .ref (b 24), .int (nI mf), .ref (b 26), .ref (b 27), .ref (b 28), .ref (b 29), .ref (b 30), .ref (b 31), .ref (b 32), .int (gg 32), .int (nI md), .ref (b 35), .ref (b 36), .ref (b 37), .ref (b 38), .ref (b 39), .ref (b 40), .int (gg 40), .ref (b 42), .ref (b 43), .ref (b 44), .int (gg 44), .ref (b 46), .ref (b 47), .int (gg 47), .ref (b 49)])), (b 1, .inl (cB, 200, .inl ta))] H := hP
              have hD : va_D A [(b 0, .inr (8, [.ref (b 1), .int (nI mt), .int (nI j), .int (nI k), .int 1, .int (nI qj_14), .int wr, .int wa, .int (gg 8), .int (gg 9), .ref (b 11), .ref (b 12), .ref (b 13), .int (nI mc), .int (nI mh), .ref (b 16), .ref (b 17), .ref (b 18), .ref (b 19), .ref (b 20), .ref (b 21), .ref (b 22), .ref (b 23), .ref (b 24), .int (nI mf), .ref (b 26), .ref (b 27), .ref (b 28), .ref (b 29), .ref (b 30), .ref (b 31), .ref (b 32), .int (gg 32), .int (nI md), .ref (b 35), .ref (b 36), .ref (b 37), .ref (b 38), .ref (b 39), .ref (b 40), .int (gg 40), .ref (b 42), .ref (b 43), .ref (b 44), .int (gg 44), .ref (b 46), .ref (b 47), .int (gg 47), .ref (b 49)])), (b 1, .inl (cB, 200, .inl ta))] := hD
              refine lv_goto (tgt := 319) hx hb dX8_next_184 (by decide) ?_
              have hP9 := hP.sub (ws' := [(b 0, .inr (8, [.ref (b 1), .int (nI mt), .int (nI j), .int (nI k), .int 1, .int (nI qj_14), .int wr, .int wa, .int (gg 8), .int (gg 9), .ref (b 11), .ref (b 12), .ref (b 13), .int (nI mc), .int (nI mh), .ref (b 16), .ref (b 17), .ref (b 18), .ref (b 19), .ref (b 20), .ref (b 21), .ref (b 22), .ref (b 23), .ref (b 24), .int (nI mf), .ref (b 26), .ref (b 27), .ref (b 28), .ref (b 29), .ref (b 30), .ref (b 31), .ref (b 32), .int (gg 32), .int (nI md), .ref (b 35), .ref (b 36), .ref (b 37), .ref (b 38), .ref (b 39), .ref (b 40), .int (gg 40), .ref (b 42), .ref (b 43), .ref (b 44), .int (gg 44), .ref (b 46), .ref (b 47), .int (gg 47), .ref (b 49)])), (b 1, .inl (cB, 200, .inl ta))]) [0, 1] rfl
              have hD9 := hD.sub (ws' := [(b 0, .inr (8, [.ref (b 1), .int (nI mt), .int (nI j), .int (nI k), .int 1, .int (nI qj_14), .int wr, .int wa, .int (gg 8), .int (gg 9), .ref (b 11), .ref (b 12), .ref (b 13), .int (nI mc), .int (nI mh), .ref (b 16), .ref (b 17), .ref (b 18), .ref (b 19), .ref (b 20), .ref (b 21), .ref (b 22), .ref (b 23), .ref (b 24), .int (nI mf), .ref (b 26), .ref (b 27), .ref (b 28), .ref (b 29), .ref (b 30), .ref (b 31), .ref (b 32), .int (gg 32), .int (nI md), .ref (b 35), .ref (b 36), .ref (b 37), .ref (b 38), .ref (b 39), .ref (b 40), .int (gg 40), .ref (b 42), .ref (b 43), .ref (b 44), .int (gg 44), .ref (b 46), .ref (b 47), .int (gg 47), .ref (b 49)])), (b 1, .inl (cB, 200, .inl ta))]) [0, 1] (by decide) rfl
              have hK9 := hK.sub (tys' := [(cB, .byte)]) [0] rfl
              exact W.vret hx hb hr (fun t ht hW => ⟨⟨(j, (nI k), 1, (nI qj_14)), rfl, ⟨by omega, by omega, Or.inr (by omega), fun _ => ⟨qj_14, by omega, rfl⟩⟩, by rw [ht]; exact hP9, va_K.moved hW.alike hK9, hD9⟩, hS.F ht⟩) hS.2.2 dX8_next_319
          · have zc_13 := c_13
            rw [Int32.le_iff_toInt_le] at zc_13
            try rw [zz_toInt nn (by omega)] at zc_13
            try rw [show (5 : Int32).toInt = 5 from by decide] at zc_13
            refine lv_iconst (v := (-1)) hx hb dX8_next_157 (by decide) ?_
            refine lv_goto (tgt := 165) hx hb dX8_next_158 (by decide) ?_
            refine va_put (D := (dC, dI)) (ci := 8) (v := .int (-1)) (ty := .int) (C := RX8) (T := TX8) (N := 49) hx hb hw zz_inX8 tyX8 tyX8_ok nmX8 hown hK hP hD hS 0 rfl rfl 5 (by decide) (hw _ tw_303) (fun _ h9 => h9) rfl (by decide +kernel) rfl rfl (Nat.le_of_ble_eq_true rfl) dX8_next_165 (fun H locs hP hD hS => ?_)
            have hP : va_P (dC, dI) vwCl [(b 0, .inr (8, [.ref (b 1), .int (nI mt), .int (nI j), .int (nI k), .int so, .int (-1), .int wr, .int wa, .int (gg 8), .int (gg 9), .ref (b 11), .ref (b 12), .ref (b 13), .int (nI mc), .int (nI mh), .ref (b 16), .ref (b 17), .ref (b 18), .ref (b 19), .ref (b 20), .ref (b 21), .ref (b 22), .ref (b 23), .ref (b 24), .int (nI mf), .ref (b 26), .ref (b 27), .ref (b 28), .ref (b 29), .ref (b 30), .ref (b 31), .ref (b 32), .int (gg 32), .int (nI md), .ref (b 35), .ref (b 36), .ref (b 37), .ref (b 38), .ref (b 39), .ref (b 40), .int (gg 40), .ref (b 42), .ref (b 43), .ref (b 44), .int (gg 44), .ref (b 46), .ref (b 47), .int (gg 47), .ref (b 49)])), (b 1, .inl (cB, 200, .inl ta))] H := hP
            have hD : va_D A [(b 0, .inr (8, [.ref (b 1), .int (nI mt), .int (nI j), .int (nI k), .int so, .int (-1), .int wr, .int wa, .int (gg 8), .int (gg 9), .ref (b 11), .ref (b 12), .ref (b 13), .int (nI mc), .int (nI mh), .ref (b 16), .ref (b 17), .ref (b 18), .ref (b 19), .ref (b 20), .ref (b 21), .ref (b 22), .ref (b 23), .ref (b 24), .int (nI mf), .ref (b 26), .ref (b 27), .ref (b 28), .ref (b 29), .ref (b 30), .ref (b 31), .ref (b 32), .int (gg 32), .int (nI md), .ref (b 35), .ref (b 36), .ref (b 37), .ref (b 38), .ref (b 39), .ref (b 40), .int (gg 40), .ref (b 42), .ref (b 43), .ref (b 44), .int (gg 44), .ref (b 46), .ref (b 47), .int (gg 47), .ref (b 49)])), (b 1, .inl (cB, 200, .inl ta))] := hD
            refine lv_aload_n hx hb dX8_next_168 rfl (lv_at hl 0 rfl) ?_
            refine lv_aload_n hx hb dX8_next_169 rfl (lv_at hl 0 rfl) ?_
            refine va_get (D := (dC, dI)) (ci := 8) (v := .int (-1)) (C := RX8) (T := TX8) (N := 49) hx hb hw zz_inX8 hown hK hP 0 rfl rfl 5 (by decide) (hw _ tw_303) (fun _ h9 => h9) rfl dX8_next_170 ?_
            refine lv_if_ge (tgt := 180) hx hb dX8_next_173 (by decide) (fun c_9 => absurd c_9 (by decide)) (fun _ => ?_)
            refine lv_iconst (v := 4) hx hb dX8_next_176 (by decide) ?_
            refine lv_goto (tgt := 181) hx hb dX8_next_177 (by decide) ?_
            refine va_put (D := (dC, dI)) (ci := 8) (v := .int 4) (ty := .int) (C := RX8) (T := TX8) (N := 49) hx hb hw zz_inX8 tyX8 tyX8_ok nmX8 hown hK hP hD hS 0 rfl rfl 4 (by decide) (hw _ tw_302) (fun _ h9 => h9) rfl (by decide +kernel) rfl rfl (Nat.le_of_ble_eq_true rfl) dX8_next_181 (fun H locs hP hD hS => ?_)
            have hP : va_P (dC, dI) vwCl [(b 0, .inr (8, [.ref (b 1), .int (nI mt), .int (nI j), .int (nI k), .int 4, .int (-1), .int wr, .int wa, .int (gg 8), .int (gg 9), .ref (b 11), .ref (b 12), .ref (b 13), .int (nI mc), .int (nI mh), .ref (b 16), .ref (b 17), .ref (b 18), .ref (b 19), .ref (b 20), .ref (b 21), .ref (b 22), .ref (b 23), .ref (b 24), .int (nI mf), .ref (b 26), .ref (b 27), .ref (b 28), .ref (b 29), .ref (b 30), .ref (b 31), .ref (b 32), .int (gg 32), .int (nI md), .ref (b 35), .ref (b 36), .ref (b 37), .ref (b 38), .ref (b 39), .ref (b 40), .int (gg 40), .ref (b 42), .ref (b 43), .ref (b 44), .int (gg 44), .ref (b 46), .ref (b 47), .int (gg 47), .ref (b 49)])), (b 1, .inl (cB, 200, .inl ta))] H := hP
            have hD : va_D A [(b 0, .inr (8, [.ref (b 1), .int (nI mt), .int (nI j), .int (nI k), .int 4, .int (-1), .int wr, .int wa, .int (gg 8), .int (gg 9), .ref (b 11), .ref (b 12), .ref (b 13), .int (nI mc), .int (nI mh), .ref (b 16), .ref (b 17), .ref (b 18), .ref (b 19), .ref (b 20), .ref (b 21), .ref (b 22), .ref (b 23), .ref (b 24), .int (nI mf), .ref (b 26), .ref (b 27), .ref (b 28), .ref (b 29), .ref (b 30), .ref (b 31), .ref (b 32), .int (gg 32), .int (nI md), .ref (b 35), .ref (b 36), .ref (b 37), .ref (b 38), .ref (b 39), .ref (b 40), .int (gg 40), .ref (b 42), .ref (b 43), .ref (b 44), .int (gg 44), .ref (b 46), .ref (b 47), .int (gg 47), .ref (b 49)])), (b 1, .inl (cB, 200, .inl ta))] := hD
            refine lv_goto (tgt := 319) hx hb dX8_next_184 (by decide) ?_
            have hP9 := hP.sub (ws' := [(b 0, .inr (8, [.ref (b 1), .int (nI mt), .int (nI j), .int (nI k), .int 4, .int (-1), .int wr, .int wa, .int (gg 8), .int (gg 9), .ref (b 11), .ref (b 12), .ref (b 13), .int (nI mc), .int (nI mh), .ref (b 16), .ref (b 17), .ref (b 18), .ref (b 19), .ref (b 20), .ref (b 21), .ref (b 22), .ref (b 23), .ref (b 24), .int (nI mf), .ref (b 26), .ref (b 27), .ref (b 28), .ref (b 29), .ref (b 30), .ref (b 31), .ref (b 32), .int (gg 32), .int (nI md), .ref (b 35), .ref (b 36), .ref (b 37), .ref (b 38), .ref (b 39), .ref (b 40), .int (gg 40), .ref (b 42), .ref (b 43), .ref (b 44), .int (gg 44), .ref (b 46), .ref (b 47), .int (gg 47), .ref (b 49)])), (b 1, .inl (cB, 200, .inl ta))]) [0, 1] rfl
            have hD9 := hD.sub (ws' := [(b 0, .inr (8, [.ref (b 1), .int (nI mt), .int (nI j), .int (nI k), .int 4, .int (-1), .int wr, .int wa, .int (gg 8), .int (gg 9), .ref (b 11), .ref (b 12), .ref (b 13), .int (nI mc), .int (nI mh), .ref (b 16), .ref (b 17), .ref (b 18), .ref (b 19), .ref (b 20), .ref (b 21), .ref (b 22), .ref (b 23), .ref (b 24), .int (nI mf), .ref (b 26), .ref (b 27), .ref (b 28), .ref (b 29), .ref (b 30), .ref (b 31), .ref (b 32), .int (gg 32), .int (nI md), .ref (b 35), .ref (b 36), .ref (b 37), .ref (b 38), .ref (b 39), .ref (b 40), .int (gg 40), .ref (b 42), .ref (b 43), .ref (b 44), .int (gg 44), .ref (b 46), .ref (b 47), .int (gg 47), .ref (b 49)])), (b 1, .inl (cB, 200, .inl ta))]) [0, 1] (by decide) rfl
            have hK9 := hK.sub (tys' := [(cB, .byte)]) [0] rfl
            exact W.vret hx hb hr (fun t ht hW => ⟨⟨(j, (nI k), 4, (-1)), rfl, ⟨by omega, by omega, Or.inr (by omega), fun h9 => absurd h9 (by decide)⟩, by rw [ht]; exact hP9, va_K.moved hW.alike hK9, hD9⟩, hS.F ht⟩) hS.2.2 dX8_next_319
        · have zc_12 := c_12
          rw [Int32.le_iff_toInt_le] at zc_12
          try rw [zz_toInt j (by omega)] at zc_12
          try rw [zz_toInt ml (by omega)] at zc_12
          refine lv_aload_n hx hb dX8_next_87 rfl (lv_at hl 0 rfl) ?_
          refine va_get (D := (dC, dI)) (ci := 8) (v := .ref (b 1)) (C := RX8) (T := TX8) (N := 49) hx hb hw zz_inX8 hown hK hP 0 rfl rfl 0 (by decide) (hw _ tw_191) (fun _ h9 => h9) rfl dX8_next_88 ?_
          refine lv_aload_n hx hb dX8_next_91 rfl (lv_at hl 0 rfl) ?_
          refine va_get (D := (dC, dI)) (ci := 8) (v := .int (nI j)) (C := RX8) (T := TX8) (N := 49) hx hb hw zz_inX8 hown hK hP 0 rfl rfl 2 (by decide) (hw _ tw_296) (fun _ h9 => h9) rfl dX8_next_92 ?_
          refine va_bald hx hb hK hP 1 0 rfl rfl (vp_in_iff.mpr (by rw [zz_toInt j (by omega)]; constructor <;> omega)) dX8_next_95 ?_
          have hPc := hP.sub (ws' := []) [] rfl
          have hDc := hD.sub (ws' := []) [] (by decide) rfl
          have hKc := hK.sub (tys' := []) [] rfl
          have hFc := zz_free0 hS hA
          refine va_calli (va_runS (As := [.int (ta (Int32.toNatClampNeg (nI j)))]) (rest := []) ⟨hx, hb, hml, hown, hw⟩ (m_isLetter l dC dI (ta (Int32.toNatClampNeg (nI j))) H.size) ⟨callB_of 1 hw (zz_good tw_297) rfl rfl rfl (hw _ tw_184) (hw _ tw_298) (by decide +kernel) ⟨Nat.le_of_ble_eq_true rfl, Nat.le_of_ble_eq_true rfl⟩, (hw _ tw_299)⟩ ⟨zz_blind, zz_pre hPc hKc hDc hN⟩ rfl rfl hl.1 rfl (lv_room (Nat.le_of_ble_eq_true rfl)) dX8_next_96 ⟨Nat.le_of_ble_eq_true rfl, Nat.le_of_ble_eq_true rfl⟩) hS (fun q _ h => hFc q h) hFc (fun r_16 u_16 t H1 locs ht hvm e_16 hB hz1 hk1 hS => ?_)
          try dsimp only at e_16
          have hP := zz_keep hP hk1
          clear hk1 hB ht hvm
          generalize H1 = H at hP hS ⊢
          refine lv_if_eq (tgt := 150) hx hb dX8_next_99 (by decide) (fun c_17 => ?_) (fun c_17 => ?_)
          · have zc_17 := c_17
            rw [← Int32.toInt_inj] at zc_17
            try rw [show (0 : Int32).toInt = 0 from by decide] at zc_17
            have hadv : k < j := zz_adv (f := ta) (F := zz_il) e_3 c_4 e_16 c_17 (by omega)
            refine lv_aload_n hx hb dX8_next_150 rfl (lv_at hl 0 rfl) ?_
            refine lv_iload hx hb dX8_next_151 (lv_at hl 4 rfl) ?_
            refine lv_iconst (v := 5) hx hb dX8_next_153 (by decide) ?_
            refine lv_icmp_le (tgt := 161) hx hb dX8_next_154 (by decide) (fun c_18 => ?_) (fun c_18 => ?_)
            · have zc_18 := c_18
              rw [Int32.le_iff_toInt_le] at zc_18
              try rw [zz_toInt nn (by omega)] at zc_18
              try rw [show (5 : Int32).toInt = 5 from by decide] at zc_18
              refine lv_lload_n hx hb dX8_next_161 rfl (lv_at hl 3 rfl) ?_
              have hPc := hP.sub (ws' := []) [] rfl
              have hDc := hD.sub (ws' := []) [] (by decide) rfl
              have hKc := hK.sub (tys' := []) [] rfl
              have hFc := zz_free0 hS hA
              refine va_calli (va_runS (As := [.long y]) (rest := [.ref (b 0)]) ⟨hx, hb, hml, hown, hw⟩ (m_wordOf l dC dI y H.size) ⟨callB_of 1 hw (zz_good tw_305) rfl rfl rfl (hw _ tw_184) (hw _ tw_306) (by decide +kernel) ⟨Nat.le_of_ble_eq_true rfl, Nat.le_of_ble_eq_true rfl⟩, (hw _ tw_307)⟩ ⟨zz_blind, zz_pre hPc hKc hDc hN⟩ rfl rfl hl.1 rfl (lv_room (Nat.le_of_ble_eq_true rfl)) dX8_next_162 ⟨Nat.le_of_ble_eq_true rfl, Nat.le_of_ble_eq_true rfl⟩) hS (fun q _ h => hFc q h) hFc (fun r_19 u_19 t H1 locs ht hvm e_19 hB hz1 hk1 hS => ?_)
              try dsimp only at e_19
              have hP := zz_keep hP hk1
              clear hk1 hB ht hvm
              generalize H1 = H at hP hS ⊢
              rcases e_19 with er_19 | ⟨qj_19, hj_19, er_19⟩
              · refine zz_seti (-1) er_19 ?_
                refine va_put (D := (dC, dI)) (ci := 8) (v := .int (-1)) (ty := .int) (C := RX8) (T := TX8) (N := 49) hx hb hw zz_inX8 tyX8 tyX8_ok nmX8 hown hK hP hD hS 0 rfl rfl 5 (by decide) (hw _ tw_303) (fun _ h9 => h9) rfl (by decide +kernel) rfl rfl (Nat.le_of_ble_eq_true rfl) dX8_next_165 (fun H locs hP hD hS => ?_)
                have hP : va_P (dC, dI) vwCl [(b 0, .inr (8, [.ref (b 1), .int (nI mt), .int (nI j), .int (nI k), .int so, .int (-1), .int wr, .int wa, .int (gg 8), .int (gg 9), .ref (b 11), .ref (b 12), .ref (b 13), .int (nI mc), .int (nI mh), .ref (b 16), .ref (b 17), .ref (b 18), .ref (b 19), .ref (b 20), .ref (b 21), .ref (b 22), .ref (b 23), .ref (b 24), .int (nI mf), .ref (b 26), .ref (b 27), .ref (b 28), .ref (b 29), .ref (b 30), .ref (b 31), .ref (b 32), .int (gg 32), .int (nI md), .ref (b 35), .ref (b 36), .ref (b 37), .ref (b 38), .ref (b 39), .ref (b 40), .int (gg 40), .ref (b 42), .ref (b 43), .ref (b 44), .int (gg 44), .ref (b 46), .ref (b 47), .int (gg 47), .ref (b 49)])), (b 1, .inl (cB, 200, .inl ta))] H := hP
                have hD : va_D A [(b 0, .inr (8, [.ref (b 1), .int (nI mt), .int (nI j), .int (nI k), .int so, .int (-1), .int wr, .int wa, .int (gg 8), .int (gg 9), .ref (b 11), .ref (b 12), .ref (b 13), .int (nI mc), .int (nI mh), .ref (b 16), .ref (b 17), .ref (b 18), .ref (b 19), .ref (b 20), .ref (b 21), .ref (b 22), .ref (b 23), .ref (b 24), .int (nI mf), .ref (b 26), .ref (b 27), .ref (b 28), .ref (b 29), .ref (b 30), .ref (b 31), .ref (b 32), .int (gg 32), .int (nI md), .ref (b 35), .ref (b 36), .ref (b 37), .ref (b 38), .ref (b 39), .ref (b 40), .int (gg 40), .ref (b 42), .ref (b 43), .ref (b 44), .int (gg 44), .ref (b 46), .ref (b 47), .int (gg 47), .ref (b 49)])), (b 1, .inl (cB, 200, .inl ta))] := hD
                refine lv_aload_n hx hb dX8_next_168 rfl (lv_at hl 0 rfl) ?_
                refine lv_aload_n hx hb dX8_next_169 rfl (lv_at hl 0 rfl) ?_
                refine va_get (D := (dC, dI)) (ci := 8) (v := .int (-1)) (C := RX8) (T := TX8) (N := 49) hx hb hw zz_inX8 hown hK hP 0 rfl rfl 5 (by decide) (hw _ tw_303) (fun _ h9 => h9) rfl dX8_next_170 ?_
                refine lv_if_ge (tgt := 180) hx hb dX8_next_173 (by decide) (fun c_9 => absurd c_9 (by decide)) (fun _ => ?_)
                refine lv_iconst (v := 4) hx hb dX8_next_176 (by decide) ?_
                refine lv_goto (tgt := 181) hx hb dX8_next_177 (by decide) ?_
                refine va_put (D := (dC, dI)) (ci := 8) (v := .int 4) (ty := .int) (C := RX8) (T := TX8) (N := 49) hx hb hw zz_inX8 tyX8 tyX8_ok nmX8 hown hK hP hD hS 0 rfl rfl 4 (by decide) (hw _ tw_302) (fun _ h9 => h9) rfl (by decide +kernel) rfl rfl (Nat.le_of_ble_eq_true rfl) dX8_next_181 (fun H locs hP hD hS => ?_)
                have hP : va_P (dC, dI) vwCl [(b 0, .inr (8, [.ref (b 1), .int (nI mt), .int (nI j), .int (nI k), .int 4, .int (-1), .int wr, .int wa, .int (gg 8), .int (gg 9), .ref (b 11), .ref (b 12), .ref (b 13), .int (nI mc), .int (nI mh), .ref (b 16), .ref (b 17), .ref (b 18), .ref (b 19), .ref (b 20), .ref (b 21), .ref (b 22), .ref (b 23), .ref (b 24), .int (nI mf), .ref (b 26), .ref (b 27), .ref (b 28), .ref (b 29), .ref (b 30), .ref (b 31), .ref (b 32), .int (gg 32), .int (nI md), .ref (b 35), .ref (b 36), .ref (b 37), .ref (b 38), .ref (b 39), .ref (b 40), .int (gg 40), .ref (b 42), .ref (b 43), .ref (b 44), .int (gg 44), .ref (b 46), .ref (b 47), .int (gg 47), .ref (b 49)])), (b 1, .inl (cB, 200, .inl ta))] H := hP
                have hD : va_D A [(b 0, .inr (8, [.ref (b 1), .int (nI mt), .int (nI j), .int (nI k), .int 4, .int (-1), .int wr, .int wa, .int (gg 8), .int (gg 9), .ref (b 11), .ref (b 12), .ref (b 13), .int (nI mc), .int (nI mh), .ref (b 16), .ref (b 17), .ref (b 18), .ref (b 19), .ref (b 20), .ref (b 21), .ref (b 22), .ref (b 23), .ref (b 24), .int (nI mf), .ref (b 26), .ref (b 27), .ref (b 28), .ref (b 29), .ref (b 30), .ref (b 31), .ref (b 32), .int (gg 32), .int (nI md), .ref (b 35), .ref (b 36), .ref (b 37), .ref (b 38), .ref (b 39), .ref (b 40), .int (gg 40), .ref (b 42), .ref (b 43), .ref (b 44), .int (gg 44), .ref (b 46), .ref (b 47), .int (gg 47), .ref (b 49)])), (b 1, .inl (cB, 200, .inl ta))] := hD
                refine lv_goto (tgt := 319) hx hb dX8_next_184 (by decide) ?_
                have hP9 := hP.sub (ws' := [(b 0, .inr (8, [.ref (b 1), .int (nI mt), .int (nI j), .int (nI k), .int 4, .int (-1), .int wr, .int wa, .int (gg 8), .int (gg 9), .ref (b 11), .ref (b 12), .ref (b 13), .int (nI mc), .int (nI mh), .ref (b 16), .ref (b 17), .ref (b 18), .ref (b 19), .ref (b 20), .ref (b 21), .ref (b 22), .ref (b 23), .ref (b 24), .int (nI mf), .ref (b 26), .ref (b 27), .ref (b 28), .ref (b 29), .ref (b 30), .ref (b 31), .ref (b 32), .int (gg 32), .int (nI md), .ref (b 35), .ref (b 36), .ref (b 37), .ref (b 38), .ref (b 39), .ref (b 40), .int (gg 40), .ref (b 42), .ref (b 43), .ref (b 44), .int (gg 44), .ref (b 46), .ref (b 47), .int (gg 47), .ref (b 49)])), (b 1, .inl (cB, 200, .inl ta))]) [0, 1] rfl
                have hD9 := hD.sub (ws' := [(b 0, .inr (8, [.ref (b 1), .int (nI mt), .int (nI j), .int (nI k), .int 4, .int (-1), .int wr, .int wa, .int (gg 8), .int (gg 9), .ref (b 11), .ref (b 12), .ref (b 13), .int (nI mc), .int (nI mh), .ref (b 16), .ref (b 17), .ref (b 18), .ref (b 19), .ref (b 20), .ref (b 21), .ref (b 22), .ref (b 23), .ref (b 24), .int (nI mf), .ref (b 26), .ref (b 27), .ref (b 28), .ref (b 29), .ref (b 30), .ref (b 31), .ref (b 32), .int (gg 32), .int (nI md), .ref (b 35), .ref (b 36), .ref (b 37), .ref (b 38), .ref (b 39), .ref (b 40), .int (gg 40), .ref (b 42), .ref (b 43), .ref (b 44), .int (gg 44), .ref (b 46), .ref (b 47), .int (gg 47), .ref (b 49)])), (b 1, .inl (cB, 200, .inl ta))]) [0, 1] (by decide) rfl
                have hK9 := hK.sub (tys' := [(cB, .byte)]) [0] rfl
                exact W.vret hx hb hr (fun t ht hW => ⟨⟨(j, (nI k), 4, (-1)), rfl, ⟨by omega, by omega, Or.inr (by omega), fun h9 => absurd h9 (by decide)⟩, by rw [ht]; exact hP9, va_K.moved hW.alike hK9, hD9⟩, hS.F ht⟩) hS.2.2 dX8_next_319
              · refine zz_seti (nI qj_19) er_19 ?_
                refine va_put (D := (dC, dI)) (ci := 8) (v := .int (nI qj_19)) (ty := .int) (C := RX8) (T := TX8) (N := 49) hx hb hw zz_inX8 tyX8 tyX8_ok nmX8 hown hK hP hD hS 0 rfl rfl 5 (by decide) (hw _ tw_303) (fun _ h9 => h9) rfl (by decide +kernel) rfl rfl (Nat.le_of_ble_eq_true rfl) dX8_next_165 (fun H locs hP hD hS => ?_)
                have hP : va_P (dC, dI) vwCl [(b 0, .inr (8, [.ref (b 1), .int (nI mt), .int (nI j), .int (nI k), .int so, .int (nI qj_19), .int wr, .int wa, .int (gg 8), .int (gg 9), .ref (b 11), .ref (b 12), .ref (b 13), .int (nI mc), .int (nI mh), .ref (b 16), .ref (b 17), .ref (b 18), .ref (b 19), .ref (b 20), .ref (b 21), .ref (b 22), .ref (b 23), .ref (b 24), .int (nI mf), .ref (b 26), .ref (b 27), .ref (b 28), .ref (b 29), .ref (b 30), .ref (b 31), .ref (b 32), .int (gg 32), .int (nI md), .ref (b 35), .ref (b 36), .ref (b 37), .ref (b 38), .ref (b 39), .ref (b 40), .int (gg 40), .ref (b 42), .ref (b 43), .ref (b 44), .int (gg 44), .ref (b 46), .ref (b 47), .int (gg 47), .ref (b 49)])), (b 1, .inl (cB, 200, .inl ta))] H := hP
                have hD : va_D A [(b 0, .inr (8, [.ref (b 1), .int (nI mt), .int (nI j), .int (nI k), .int so, .int (nI qj_19), .int wr, .int wa, .int (gg 8), .int (gg 9), .ref (b 11), .ref (b 12), .ref (b 13), .int (nI mc), .int (nI mh), .ref (b 16), .ref (b 17), .ref (b 18), .ref (b 19), .ref (b 20), .ref (b 21), .ref (b 22), .ref (b 23), .ref (b 24), .int (nI mf), .ref (b 26), .ref (b 27), .ref (b 28), .ref (b 29), .ref (b 30), .ref (b 31), .ref (b 32), .int (gg 32), .int (nI md), .ref (b 35), .ref (b 36), .ref (b 37), .ref (b 38), .ref (b 39), .ref (b 40), .int (gg 40), .ref (b 42), .ref (b 43), .ref (b 44), .int (gg 44), .ref (b 46), .ref (b 47), .int (gg 47), .ref (b 49)])), (b 1, .inl (cB, 200, .inl ta))] := hD
                refine lv_aload_n hx hb dX8_next_168 rfl (lv_at hl 0 rfl) ?_
                refine lv_aload_n hx hb dX8_next_169 rfl (lv_at hl 0 rfl) ?_
                refine va_get (D := (dC, dI)) (ci := 8) (v := .int (nI qj_19)) (C := RX8) (T := TX8) (N := 49) hx hb hw zz_inX8 hown hK hP 0 rfl rfl 5 (by decide) (hw _ tw_303) (fun _ h9 => h9) rfl dX8_next_170 ?_
                refine lv_if_ge (tgt := 180) hx hb dX8_next_173 (by decide) (fun _ => ?_) (fun c_20 => absurd c_20 (fun h9 => h9 (by rw [Int32.le_iff_toInt_le, zz_toInt qj_19 (by omega), show (0 : Int32).toInt = 0 from by decide]; omega)))
                refine lv_iconst (v := 1) hx hb dX8_next_180 (by decide) ?_
                refine va_put (D := (dC, dI)) (ci := 8) (v := .int 1) (ty := .int) (C := RX8) (T := TX8) (N := 49) hx hb hw zz_inX8 tyX8 tyX8_ok nmX8 hown hK hP hD hS 0 rfl rfl 4 (by decide) (hw _ tw_302) (fun _ h9 => h9) rfl (by decide +kernel) rfl rfl (Nat.le_of_ble_eq_true rfl) dX8_next_181 (fun H locs hP hD hS => ?_)
                have hP : va_P (dC, dI) vwCl [(b 0, .inr (8, [.ref (b 1), .int (nI mt), .int (nI j), .int (nI k), .int 1, .int (nI qj_19), .int wr, .int wa, .int (gg 8), .int (gg 9), .ref (b 11), .ref (b 12), .ref (b 13), .int (nI mc), .int (nI mh), .ref (b 16), .ref (b 17), .ref (b 18), .ref (b 19), .ref (b 20), .ref (b 21), .ref (b 22), .ref (b 23), .ref (b 24), .int (nI mf), .ref (b 26), .ref (b 27), .ref (b 28), .ref (b 29), .ref (b 30), .ref (b 31), .ref (b 32), .int (gg 32), .int (nI md), .ref (b 35), .ref (b 36), .ref (b 37), .ref (b 38), .ref (b 39), .ref (b 40), .int (gg 40), .ref (b 42), .ref (b 43), .ref (b 44), .int (gg 44), .ref (b 46), .ref (b 47), .int (gg 47), .ref (b 49)])), (b 1, .inl (cB, 200, .inl ta))] H := hP
                have hD : va_D A [(b 0, .inr (8, [.ref (b 1), .int (nI mt), .int (nI j), .int (nI k), .int 1, .int (nI qj_19), .int wr, .int wa, .int (gg 8), .int (gg 9), .ref (b 11), .ref (b 12), .ref (b 13), .int (nI mc), .int (nI mh), .ref (b 16), .ref (b 17), .ref (b 18), .ref (b 19), .ref (b 20), .ref (b 21), .ref (b 22), .ref (b 23), .ref (b 24), .int (nI mf), .ref (b 26), .ref (b 27), .ref (b 28), .ref (b 29), .ref (b 30), .ref (b 31), .ref (b 32), .int (gg 32), .int (nI md), .ref (b 35), .ref (b 36), .ref (b 37), .ref (b 38), .ref (b 39), .ref (b 40), .int (gg 40), .ref (b 42), .ref (b 43), .ref (b 44), .int (gg 44), .ref (b 46), .ref (b 47), .int (gg 47), .ref (b 49)])), (b 1, .inl (cB, 200, .inl ta))] := hD
                refine lv_goto (tgt := 319) hx hb dX8_next_184 (by decide) ?_
                have hP9 := hP.sub (ws' := [(b 0, .inr (8, [.ref (b 1), .int (nI mt), .int (nI j), .int (nI k), .int 1, .int (nI qj_19), .int wr, .int wa, .int (gg 8), .int (gg 9), .ref (b 11), .ref (b 12), .ref (b 13), .int (nI mc), .int (nI mh), .ref (b 16), .ref (b 17), .ref (b 18), .ref (b 19), .ref (b 20), .ref (b 21), .ref (b 22), .ref (b 23), .ref (b 24), .int (nI mf), .ref (b 26), .ref (b 27), .ref (b 28), .ref (b 29), .ref (b 30), .ref (b 31), .ref (b 32), .int (gg 32), .int (nI md), .ref (b 35), .ref (b 36), .ref (b 37), .ref (b 38), .ref (b 39), .ref (b 40), .int (gg 40), .ref (b 42), .ref (b 43), .ref (b 44), .int (gg 44), .ref (b 46), .ref (b 47), .int (gg 47), .ref (b 49)])), (b 1, .inl (cB, 200, .inl ta))]) [0, 1] rfl
                have hD9 := hD.sub (ws' := [(b 0, .inr (8, [.ref (b 1), .int (nI mt), .int (nI j), .int (nI k), .int 1, .int (nI qj_19), .int wr, .int wa, .int (gg 8), .int (gg 9), .ref (b 11), .ref (b 12), .ref (b 13), .int (nI mc), .int (nI mh), .ref (b 16), .ref (b 17), .ref (b 18), .ref (b 19), .ref (b 20), .ref (b 21), .ref (b 22), .ref (b 23), .ref (b 24), .int (nI mf), .ref (b 26), .ref (b 27), .ref (b 28), .ref (b 29), .ref (b 30), .ref (b 31), .ref (b 32), .int (gg 32), .int (nI md), .ref (b 35), .ref (b 36), .ref (b 37), .ref (b 38), .ref (b 39), .ref (b 40), .int (gg 40), .ref (b 42), .ref (b 43), .ref (b 44), .int (gg 44), .ref (b 46), .ref (b 47), .int (gg 47), .ref (b 49)])), (b 1, .inl (cB, 200, .inl ta))]) [0, 1] (by decide) rfl
                have hK9 := hK.sub (tys' := [(cB, .byte)]) [0] rfl
                exact W.vret hx hb hr (fun t ht hW => ⟨⟨(j, (nI k), 1, (nI qj_19)), rfl, ⟨by omega, by omega, Or.inr (by omega), fun _ => ⟨qj_19, by omega, rfl⟩⟩, by rw [ht]; exact hP9, va_K.moved hW.alike hK9, hD9⟩, hS.F ht⟩) hS.2.2 dX8_next_319
            · have zc_18 := c_18
              rw [Int32.le_iff_toInt_le] at zc_18
              try rw [zz_toInt nn (by omega)] at zc_18
              try rw [show (5 : Int32).toInt = 5 from by decide] at zc_18
              refine lv_iconst (v := (-1)) hx hb dX8_next_157 (by decide) ?_
              refine lv_goto (tgt := 165) hx hb dX8_next_158 (by decide) ?_
              refine va_put (D := (dC, dI)) (ci := 8) (v := .int (-1)) (ty := .int) (C := RX8) (T := TX8) (N := 49) hx hb hw zz_inX8 tyX8 tyX8_ok nmX8 hown hK hP hD hS 0 rfl rfl 5 (by decide) (hw _ tw_303) (fun _ h9 => h9) rfl (by decide +kernel) rfl rfl (Nat.le_of_ble_eq_true rfl) dX8_next_165 (fun H locs hP hD hS => ?_)
              have hP : va_P (dC, dI) vwCl [(b 0, .inr (8, [.ref (b 1), .int (nI mt), .int (nI j), .int (nI k), .int so, .int (-1), .int wr, .int wa, .int (gg 8), .int (gg 9), .ref (b 11), .ref (b 12), .ref (b 13), .int (nI mc), .int (nI mh), .ref (b 16), .ref (b 17), .ref (b 18), .ref (b 19), .ref (b 20), .ref (b 21), .ref (b 22), .ref (b 23), .ref (b 24), .int (nI mf), .ref (b 26), .ref (b 27), .ref (b 28), .ref (b 29), .ref (b 30), .ref (b 31), .ref (b 32), .int (gg 32), .int (nI md), .ref (b 35), .ref (b 36), .ref (b 37), .ref (b 38), .ref (b 39), .ref (b 40), .int (gg 40), .ref (b 42), .ref (b 43), .ref (b 44), .int (gg 44), .ref (b 46), .ref (b 47), .int (gg 47), .ref (b 49)])), (b 1, .inl (cB, 200, .inl ta))] H := hP
              have hD : va_D A [(b 0, .inr (8, [.ref (b 1), .int (nI mt), .int (nI j), .int (nI k), .int so, .int (-1), .int wr, .int wa, .int (gg 8), .int (gg 9), .ref (b 11), .ref (b 12), .ref (b 13), .int (nI mc), .int (nI mh), .ref (b 16), .ref (b 17), .ref (b 18), .ref (b 19), .ref (b 20), .ref (b 21), .ref (b 22), .ref (b 23), .ref (b 24), .int (nI mf), .ref (b 26), .ref (b 27), .ref (b 28), .ref (b 29), .ref (b 30), .ref (b 31), .ref (b 32), .int (gg 32), .int (nI md), .ref (b 35), .ref (b 36), .ref (b 37), .ref (b 38), .ref (b 39), .ref (b 40), .int (gg 40), .ref (b 42), .ref (b 43), .ref (b 44), .int (gg 44), .ref (b 46), .ref (b 47), .int (gg 47), .ref (b 49)])), (b 1, .inl (cB, 200, .inl ta))] := hD
              refine lv_aload_n hx hb dX8_next_168 rfl (lv_at hl 0 rfl) ?_
              refine lv_aload_n hx hb dX8_next_169 rfl (lv_at hl 0 rfl) ?_
              refine va_get (D := (dC, dI)) (ci := 8) (v := .int (-1)) (C := RX8) (T := TX8) (N := 49) hx hb hw zz_inX8 hown hK hP 0 rfl rfl 5 (by decide) (hw _ tw_303) (fun _ h9 => h9) rfl dX8_next_170 ?_
              refine lv_if_ge (tgt := 180) hx hb dX8_next_173 (by decide) (fun c_9 => absurd c_9 (by decide)) (fun _ => ?_)
              refine lv_iconst (v := 4) hx hb dX8_next_176 (by decide) ?_
              refine lv_goto (tgt := 181) hx hb dX8_next_177 (by decide) ?_
              refine va_put (D := (dC, dI)) (ci := 8) (v := .int 4) (ty := .int) (C := RX8) (T := TX8) (N := 49) hx hb hw zz_inX8 tyX8 tyX8_ok nmX8 hown hK hP hD hS 0 rfl rfl 4 (by decide) (hw _ tw_302) (fun _ h9 => h9) rfl (by decide +kernel) rfl rfl (Nat.le_of_ble_eq_true rfl) dX8_next_181 (fun H locs hP hD hS => ?_)
              have hP : va_P (dC, dI) vwCl [(b 0, .inr (8, [.ref (b 1), .int (nI mt), .int (nI j), .int (nI k), .int 4, .int (-1), .int wr, .int wa, .int (gg 8), .int (gg 9), .ref (b 11), .ref (b 12), .ref (b 13), .int (nI mc), .int (nI mh), .ref (b 16), .ref (b 17), .ref (b 18), .ref (b 19), .ref (b 20), .ref (b 21), .ref (b 22), .ref (b 23), .ref (b 24), .int (nI mf), .ref (b 26), .ref (b 27), .ref (b 28), .ref (b 29), .ref (b 30), .ref (b 31), .ref (b 32), .int (gg 32), .int (nI md), .ref (b 35), .ref (b 36), .ref (b 37), .ref (b 38), .ref (b 39), .ref (b 40), .int (gg 40), .ref (b 42), .ref (b 43), .ref (b 44), .int (gg 44), .ref (b 46), .ref (b 47), .int (gg 47), .ref (b 49)])), (b 1, .inl (cB, 200, .inl ta))] H := hP
              have hD : va_D A [(b 0, .inr (8, [.ref (b 1), .int (nI mt), .int (nI j), .int (nI k), .int 4, .int (-1), .int wr, .int wa, .int (gg 8), .int (gg 9), .ref (b 11), .ref (b 12), .ref (b 13), .int (nI mc), .int (nI mh), .ref (b 16), .ref (b 17), .ref (b 18), .ref (b 19), .ref (b 20), .ref (b 21), .ref (b 22), .ref (b 23), .ref (b 24), .int (nI mf), .ref (b 26), .ref (b 27), .ref (b 28), .ref (b 29), .ref (b 30), .ref (b 31), .ref (b 32), .int (gg 32), .int (nI md), .ref (b 35), .ref (b 36), .ref (b 37), .ref (b 38), .ref (b 39), .ref (b 40), .int (gg 40), .ref (b 42), .ref (b 43), .ref (b 44), .int (gg 44), .ref (b 46), .ref (b 47), .int (gg 47), .ref (b 49)])), (b 1, .inl (cB, 200, .inl ta))] := hD
              refine lv_goto (tgt := 319) hx hb dX8_next_184 (by decide) ?_
              have hP9 := hP.sub (ws' := [(b 0, .inr (8, [.ref (b 1), .int (nI mt), .int (nI j), .int (nI k), .int 4, .int (-1), .int wr, .int wa, .int (gg 8), .int (gg 9), .ref (b 11), .ref (b 12), .ref (b 13), .int (nI mc), .int (nI mh), .ref (b 16), .ref (b 17), .ref (b 18), .ref (b 19), .ref (b 20), .ref (b 21), .ref (b 22), .ref (b 23), .ref (b 24), .int (nI mf), .ref (b 26), .ref (b 27), .ref (b 28), .ref (b 29), .ref (b 30), .ref (b 31), .ref (b 32), .int (gg 32), .int (nI md), .ref (b 35), .ref (b 36), .ref (b 37), .ref (b 38), .ref (b 39), .ref (b 40), .int (gg 40), .ref (b 42), .ref (b 43), .ref (b 44), .int (gg 44), .ref (b 46), .ref (b 47), .int (gg 47), .ref (b 49)])), (b 1, .inl (cB, 200, .inl ta))]) [0, 1] rfl
              have hD9 := hD.sub (ws' := [(b 0, .inr (8, [.ref (b 1), .int (nI mt), .int (nI j), .int (nI k), .int 4, .int (-1), .int wr, .int wa, .int (gg 8), .int (gg 9), .ref (b 11), .ref (b 12), .ref (b 13), .int (nI mc), .int (nI mh), .ref (b 16), .ref (b 17), .ref (b 18), .ref (b 19), .ref (b 20), .ref (b 21), .ref (b 22), .ref (b 23), .ref (b 24), .int (nI mf), .ref (b 26), .ref (b 27), .ref (b 28), .ref (b 29), .ref (b 30), .ref (b 31), .ref (b 32), .int (gg 32), .int (nI md), .ref (b 35), .ref (b 36), .ref (b 37), .ref (b 38), .ref (b 39), .ref (b 40), .int (gg 40), .ref (b 42), .ref (b 43), .ref (b 44), .int (gg 44), .ref (b 46), .ref (b 47), .int (gg 47), .ref (b 49)])), (b 1, .inl (cB, 200, .inl ta))]) [0, 1] (by decide) rfl
              have hK9 := hK.sub (tys' := [(cB, .byte)]) [0] rfl
              exact W.vret hx hb hr (fun t ht hW => ⟨⟨(j, (nI k), 4, (-1)), rfl, ⟨by omega, by omega, Or.inr (by omega), fun h9 => absurd h9 (by decide)⟩, by rw [ht]; exact hP9, va_K.moved hW.alike hK9, hD9⟩, hS.F ht⟩) hS.2.2 dX8_next_319
          · have zc_17 := c_17
            rw [← Int32.toInt_inj] at zc_17
            try rw [show (0 : Int32).toInt = 0 from by decide] at zc_17
            refine lv_iload hx hb dX8_next_102 (lv_at hl 4 rfl) ?_
            refine lv_bipush (v := 8) hx hb dX8_next_104 (by decide) ?_
            refine lv_icmp_ge (tgt := 132) hx hb dX8_next_106 (by decide) (fun c_21 => ?_) (fun c_21 => ?_)
            · have zc_21 := c_21
              rw [Int32.le_iff_toInt_le] at zc_21
              try rw [zz_toInt nn (by omega)] at zc_21
              try rw [show (8 : Int32).toInt = 8 from by decide] at zc_21
              refine lv_lload_n hx hb dX8_next_132 rfl (lv_at hl 3 rfl) ?_
              refine lv_lstore_n (lv' := [(3, .long y), (0, .ref (b 0)), (1, .int (nI ml)), (2, .int (ta (Int32.toNatClampNeg (nI k)))), (5, .int (nI nn))]) hx hb dX8_next_133 rfl hl (by decide) rfl (fun ls hl => ?_)
              refine lv_iinc (v := (nI (nn + 1))) (lv' := [(5, .int (nI (nn + 1))), (3, .long y), (0, .ref (b 0)), (1, .int (nI ml)), (2, .int (ta (Int32.toNatClampNeg (nI k))))]) hx hb dX8_next_134 hl (k := 4) rfl (nI_1 _) (by decide) rfl (fun ls hl => ?_)
              refine lv_aload_n hx hb dX8_next_137 rfl (lv_at hl 2 rfl) ?_
              refine lv_dup hx hb dX8_next_138 rfl ?_
              refine va_get (D := (dC, dI)) (ci := 8) (v := .int (nI j)) (C := RX8) (T := TX8) (N := 49) hx hb hw zz_inX8 hown hK hP 0 rfl rfl 2 (by decide) (hw _ tw_296) (fun _ h9 => h9) rfl dX8_next_139 ?_
              refine lv_iconst (v := 1) hx hb dX8_next_142 (by decide) ?_
              refine lv_iadd hx hb dX8_next_143 ?_
              refine zz_seti (nI (j + 1)) (nI_1 _) ?_
              refine va_put (D := (dC, dI)) (ci := 8) (v := .int (nI (j + 1))) (ty := .int) (C := RX8) (T := TX8) (N := 49) hx hb hw zz_inX8 tyX8 tyX8_ok nmX8 hown hK hP hD hS 0 rfl rfl 2 (by decide) (hw _ tw_296) (fun _ h9 => h9) rfl (by decide +kernel) rfl rfl (Nat.le_of_ble_eq_true rfl) dX8_next_144 (fun H locs hP hD hS => ?_)
              have hP : va_P (dC, dI) vwCl [(b 0, .inr (8, [.ref (b 1), .int (nI mt), .int (nI (j + 1)), .int (nI k), .int so, .int tl, .int wr, .int wa, .int (gg 8), .int (gg 9), .ref (b 11), .ref (b 12), .ref (b 13), .int (nI mc), .int (nI mh), .ref (b 16), .ref (b 17), .ref (b 18), .ref (b 19), .ref (b 20), .ref (b 21), .ref (b 22), .ref (b 23), .ref (b 24), .int (nI mf), .ref (b 26), .ref (b 27), .ref (b 28), .ref (b 29), .ref (b 30), .ref (b 31), .ref (b 32), .int (gg 32), .int (nI md), .ref (b 35), .ref (b 36), .ref (b 37), .ref (b 38), .ref (b 39), .ref (b 40), .int (gg 40), .ref (b 42), .ref (b 43), .ref (b 44), .int (gg 44), .ref (b 46), .ref (b 47), .int (gg 47), .ref (b 49)])), (b 1, .inl (cB, 200, .inl ta))] H := hP
              have hD : va_D A [(b 0, .inr (8, [.ref (b 1), .int (nI mt), .int (nI (j + 1)), .int (nI k), .int so, .int tl, .int wr, .int wa, .int (gg 8), .int (gg 9), .ref (b 11), .ref (b 12), .ref (b 13), .int (nI mc), .int (nI mh), .ref (b 16), .ref (b 17), .ref (b 18), .ref (b 19), .ref (b 20), .ref (b 21), .ref (b 22), .ref (b 23), .ref (b 24), .int (nI mf), .ref (b 26), .ref (b 27), .ref (b 28), .ref (b 29), .ref (b 30), .ref (b 31), .ref (b 32), .int (gg 32), .int (nI md), .ref (b 35), .ref (b 36), .ref (b 37), .ref (b 38), .ref (b 39), .ref (b 40), .int (gg 40), .ref (b 42), .ref (b 43), .ref (b 44), .int (gg 44), .ref (b 46), .ref (b 47), .int (gg 47), .ref (b 49)])), (b 1, .inl (cB, 200, .inl ta))] := hD
              refine lv_goto (tgt := 79) hx hb dX8_next_147 (by decide) ?_
              exact ih_79 ((j + 1), y, (nn + 1)) (show k ≤ (j + 1) ∧ (j + 1) ≤ ml ∧ (nn + 1) ≤ (j + 1) from (by refine ⟨?_, ?_, ?_⟩ <;> omega)) (show ml - (j + 1) < ml - j from by omega) _ _ _ (hP.sub [0, 1] rfl) (hD.sub [0, 1] (by decide) rfl) hS (lv_sub hl [2, 3, 4, 1, 0] rfl)
            · have zc_21 := c_21
              rw [Int32.le_iff_toInt_le] at zc_21
              try rw [zz_toInt nn (by omega)] at zc_21
              try rw [show (8 : Int32).toInt = 8 from by decide] at zc_21
              refine lv_ldc2 (v := 64) hx hb hown (hw _ tw_308) dX8_next_109 ?_
              refine zz_setl (Int32.toInt64 64) (by decide) ?_
              refine lv_lload_n hx hb dX8_next_112 rfl (lv_at hl 3 rfl) ?_
              refine lv_lmul hx hb dX8_next_113 ?_
              refine lv_aload_n hx hb dX8_next_114 rfl (lv_at hl 0 rfl) ?_
              refine va_get (D := (dC, dI)) (ci := 8) (v := .ref (b 1)) (C := RX8) (T := TX8) (N := 49) hx hb hw zz_inX8 hown hK hP 0 rfl rfl 0 (by decide) (hw _ tw_191) (fun _ h9 => h9) rfl dX8_next_115 ?_
              refine lv_aload_n hx hb dX8_next_118 rfl (lv_at hl 0 rfl) ?_
              refine va_get (D := (dC, dI)) (ci := 8) (v := .int (nI j)) (C := RX8) (T := TX8) (N := 49) hx hb hw zz_inX8 hown hK hP 0 rfl rfl 2 (by decide) (hw _ tw_296) (fun _ h9 => h9) rfl dX8_next_119 ?_
              refine va_bald hx hb hK hP 1 0 rfl rfl (vp_in_iff.mpr (by rw [zz_toInt j (by omega)]; constructor <;> omega)) dX8_next_122 ?_
              refine lv_i2l (v := Int32.toInt64 (ta (Int32.toNatClampNeg (nI j)))) hx hb dX8_next_123 rfl ?_
              refine lv_ladd hx hb dX8_next_124 ?_
              refine lv_ldc2 (v := 64) hx hb hown (hw _ tw_308) dX8_next_125 ?_
              refine zz_setl (Int32.toInt64 64) (by decide) ?_
              refine lv_lsub hx hb dX8_next_128 ?_
              refine lv_goto (tgt := 133) hx hb dX8_next_129 (by decide) ?_
              refine lv_lstore_n (lv' := [(3, .long ((((Int32.toInt64 64) * y) + (Int32.toInt64 (ta (Int32.toNatClampNeg (nI j))))) - (Int32.toInt64 64))), (0, .ref (b 0)), (1, .int (nI ml)), (2, .int (ta (Int32.toNatClampNeg (nI k)))), (5, .int (nI nn))]) hx hb dX8_next_133 rfl hl (by decide) rfl (fun ls hl => ?_)
              refine lv_iinc (v := (nI (nn + 1))) (lv' := [(5, .int (nI (nn + 1))), (3, .long ((((Int32.toInt64 64) * y) + (Int32.toInt64 (ta (Int32.toNatClampNeg (nI j))))) - (Int32.toInt64 64))), (0, .ref (b 0)), (1, .int (nI ml)), (2, .int (ta (Int32.toNatClampNeg (nI k))))]) hx hb dX8_next_134 hl (k := 4) rfl (nI_1 _) (by decide) rfl (fun ls hl => ?_)
              refine lv_aload_n hx hb dX8_next_137 rfl (lv_at hl 2 rfl) ?_
              refine lv_dup hx hb dX8_next_138 rfl ?_
              refine va_get (D := (dC, dI)) (ci := 8) (v := .int (nI j)) (C := RX8) (T := TX8) (N := 49) hx hb hw zz_inX8 hown hK hP 0 rfl rfl 2 (by decide) (hw _ tw_296) (fun _ h9 => h9) rfl dX8_next_139 ?_
              refine lv_iconst (v := 1) hx hb dX8_next_142 (by decide) ?_
              refine lv_iadd hx hb dX8_next_143 ?_
              refine zz_seti (nI (j + 1)) (nI_1 _) ?_
              refine va_put (D := (dC, dI)) (ci := 8) (v := .int (nI (j + 1))) (ty := .int) (C := RX8) (T := TX8) (N := 49) hx hb hw zz_inX8 tyX8 tyX8_ok nmX8 hown hK hP hD hS 0 rfl rfl 2 (by decide) (hw _ tw_296) (fun _ h9 => h9) rfl (by decide +kernel) rfl rfl (Nat.le_of_ble_eq_true rfl) dX8_next_144 (fun H locs hP hD hS => ?_)
              have hP : va_P (dC, dI) vwCl [(b 0, .inr (8, [.ref (b 1), .int (nI mt), .int (nI (j + 1)), .int (nI k), .int so, .int tl, .int wr, .int wa, .int (gg 8), .int (gg 9), .ref (b 11), .ref (b 12), .ref (b 13), .int (nI mc), .int (nI mh), .ref (b 16), .ref (b 17), .ref (b 18), .ref (b 19), .ref (b 20), .ref (b 21), .ref (b 22), .ref (b 23), .ref (b 24), .int (nI mf), .ref (b 26), .ref (b 27), .ref (b 28), .ref (b 29), .ref (b 30), .ref (b 31), .ref (b 32), .int (gg 32), .int (nI md), .ref (b 35), .ref (b 36), .ref (b 37), .ref (b 38), .ref (b 39), .ref (b 40), .int (gg 40), .ref (b 42), .ref (b 43), .ref (b 44), .int (gg 44), .ref (b 46), .ref (b 47), .int (gg 47), .ref (b 49)])), (b 1, .inl (cB, 200, .inl ta))] H := hP
              have hD : va_D A [(b 0, .inr (8, [.ref (b 1), .int (nI mt), .int (nI (j + 1)), .int (nI k), .int so, .int tl, .int wr, .int wa, .int (gg 8), .int (gg 9), .ref (b 11), .ref (b 12), .ref (b 13), .int (nI mc), .int (nI mh), .ref (b 16), .ref (b 17), .ref (b 18), .ref (b 19), .ref (b 20), .ref (b 21), .ref (b 22), .ref (b 23), .ref (b 24), .int (nI mf), .ref (b 26), .ref (b 27), .ref (b 28), .ref (b 29), .ref (b 30), .ref (b 31), .ref (b 32), .int (gg 32), .int (nI md), .ref (b 35), .ref (b 36), .ref (b 37), .ref (b 38), .ref (b 39), .ref (b 40), .int (gg 40), .ref (b 42), .ref (b 43), .ref (b 44), .int (gg 44), .ref (b 46), .ref (b 47), .int (gg 47), .ref (b 49)])), (b 1, .inl (cB, 200, .inl ta))] := hD
              refine lv_goto (tgt := 79) hx hb dX8_next_147 (by decide) ?_
              exact ih_79 ((j + 1), ((((Int32.toInt64 64) * y) + (Int32.toInt64 (ta (Int32.toNatClampNeg (nI j))))) - (Int32.toInt64 64)), (nn + 1)) (show k ≤ (j + 1) ∧ (j + 1) ≤ ml ∧ (nn + 1) ≤ (j + 1) from (by refine ⟨?_, ?_, ?_⟩ <;> omega)) (show ml - (j + 1) < ml - j from by omega) _ _ _ (hP.sub [0, 1] rfl) (hD.sub [0, 1] (by decide) rfl) hS (lv_sub hl [2, 3, 4, 1, 0] rfl)
    · have zc_2 := c_2
      rw [← Int32.toInt_inj] at zc_2
      try rw [zz_toInt k (by omega)] at zc_2
      try rw [zz_toInt ml (by omega)] at zc_2
      refine lv_aload_n hx hb dX8_next_51 rfl (lv_at hl 0 rfl) ?_
      refine lv_iconst (v := 0) hx hb dX8_next_52 (by decide) ?_
      refine va_put (D := (dC, dI)) (ci := 8) (v := .int 0) (ty := .int) (C := RX8) (T := TX8) (N := 49) hx hb hw zz_inX8 tyX8 tyX8_ok nmX8 hown hK hP hD hS 0 rfl rfl 4 (by decide) (hw _ tw_302) (fun _ h9 => h9) rfl (by decide +kernel) rfl rfl (Nat.le_of_ble_eq_true rfl) dX8_next_53 (fun H locs hP hD hS => ?_)
      have hP : va_P (dC, dI) vwCl [(b 0, .inr (8, [.ref (b 1), .int (nI mt), .int (nI k), .int (nI k), .int 0, .int tl, .int wr, .int wa, .int (gg 8), .int (gg 9), .ref (b 11), .ref (b 12), .ref (b 13), .int (nI mc), .int (nI mh), .ref (b 16), .ref (b 17), .ref (b 18), .ref (b 19), .ref (b 20), .ref (b 21), .ref (b 22), .ref (b 23), .ref (b 24), .int (nI mf), .ref (b 26), .ref (b 27), .ref (b 28), .ref (b 29), .ref (b 30), .ref (b 31), .ref (b 32), .int (gg 32), .int (nI md), .ref (b 35), .ref (b 36), .ref (b 37), .ref (b 38), .ref (b 39), .ref (b 40), .int (gg 40), .ref (b 42), .ref (b 43), .ref (b 44), .int (gg 44), .ref (b 46), .ref (b 47), .int (gg 47), .ref (b 49)])), (b 1, .inl (cB, 200, .inl ta))] H := hP
      have hD : va_D A [(b 0, .inr (8, [.ref (b 1), .int (nI mt), .int (nI k), .int (nI k), .int 0, .int tl, .int wr, .int wa, .int (gg 8), .int (gg 9), .ref (b 11), .ref (b 12), .ref (b 13), .int (nI mc), .int (nI mh), .ref (b 16), .ref (b 17), .ref (b 18), .ref (b 19), .ref (b 20), .ref (b 21), .ref (b 22), .ref (b 23), .ref (b 24), .int (nI mf), .ref (b 26), .ref (b 27), .ref (b 28), .ref (b 29), .ref (b 30), .ref (b 31), .ref (b 32), .int (gg 32), .int (nI md), .ref (b 35), .ref (b 36), .ref (b 37), .ref (b 38), .ref (b 39), .ref (b 40), .int (gg 40), .ref (b 42), .ref (b 43), .ref (b 44), .int (gg 44), .ref (b 46), .ref (b 47), .int (gg 47), .ref (b 49)])), (b 1, .inl (cB, 200, .inl ta))] := hD
      have hP9 := hP.sub (ws' := [(b 0, .inr (8, [.ref (b 1), .int (nI mt), .int (nI k), .int (nI k), .int 0, .int tl, .int wr, .int wa, .int (gg 8), .int (gg 9), .ref (b 11), .ref (b 12), .ref (b 13), .int (nI mc), .int (nI mh), .ref (b 16), .ref (b 17), .ref (b 18), .ref (b 19), .ref (b 20), .ref (b 21), .ref (b 22), .ref (b 23), .ref (b 24), .int (nI mf), .ref (b 26), .ref (b 27), .ref (b 28), .ref (b 29), .ref (b 30), .ref (b 31), .ref (b 32), .int (gg 32), .int (nI md), .ref (b 35), .ref (b 36), .ref (b 37), .ref (b 38), .ref (b 39), .ref (b 40), .int (gg 40), .ref (b 42), .ref (b 43), .ref (b 44), .int (gg 44), .ref (b 46), .ref (b 47), .int (gg 47), .ref (b 49)])), (b 1, .inl (cB, 200, .inl ta))]) [0, 1] rfl
      have hD9 := hD.sub (ws' := [(b 0, .inr (8, [.ref (b 1), .int (nI mt), .int (nI k), .int (nI k), .int 0, .int tl, .int wr, .int wa, .int (gg 8), .int (gg 9), .ref (b 11), .ref (b 12), .ref (b 13), .int (nI mc), .int (nI mh), .ref (b 16), .ref (b 17), .ref (b 18), .ref (b 19), .ref (b 20), .ref (b 21), .ref (b 22), .ref (b 23), .ref (b 24), .int (nI mf), .ref (b 26), .ref (b 27), .ref (b 28), .ref (b 29), .ref (b 30), .ref (b 31), .ref (b 32), .int (gg 32), .int (nI md), .ref (b 35), .ref (b 36), .ref (b 37), .ref (b 38), .ref (b 39), .ref (b 40), .int (gg 40), .ref (b 42), .ref (b 43), .ref (b 44), .int (gg 44), .ref (b 46), .ref (b 47), .int (gg 47), .ref (b 49)])), (b 1, .inl (cB, 200, .inl ta))]) [0, 1] (by decide) rfl
      have hK9 := hK.sub (tys' := [(cB, .byte)]) [0] rfl
      exact W.vret hx hb hr (fun t ht hW => ⟨⟨(k, (nI k), 0, tl), rfl, ⟨by omega, by omega, Or.inl rfl, fun h9 => absurd h9 (by decide)⟩, by rw [ht]; exact hP9, va_K.moved hW.alike hK9, hD9⟩, hS.F ht⟩) hS.2.2 dX8_next_56
  · have zc_1 := c_1
    rw [Int32.le_iff_toInt_le] at zc_1
    try rw [zz_toInt k (by omega)] at zc_1
    try rw [zz_toInt ml (by omega)] at zc_1
    refine lv_aload_n hx hb dX8_next_8 rfl (lv_at hl 0 rfl) ?_
    refine va_get (D := (dC, dI)) (ci := 8) (v := .ref (b 1)) (C := RX8) (T := TX8) (N := 49) hx hb hw zz_inX8 hown hK hP 0 rfl rfl 0 (by decide) (hw _ tw_191) (fun _ h9 => h9) rfl dX8_next_9 ?_
    refine lv_aload_n hx hb dX8_next_12 rfl (lv_at hl 0 rfl) ?_
    refine va_get (D := (dC, dI)) (ci := 8) (v := .int (nI k)) (C := RX8) (T := TX8) (N := 49) hx hb hw zz_inX8 hown hK hP 0 rfl rfl 2 (by decide) (hw _ tw_296) (fun _ h9 => h9) rfl dX8_next_13 ?_
    refine va_bald hx hb hK hP 1 0 rfl rfl (vp_in_iff.mpr (by rw [zz_toInt k (by omega)]; constructor <;> omega)) dX8_next_16 ?_
    refine lv_bipush (v := 32) hx hb dX8_next_17 (by decide) ?_
    refine lv_icmp_ne (tgt := 35) hx hb dX8_next_19 (by decide) (fun c_22 => ?_) (fun c_22 => ?_)
    · have zc_22 := c_22
      rw [← Int32.toInt_inj] at zc_22
      try rw [show (32 : Int32).toInt = 32 from by decide] at zc_22
      refine lv_aload_n hx hb dX8_next_35 rfl (lv_at hl 0 rfl) ?_
      refine lv_aload_n hx hb dX8_next_36 rfl (lv_at hl 0 rfl) ?_
      refine va_get (D := (dC, dI)) (ci := 8) (v := .int (nI k)) (C := RX8) (T := TX8) (N := 49) hx hb hw zz_inX8 hown hK hP 0 rfl rfl 2 (by decide) (hw _ tw_296) (fun _ h9 => h9) rfl dX8_next_37 ?_
      refine va_put (D := (dC, dI)) (ci := 8) (v := .int (nI k)) (ty := .int) (C := RX8) (T := TX8) (N := 49) hx hb hw zz_inX8 tyX8 tyX8_ok nmX8 hown hK hP hD hS 0 rfl rfl 3 (by decide) (hw _ tw_271) (fun _ h9 => h9) rfl (by decide +kernel) rfl rfl (Nat.le_of_ble_eq_true rfl) dX8_next_40 (fun H locs hP hD hS => ?_)
      have hP : va_P (dC, dI) vwCl [(b 0, .inr (8, [.ref (b 1), .int (nI mt), .int (nI k), .int (nI k), .int so, .int tl, .int wr, .int wa, .int (gg 8), .int (gg 9), .ref (b 11), .ref (b 12), .ref (b 13), .int (nI mc), .int (nI mh), .ref (b 16), .ref (b 17), .ref (b 18), .ref (b 19), .ref (b 20), .ref (b 21), .ref (b 22), .ref (b 23), .ref (b 24), .int (nI mf), .ref (b 26), .ref (b 27), .ref (b 28), .ref (b 29), .ref (b 30), .ref (b 31), .ref (b 32), .int (gg 32), .int (nI md), .ref (b 35), .ref (b 36), .ref (b 37), .ref (b 38), .ref (b 39), .ref (b 40), .int (gg 40), .ref (b 42), .ref (b 43), .ref (b 44), .int (gg 44), .ref (b 46), .ref (b 47), .int (gg 47), .ref (b 49)])), (b 1, .inl (cB, 200, .inl ta))] H := hP
      have hD : va_D A [(b 0, .inr (8, [.ref (b 1), .int (nI mt), .int (nI k), .int (nI k), .int so, .int tl, .int wr, .int wa, .int (gg 8), .int (gg 9), .ref (b 11), .ref (b 12), .ref (b 13), .int (nI mc), .int (nI mh), .ref (b 16), .ref (b 17), .ref (b 18), .ref (b 19), .ref (b 20), .ref (b 21), .ref (b 22), .ref (b 23), .ref (b 24), .int (nI mf), .ref (b 26), .ref (b 27), .ref (b 28), .ref (b 29), .ref (b 30), .ref (b 31), .ref (b 32), .int (gg 32), .int (nI md), .ref (b 35), .ref (b 36), .ref (b 37), .ref (b 38), .ref (b 39), .ref (b 40), .int (gg 40), .ref (b 42), .ref (b 43), .ref (b 44), .int (gg 44), .ref (b 46), .ref (b 47), .int (gg 47), .ref (b 49)])), (b 1, .inl (cB, 200, .inl ta))] := hD
      refine lv_aload_n hx hb dX8_next_43 rfl (lv_at hl 0 rfl) ?_
      refine va_get (D := (dC, dI)) (ci := 8) (v := .int (nI k)) (C := RX8) (T := TX8) (N := 49) hx hb hw zz_inX8 hown hK hP 0 rfl rfl 2 (by decide) (hw _ tw_296) (fun _ h9 => h9) rfl dX8_next_44 ?_
      refine lv_iload_n hx hb dX8_next_47 rfl (lv_at hl 1 rfl) ?_
      refine lv_icmp_ne (tgt := 57) hx hb dX8_next_48 (by decide) (fun c_23 => ?_) (fun c_23 => ?_)
      · have zc_23 := c_23
        rw [← Int32.toInt_inj] at zc_23
        try rw [zz_toInt k (by omega)] at zc_23
        try rw [zz_toInt ml (by omega)] at zc_23
        refine lv_aload_n hx hb dX8_next_57 rfl (lv_at hl 0 rfl) ?_
        refine va_get (D := (dC, dI)) (ci := 8) (v := .ref (b 1)) (C := RX8) (T := TX8) (N := 49) hx hb hw zz_inX8 hown hK hP 0 rfl rfl 0 (by decide) (hw _ tw_191) (fun _ h9 => h9) rfl dX8_next_58 ?_
        refine lv_aload_n hx hb dX8_next_61 rfl (lv_at hl 0 rfl) ?_
        refine va_get (D := (dC, dI)) (ci := 8) (v := .int (nI k)) (C := RX8) (T := TX8) (N := 49) hx hb hw zz_inX8 hown hK hP 0 rfl rfl 2 (by decide) (hw _ tw_296) (fun _ h9 => h9) rfl dX8_next_62 ?_
        refine va_bald hx hb hK hP 1 0 rfl rfl (vp_in_iff.mpr (by rw [zz_toInt k (by omega)]; constructor <;> omega)) dX8_next_65 ?_
        refine lv_istore_n (lv' := [(2, .int (ta (Int32.toNatClampNeg (nI k)))), (0, .ref (b 0)), (1, .int (nI ml))]) hx hb dX8_next_66 rfl hl (by decide) rfl (fun ls hl => ?_)
        refine lv_iload_n hx hb dX8_next_67 rfl (lv_at hl 0 rfl) ?_
        have hPc := hP.sub (ws' := []) [] rfl
        have hDc := hD.sub (ws' := []) [] (by decide) rfl
        have hKc := hK.sub (tys' := []) [] rfl
        have hFc := zz_free0 hS hA
        refine va_calli (va_runS (As := [.int (ta (Int32.toNatClampNeg (nI k)))]) (rest := []) ⟨hx, hb, hml, hown, hw⟩ (m_isLetter l dC dI (ta (Int32.toNatClampNeg (nI k))) H.size) ⟨callB_of 1 hw (zz_good tw_297) rfl rfl rfl (hw _ tw_184) (hw _ tw_298) (by decide +kernel) ⟨Nat.le_of_ble_eq_true rfl, Nat.le_of_ble_eq_true rfl⟩, (hw _ tw_299)⟩ ⟨zz_blind, zz_pre hPc hKc hDc hN⟩ rfl rfl hl.1 rfl (lv_room (Nat.le_of_ble_eq_true rfl)) dX8_next_68 ⟨Nat.le_of_ble_eq_true rfl, Nat.le_of_ble_eq_true rfl⟩) hS (fun q _ h => hFc q h) hFc (fun r_24 u_24 t H1 locs ht hvm e_24 hB hz1 hk1 hS => ?_)
        try dsimp only at e_24
        have hP := zz_keep hP hk1
        clear hk1 hB ht hvm
        generalize H1 = H at hP hS ⊢
        refine lv_if_eq (tgt := 187) hx hb dX8_next_71 (by decide) (fun c_25 => ?_) (fun c_25 => ?_)
        · have zc_25 := c_25
          rw [← Int32.toInt_inj] at zc_25
          try rw [show (0 : Int32).toInt = 0 from by decide] at zc_25
          refine lv_iload_n hx hb dX8_next_187 rfl (lv_at hl 0 rfl) ?_
          refine lv_i2l (v := Int32.toInt64 (ta (Int32.toNatClampNeg (nI k)))) hx hb dX8_next_188 rfl ?_
          refine lv_ldc2 (v := 48) hx hb hown (hw _ tw_300) dX8_next_189 ?_
          refine zz_setl (Int32.toInt64 48) (by decide) ?_
          refine lv_ldc2 (v := 57) hx hb hown (hw _ tw_301) dX8_next_192 ?_
          refine zz_setl (Int32.toInt64 57) (by decide) ?_
          have hPc := hP.sub (ws' := []) [] rfl
          have hDc := hD.sub (ws' := []) [] (by decide) rfl
          have hKc := hK.sub (tys' := []) [] rfl
          have hFc := zz_free0 hS hA
          refine va_calli (va_runS (As := [.long (Int32.toInt64 (ta (Int32.toNatClampNeg (nI k)))), .long (Int32.toInt64 48), .long (Int32.toInt64 57)]) (rest := []) ⟨hx, hb, hml, hown, hw⟩ (k_in l dC dI (ta (Int32.toNatClampNeg (nI k))) 48 57 H.size) ⟨callB_of 3 hw (zz_good tw_183) rfl rfl rfl (hw _ tw_184) (hw _ tw_185) (by decide +kernel) ⟨Nat.le_of_ble_eq_true rfl, Nat.le_of_ble_eq_true rfl⟩, (hw _ tw_186)⟩ ⟨zz_blind, zz_pre hPc hKc hDc hN⟩ rfl rfl hl.1 rfl (lv_room (Nat.le_of_ble_eq_true rfl)) dX8_next_195 ⟨Nat.le_of_ble_eq_true rfl, Nat.le_of_ble_eq_true rfl⟩) hS (fun q _ h => hFc q h) hFc (fun r_26 u_26 t H1 locs ht hvm e_26 hB hz1 hk1 hS => ?_)
          try dsimp only at e_26
          have hP := zz_keep hP hk1
          clear hk1 hB ht hvm
          generalize H1 = H at hP hS ⊢
          refine lv_if_eq (tgt := 294) hx hb dX8_next_198 (by decide) (fun c_27 => ?_) (fun c_27 => ?_)
          · have zc_27 := c_27
            rw [e_26, zz_in0, Int32.le_iff_toInt_le, Int32.le_iff_toInt_le] at zc_27
            try rw [show (48 : Int32).toInt = 48 from by decide] at zc_27
            try rw [show (57 : Int32).toInt = 57 from by decide] at zc_27
            refine lv_aload_n hx hb dX8_next_294 rfl (lv_at hl 1 rfl) ?_
            refine lv_dup hx hb dX8_next_295 rfl ?_
            refine va_get (D := (dC, dI)) (ci := 8) (v := .int (nI k)) (C := RX8) (T := TX8) (N := 49) hx hb hw zz_inX8 hown hK hP 0 rfl rfl 2 (by decide) (hw _ tw_296) (fun _ h9 => h9) rfl dX8_next_296 ?_
            refine lv_iconst (v := 1) hx hb dX8_next_299 (by decide) ?_
            refine lv_iadd hx hb dX8_next_300 ?_
            refine zz_seti (nI (k + 1)) (nI_1 _) ?_
            refine va_put (D := (dC, dI)) (ci := 8) (v := .int (nI (k + 1))) (ty := .int) (C := RX8) (T := TX8) (N := 49) hx hb hw zz_inX8 tyX8 tyX8_ok nmX8 hown hK hP hD hS 0 rfl rfl 2 (by decide) (hw _ tw_296) (fun _ h9 => h9) rfl (by decide +kernel) rfl rfl (Nat.le_of_ble_eq_true rfl) dX8_next_301 (fun H locs hP hD hS => ?_)
            have hP : va_P (dC, dI) vwCl [(b 0, .inr (8, [.ref (b 1), .int (nI mt), .int (nI (k + 1)), .int (nI k), .int so, .int tl, .int wr, .int wa, .int (gg 8), .int (gg 9), .ref (b 11), .ref (b 12), .ref (b 13), .int (nI mc), .int (nI mh), .ref (b 16), .ref (b 17), .ref (b 18), .ref (b 19), .ref (b 20), .ref (b 21), .ref (b 22), .ref (b 23), .ref (b 24), .int (nI mf), .ref (b 26), .ref (b 27), .ref (b 28), .ref (b 29), .ref (b 30), .ref (b 31), .ref (b 32), .int (gg 32), .int (nI md), .ref (b 35), .ref (b 36), .ref (b 37), .ref (b 38), .ref (b 39), .ref (b 40), .int (gg 40), .ref (b 42), .ref (b 43), .ref (b 44), .int (gg 44), .ref (b 46), .ref (b 47), .int (gg 47), .ref (b 49)])), (b 1, .inl (cB, 200, .inl ta))] H := hP
            have hD : va_D A [(b 0, .inr (8, [.ref (b 1), .int (nI mt), .int (nI (k + 1)), .int (nI k), .int so, .int tl, .int wr, .int wa, .int (gg 8), .int (gg 9), .ref (b 11), .ref (b 12), .ref (b 13), .int (nI mc), .int (nI mh), .ref (b 16), .ref (b 17), .ref (b 18), .ref (b 19), .ref (b 20), .ref (b 21), .ref (b 22), .ref (b 23), .ref (b 24), .int (nI mf), .ref (b 26), .ref (b 27), .ref (b 28), .ref (b 29), .ref (b 30), .ref (b 31), .ref (b 32), .int (gg 32), .int (nI md), .ref (b 35), .ref (b 36), .ref (b 37), .ref (b 38), .ref (b 39), .ref (b 40), .int (gg 40), .ref (b 42), .ref (b 43), .ref (b 44), .int (gg 44), .ref (b 46), .ref (b 47), .int (gg 47), .ref (b 49)])), (b 1, .inl (cB, 200, .inl ta))] := hD
            refine lv_aload_n hx hb dX8_next_304 rfl (lv_at hl 1 rfl) ?_
            refine lv_iload_n hx hb dX8_next_305 rfl (lv_at hl 0 rfl) ?_
            refine lv_bipush (v := 59) hx hb dX8_next_306 (by decide) ?_
            refine lv_icmp_ne (tgt := 315) hx hb dX8_next_308 (by decide) (fun c_28 => ?_) (fun c_28 => ?_)
            · have zc_28 := c_28
              rw [← Int32.toInt_inj] at zc_28
              try rw [show (59 : Int32).toInt = 59 from by decide] at zc_28
              refine lv_iconst (v := 4) hx hb dX8_next_315 (by decide) ?_
              refine va_put (D := (dC, dI)) (ci := 8) (v := .int 4) (ty := .int) (C := RX8) (T := TX8) (N := 49) hx hb hw zz_inX8 tyX8 tyX8_ok nmX8 hown hK hP hD hS 0 rfl rfl 4 (by decide) (hw _ tw_302) (fun _ h9 => h9) rfl (by decide +kernel) rfl rfl (Nat.le_of_ble_eq_true rfl) dX8_next_316 (fun H locs hP hD hS => ?_)
              have hP : va_P (dC, dI) vwCl [(b 0, .inr (8, [.ref (b 1), .int (nI mt), .int (nI (k + 1)), .int (nI k), .int 4, .int tl, .int wr, .int wa, .int (gg 8), .int (gg 9), .ref (b 11), .ref (b 12), .ref (b 13), .int (nI mc), .int (nI mh), .ref (b 16), .ref (b 17), .ref (b 18), .ref (b 19), .ref (b 20), .ref (b 21), .ref (b 22), .ref (b 23), .ref (b 24), .int (nI mf), .ref (b 26), .ref (b 27), .ref (b 28), .ref (b 29), .ref (b 30), .ref (b 31), .ref (b 32), .int (gg 32), .int (nI md), .ref (b 35), .ref (b 36), .ref (b 37), .ref (b 38), .ref (b 39), .ref (b 40), .int (gg 40), .ref (b 42), .ref (b 43), .ref (b 44), .int (gg 44), .ref (b 46), .ref (b 47), .int (gg 47), .ref (b 49)])), (b 1, .inl (cB, 200, .inl ta))] H := hP
              have hD : va_D A [(b 0, .inr (8, [.ref (b 1), .int (nI mt), .int (nI (k + 1)), .int (nI k), .int 4, .int tl, .int wr, .int wa, .int (gg 8), .int (gg 9), .ref (b 11), .ref (b 12), .ref (b 13), .int (nI mc), .int (nI mh), .ref (b 16), .ref (b 17), .ref (b 18), .ref (b 19), .ref (b 20), .ref (b 21), .ref (b 22), .ref (b 23), .ref (b 24), .int (nI mf), .ref (b 26), .ref (b 27), .ref (b 28), .ref (b 29), .ref (b 30), .ref (b 31), .ref (b 32), .int (gg 32), .int (nI md), .ref (b 35), .ref (b 36), .ref (b 37), .ref (b 38), .ref (b 39), .ref (b 40), .int (gg 40), .ref (b 42), .ref (b 43), .ref (b 44), .int (gg 44), .ref (b 46), .ref (b 47), .int (gg 47), .ref (b 49)])), (b 1, .inl (cB, 200, .inl ta))] := hD
              have hP9 := hP.sub (ws' := [(b 0, .inr (8, [.ref (b 1), .int (nI mt), .int (nI (k + 1)), .int (nI k), .int 4, .int tl, .int wr, .int wa, .int (gg 8), .int (gg 9), .ref (b 11), .ref (b 12), .ref (b 13), .int (nI mc), .int (nI mh), .ref (b 16), .ref (b 17), .ref (b 18), .ref (b 19), .ref (b 20), .ref (b 21), .ref (b 22), .ref (b 23), .ref (b 24), .int (nI mf), .ref (b 26), .ref (b 27), .ref (b 28), .ref (b 29), .ref (b 30), .ref (b 31), .ref (b 32), .int (gg 32), .int (nI md), .ref (b 35), .ref (b 36), .ref (b 37), .ref (b 38), .ref (b 39), .ref (b 40), .int (gg 40), .ref (b 42), .ref (b 43), .ref (b 44), .int (gg 44), .ref (b 46), .ref (b 47), .int (gg 47), .ref (b 49)])), (b 1, .inl (cB, 200, .inl ta))]) [0, 1] rfl
              have hD9 := hD.sub (ws' := [(b 0, .inr (8, [.ref (b 1), .int (nI mt), .int (nI (k + 1)), .int (nI k), .int 4, .int tl, .int wr, .int wa, .int (gg 8), .int (gg 9), .ref (b 11), .ref (b 12), .ref (b 13), .int (nI mc), .int (nI mh), .ref (b 16), .ref (b 17), .ref (b 18), .ref (b 19), .ref (b 20), .ref (b 21), .ref (b 22), .ref (b 23), .ref (b 24), .int (nI mf), .ref (b 26), .ref (b 27), .ref (b 28), .ref (b 29), .ref (b 30), .ref (b 31), .ref (b 32), .int (gg 32), .int (nI md), .ref (b 35), .ref (b 36), .ref (b 37), .ref (b 38), .ref (b 39), .ref (b 40), .int (gg 40), .ref (b 42), .ref (b 43), .ref (b 44), .int (gg 44), .ref (b 46), .ref (b 47), .int (gg 47), .ref (b 49)])), (b 1, .inl (cB, 200, .inl ta))]) [0, 1] (by decide) rfl
              have hK9 := hK.sub (tys' := [(cB, .byte)]) [0] rfl
              exact W.vret hx hb hr (fun t ht hW => ⟨⟨((k + 1), (nI k), 4, tl), rfl, ⟨by omega, by omega, Or.inr (by omega), fun h9 => absurd h9 (by decide)⟩, by rw [ht]; exact hP9, va_K.moved hW.alike hK9, hD9⟩, hS.F ht⟩) hS.2.2 dX8_next_319
            · have zc_28 := c_28
              rw [← Int32.toInt_inj] at zc_28
              try rw [show (59 : Int32).toInt = 59 from by decide] at zc_28
              refine lv_iconst (v := 3) hx hb dX8_next_311 (by decide) ?_
              refine lv_goto (tgt := 316) hx hb dX8_next_312 (by decide) ?_
              refine va_put (D := (dC, dI)) (ci := 8) (v := .int 3) (ty := .int) (C := RX8) (T := TX8) (N := 49) hx hb hw zz_inX8 tyX8 tyX8_ok nmX8 hown hK hP hD hS 0 rfl rfl 4 (by decide) (hw _ tw_302) (fun _ h9 => h9) rfl (by decide +kernel) rfl rfl (Nat.le_of_ble_eq_true rfl) dX8_next_316 (fun H locs hP hD hS => ?_)
              have hP : va_P (dC, dI) vwCl [(b 0, .inr (8, [.ref (b 1), .int (nI mt), .int (nI (k + 1)), .int (nI k), .int 3, .int tl, .int wr, .int wa, .int (gg 8), .int (gg 9), .ref (b 11), .ref (b 12), .ref (b 13), .int (nI mc), .int (nI mh), .ref (b 16), .ref (b 17), .ref (b 18), .ref (b 19), .ref (b 20), .ref (b 21), .ref (b 22), .ref (b 23), .ref (b 24), .int (nI mf), .ref (b 26), .ref (b 27), .ref (b 28), .ref (b 29), .ref (b 30), .ref (b 31), .ref (b 32), .int (gg 32), .int (nI md), .ref (b 35), .ref (b 36), .ref (b 37), .ref (b 38), .ref (b 39), .ref (b 40), .int (gg 40), .ref (b 42), .ref (b 43), .ref (b 44), .int (gg 44), .ref (b 46), .ref (b 47), .int (gg 47), .ref (b 49)])), (b 1, .inl (cB, 200, .inl ta))] H := hP
              have hD : va_D A [(b 0, .inr (8, [.ref (b 1), .int (nI mt), .int (nI (k + 1)), .int (nI k), .int 3, .int tl, .int wr, .int wa, .int (gg 8), .int (gg 9), .ref (b 11), .ref (b 12), .ref (b 13), .int (nI mc), .int (nI mh), .ref (b 16), .ref (b 17), .ref (b 18), .ref (b 19), .ref (b 20), .ref (b 21), .ref (b 22), .ref (b 23), .ref (b 24), .int (nI mf), .ref (b 26), .ref (b 27), .ref (b 28), .ref (b 29), .ref (b 30), .ref (b 31), .ref (b 32), .int (gg 32), .int (nI md), .ref (b 35), .ref (b 36), .ref (b 37), .ref (b 38), .ref (b 39), .ref (b 40), .int (gg 40), .ref (b 42), .ref (b 43), .ref (b 44), .int (gg 44), .ref (b 46), .ref (b 47), .int (gg 47), .ref (b 49)])), (b 1, .inl (cB, 200, .inl ta))] := hD
              have hP9 := hP.sub (ws' := [(b 0, .inr (8, [.ref (b 1), .int (nI mt), .int (nI (k + 1)), .int (nI k), .int 3, .int tl, .int wr, .int wa, .int (gg 8), .int (gg 9), .ref (b 11), .ref (b 12), .ref (b 13), .int (nI mc), .int (nI mh), .ref (b 16), .ref (b 17), .ref (b 18), .ref (b 19), .ref (b 20), .ref (b 21), .ref (b 22), .ref (b 23), .ref (b 24), .int (nI mf), .ref (b 26), .ref (b 27), .ref (b 28), .ref (b 29), .ref (b 30), .ref (b 31), .ref (b 32), .int (gg 32), .int (nI md), .ref (b 35), .ref (b 36), .ref (b 37), .ref (b 38), .ref (b 39), .ref (b 40), .int (gg 40), .ref (b 42), .ref (b 43), .ref (b 44), .int (gg 44), .ref (b 46), .ref (b 47), .int (gg 47), .ref (b 49)])), (b 1, .inl (cB, 200, .inl ta))]) [0, 1] rfl
              have hD9 := hD.sub (ws' := [(b 0, .inr (8, [.ref (b 1), .int (nI mt), .int (nI (k + 1)), .int (nI k), .int 3, .int tl, .int wr, .int wa, .int (gg 8), .int (gg 9), .ref (b 11), .ref (b 12), .ref (b 13), .int (nI mc), .int (nI mh), .ref (b 16), .ref (b 17), .ref (b 18), .ref (b 19), .ref (b 20), .ref (b 21), .ref (b 22), .ref (b 23), .ref (b 24), .int (nI mf), .ref (b 26), .ref (b 27), .ref (b 28), .ref (b 29), .ref (b 30), .ref (b 31), .ref (b 32), .int (gg 32), .int (nI md), .ref (b 35), .ref (b 36), .ref (b 37), .ref (b 38), .ref (b 39), .ref (b 40), .int (gg 40), .ref (b 42), .ref (b 43), .ref (b 44), .int (gg 44), .ref (b 46), .ref (b 47), .int (gg 47), .ref (b 49)])), (b 1, .inl (cB, 200, .inl ta))]) [0, 1] (by decide) rfl
              have hK9 := hK.sub (tys' := [(cB, .byte)]) [0] rfl
              exact W.vret hx hb hr (fun t ht hW => ⟨⟨((k + 1), (nI k), 3, tl), rfl, ⟨by omega, by omega, Or.inr (by omega), fun h9 => absurd h9 (by decide)⟩, by rw [ht]; exact hP9, va_K.moved hW.alike hK9, hD9⟩, hS.F ht⟩) hS.2.2 dX8_next_319
          · have zc_27 := c_27
            rw [e_26, zz_in0, Int32.le_iff_toInt_le, Int32.le_iff_toInt_le] at zc_27
            try rw [show (48 : Int32).toInt = 48 from by decide] at zc_27
            try rw [show (57 : Int32).toInt = 57 from by decide] at zc_27
            refine lv_aload_n hx hb dX8_next_201 rfl (lv_at hl 1 rfl) ?_
            refine lv_iconst (v := 2) hx hb dX8_next_202 (by decide) ?_
            refine va_put (D := (dC, dI)) (ci := 8) (v := .int 2) (ty := .int) (C := RX8) (T := TX8) (N := 49) hx hb hw zz_inX8 tyX8 tyX8_ok nmX8 hown hK hP hD hS 0 rfl rfl 4 (by decide) (hw _ tw_302) (fun _ h9 => h9) rfl (by decide +kernel) rfl rfl (Nat.le_of_ble_eq_true rfl) dX8_next_203 (fun H locs hP hD hS => ?_)
            have hP : va_P (dC, dI) vwCl [(b 0, .inr (8, [.ref (b 1), .int (nI mt), .int (nI k), .int (nI k), .int 2, .int tl, .int wr, .int wa, .int (gg 8), .int (gg 9), .ref (b 11), .ref (b 12), .ref (b 13), .int (nI mc), .int (nI mh), .ref (b 16), .ref (b 17), .ref (b 18), .ref (b 19), .ref (b 20), .ref (b 21), .ref (b 22), .ref (b 23), .ref (b 24), .int (nI mf), .ref (b 26), .ref (b 27), .ref (b 28), .ref (b 29), .ref (b 30), .ref (b 31), .ref (b 32), .int (gg 32), .int (nI md), .ref (b 35), .ref (b 36), .ref (b 37), .ref (b 38), .ref (b 39), .ref (b 40), .int (gg 40), .ref (b 42), .ref (b 43), .ref (b 44), .int (gg 44), .ref (b 46), .ref (b 47), .int (gg 47), .ref (b 49)])), (b 1, .inl (cB, 200, .inl ta))] H := hP
            have hD : va_D A [(b 0, .inr (8, [.ref (b 1), .int (nI mt), .int (nI k), .int (nI k), .int 2, .int tl, .int wr, .int wa, .int (gg 8), .int (gg 9), .ref (b 11), .ref (b 12), .ref (b 13), .int (nI mc), .int (nI mh), .ref (b 16), .ref (b 17), .ref (b 18), .ref (b 19), .ref (b 20), .ref (b 21), .ref (b 22), .ref (b 23), .ref (b 24), .int (nI mf), .ref (b 26), .ref (b 27), .ref (b 28), .ref (b 29), .ref (b 30), .ref (b 31), .ref (b 32), .int (gg 32), .int (nI md), .ref (b 35), .ref (b 36), .ref (b 37), .ref (b 38), .ref (b 39), .ref (b 40), .int (gg 40), .ref (b 42), .ref (b 43), .ref (b 44), .int (gg 44), .ref (b 46), .ref (b 47), .int (gg 47), .ref (b 49)])), (b 1, .inl (cB, 200, .inl ta))] := hD
            refine lv_aload_n hx hb dX8_next_206 rfl (lv_at hl 1 rfl) ?_
            refine lv_iconst (v := 0) hx hb dX8_next_207 (by decide) ?_
            refine va_put (D := (dC, dI)) (ci := 8) (v := .int 0) (ty := .int) (C := RX8) (T := TX8) (N := 49) hx hb hw zz_inX8 tyX8 tyX8_ok nmX8 hown hK hP hD hS 0 rfl rfl 5 (by decide) (hw _ tw_303) (fun _ h9 => h9) rfl (by decide +kernel) rfl rfl (Nat.le_of_ble_eq_true rfl) dX8_next_208 (fun H locs hP hD hS => ?_)
            have hP : va_P (dC, dI) vwCl [(b 0, .inr (8, [.ref (b 1), .int (nI mt), .int (nI k), .int (nI k), .int 2, .int 0, .int wr, .int wa, .int (gg 8), .int (gg 9), .ref (b 11), .ref (b 12), .ref (b 13), .int (nI mc), .int (nI mh), .ref (b 16), .ref (b 17), .ref (b 18), .ref (b 19), .ref (b 20), .ref (b 21), .ref (b 22), .ref (b 23), .ref (b 24), .int (nI mf), .ref (b 26), .ref (b 27), .ref (b 28), .ref (b 29), .ref (b 30), .ref (b 31), .ref (b 32), .int (gg 32), .int (nI md), .ref (b 35), .ref (b 36), .ref (b 37), .ref (b 38), .ref (b 39), .ref (b 40), .int (gg 40), .ref (b 42), .ref (b 43), .ref (b 44), .int (gg 44), .ref (b 46), .ref (b 47), .int (gg 47), .ref (b 49)])), (b 1, .inl (cB, 200, .inl ta))] H := hP
            have hD : va_D A [(b 0, .inr (8, [.ref (b 1), .int (nI mt), .int (nI k), .int (nI k), .int 2, .int 0, .int wr, .int wa, .int (gg 8), .int (gg 9), .ref (b 11), .ref (b 12), .ref (b 13), .int (nI mc), .int (nI mh), .ref (b 16), .ref (b 17), .ref (b 18), .ref (b 19), .ref (b 20), .ref (b 21), .ref (b 22), .ref (b 23), .ref (b 24), .int (nI mf), .ref (b 26), .ref (b 27), .ref (b 28), .ref (b 29), .ref (b 30), .ref (b 31), .ref (b 32), .int (gg 32), .int (nI md), .ref (b 35), .ref (b 36), .ref (b 37), .ref (b 38), .ref (b 39), .ref (b 40), .int (gg 40), .ref (b 42), .ref (b 43), .ref (b 44), .int (gg 44), .ref (b 46), .ref (b 47), .int (gg 47), .ref (b 49)])), (b 1, .inl (cB, 200, .inl ta))] := hD
            refine zz_loopS (fun (u : (Nat) × (Int32)) => match u with | (i, td) => [(b 0, .inr (8, [.ref (b 1), .int (nI mt), .int (nI i), .int (nI k), .int 2, .int td, .int wr, .int wa, .int (gg 8), .int (gg 9), .ref (b 11), .ref (b 12), .ref (b 13), .int (nI mc), .int (nI mh), .ref (b 16), .ref (b 17), .ref (b 18), .ref (b 19), .ref (b 20), .ref (b 21), .ref (b 22), .ref (b 23), .ref (b 24), .int (nI mf), .ref (b 26), .ref (b 27), .ref (b 28), .ref (b 29), .ref (b 30), .ref (b 31), .ref (b 32), .int (gg 32), .int (nI md), .ref (b 35), .ref (b 36), .ref (b 37), .ref (b 38), .ref (b 39), .ref (b 40), .int (gg 40), .ref (b 42), .ref (b 43), .ref (b 44), .int (gg 44), .ref (b 46), .ref (b 47), .int (gg 47), .ref (b 49)])), (b 1, .inl (cB, 200, .inl ta))]) (fun (u : (Nat) × (Int32)) => match u with | (i, td) => [(0, .ref (b 0)), (1, .int (nI ml)), (2, .int (ta (Int32.toNatClampNeg (nI k))))]) (fun (u : (Nat) × (Int32)) => match u with | (i, td) => k ≤ i ∧ i ≤ ml) (fun (u : (Nat) × (Int32)) => match u with | (i, td) => ml - i) (fun u hI H locs ls hP hD hS hl ih_211 => ?_) (k, 0) (show k ≤ k ∧ k ≤ ml from (by refine ⟨?_, ?_⟩ <;> omega)) _ _ _ (hP.sub [0, 1] rfl) (hD.sub [0, 1] (by decide) rfl) hS (lv_sub hl [1, 2, 0] rfl)
            obtain ⟨i, td⟩ := u
            have hP : va_P (dC, dI) vwCl [(b 0, .inr (8, [.ref (b 1), .int (nI mt), .int (nI i), .int (nI k), .int 2, .int td, .int wr, .int wa, .int (gg 8), .int (gg 9), .ref (b 11), .ref (b 12), .ref (b 13), .int (nI mc), .int (nI mh), .ref (b 16), .ref (b 17), .ref (b 18), .ref (b 19), .ref (b 20), .ref (b 21), .ref (b 22), .ref (b 23), .ref (b 24), .int (nI mf), .ref (b 26), .ref (b 27), .ref (b 28), .ref (b 29), .ref (b 30), .ref (b 31), .ref (b 32), .int (gg 32), .int (nI md), .ref (b 35), .ref (b 36), .ref (b 37), .ref (b 38), .ref (b 39), .ref (b 40), .int (gg 40), .ref (b 42), .ref (b 43), .ref (b 44), .int (gg 44), .ref (b 46), .ref (b 47), .int (gg 47), .ref (b 49)])), (b 1, .inl (cB, 200, .inl ta))] H := hP
            have hD : va_D A [(b 0, .inr (8, [.ref (b 1), .int (nI mt), .int (nI i), .int (nI k), .int 2, .int td, .int wr, .int wa, .int (gg 8), .int (gg 9), .ref (b 11), .ref (b 12), .ref (b 13), .int (nI mc), .int (nI mh), .ref (b 16), .ref (b 17), .ref (b 18), .ref (b 19), .ref (b 20), .ref (b 21), .ref (b 22), .ref (b 23), .ref (b 24), .int (nI mf), .ref (b 26), .ref (b 27), .ref (b 28), .ref (b 29), .ref (b 30), .ref (b 31), .ref (b 32), .int (gg 32), .int (nI md), .ref (b 35), .ref (b 36), .ref (b 37), .ref (b 38), .ref (b 39), .ref (b 40), .int (gg 40), .ref (b 42), .ref (b 43), .ref (b 44), .int (gg 44), .ref (b 46), .ref (b 47), .int (gg 47), .ref (b 49)])), (b 1, .inl (cB, 200, .inl ta))] := hD
            have hl : lv_has ls 6 [(0, .ref (b 0)), (1, .int (nI ml)), (2, .int (ta (Int32.toNatClampNeg (nI k))))] := hl
            have hI : k ≤ i ∧ i ≤ ml := hI
            obtain ⟨ii0, ii1⟩ := hI
            refine lv_aload_n hx hb dX8_next_211 rfl (lv_at hl 0 rfl) ?_
            refine va_get (D := (dC, dI)) (ci := 8) (v := .int (nI i)) (C := RX8) (T := TX8) (N := 49) hx hb hw zz_inX8 hown hK hP 0 rfl rfl 2 (by decide) (hw _ tw_296) (fun _ h9 => h9) rfl dX8_next_212 ?_
            refine lv_iload_n hx hb dX8_next_215 rfl (lv_at hl 1 rfl) ?_
            refine lv_icmp_ge (tgt := 319) hx hb dX8_next_216 (by decide) (fun c_29 => ?_) (fun c_29 => ?_)
            · have zc_29 := c_29
              rw [Int32.le_iff_toInt_le] at zc_29
              try rw [zz_toInt i (by omega)] at zc_29
              try rw [zz_toInt ml (by omega)] at zc_29
              have hP9 := hP.sub (ws' := [(b 0, .inr (8, [.ref (b 1), .int (nI mt), .int (nI i), .int (nI k), .int 2, .int td, .int wr, .int wa, .int (gg 8), .int (gg 9), .ref (b 11), .ref (b 12), .ref (b 13), .int (nI mc), .int (nI mh), .ref (b 16), .ref (b 17), .ref (b 18), .ref (b 19), .ref (b 20), .ref (b 21), .ref (b 22), .ref (b 23), .ref (b 24), .int (nI mf), .ref (b 26), .ref (b 27), .ref (b 28), .ref (b 29), .ref (b 30), .ref (b 31), .ref (b 32), .int (gg 32), .int (nI md), .ref (b 35), .ref (b 36), .ref (b 37), .ref (b 38), .ref (b 39), .ref (b 40), .int (gg 40), .ref (b 42), .ref (b 43), .ref (b 44), .int (gg 44), .ref (b 46), .ref (b 47), .int (gg 47), .ref (b 49)])), (b 1, .inl (cB, 200, .inl ta))]) [0, 1] rfl
              have hD9 := hD.sub (ws' := [(b 0, .inr (8, [.ref (b 1), .int (nI mt), .int (nI i), .int (nI k), .int 2, .int td, .int wr, .int wa, .int (gg 8), .int (gg 9), .ref (b 11), .ref (b 12), .ref (b 13), .int (nI mc), .int (nI mh), .ref (b 16), .ref (b 17), .ref (b 18), .ref (b 19), .ref (b 20), .ref (b 21), .ref (b 22), .ref (b 23), .ref (b 24), .int (nI mf), .ref (b 26), .ref (b 27), .ref (b 28), .ref (b 29), .ref (b 30), .ref (b 31), .ref (b 32), .int (gg 32), .int (nI md), .ref (b 35), .ref (b 36), .ref (b 37), .ref (b 38), .ref (b 39), .ref (b 40), .int (gg 40), .ref (b 42), .ref (b 43), .ref (b 44), .int (gg 44), .ref (b 46), .ref (b 47), .int (gg 47), .ref (b 49)])), (b 1, .inl (cB, 200, .inl ta))]) [0, 1] (by decide) rfl
              have hK9 := hK.sub (tys' := [(cB, .byte)]) [0] rfl
              exact W.vret hx hb hr (fun t ht hW => ⟨⟨(i, (nI k), 2, td), rfl, ⟨by omega, by omega, Or.inr (by omega), fun h9 => absurd h9 (by decide)⟩, by rw [ht]; exact hP9, va_K.moved hW.alike hK9, hD9⟩, hS.F ht⟩) hS.2.2 dX8_next_319
            · have zc_29 := c_29
              rw [Int32.le_iff_toInt_le] at zc_29
              try rw [zz_toInt i (by omega)] at zc_29
              try rw [zz_toInt ml (by omega)] at zc_29
              refine lv_aload_n hx hb dX8_next_219 rfl (lv_at hl 0 rfl) ?_
              refine va_get (D := (dC, dI)) (ci := 8) (v := .ref (b 1)) (C := RX8) (T := TX8) (N := 49) hx hb hw zz_inX8 hown hK hP 0 rfl rfl 0 (by decide) (hw _ tw_191) (fun _ h9 => h9) rfl dX8_next_220 ?_
              refine lv_aload_n hx hb dX8_next_223 rfl (lv_at hl 0 rfl) ?_
              refine va_get (D := (dC, dI)) (ci := 8) (v := .int (nI i)) (C := RX8) (T := TX8) (N := 49) hx hb hw zz_inX8 hown hK hP 0 rfl rfl 2 (by decide) (hw _ tw_296) (fun _ h9 => h9) rfl dX8_next_224 ?_
              refine va_bald hx hb hK hP 1 0 rfl rfl (vp_in_iff.mpr (by rw [zz_toInt i (by omega)]; constructor <;> omega)) dX8_next_227 ?_
              refine lv_i2l (v := Int32.toInt64 (ta (Int32.toNatClampNeg (nI i)))) hx hb dX8_next_228 rfl ?_
              refine lv_ldc2 (v := 48) hx hb hown (hw _ tw_300) dX8_next_229 ?_
              refine zz_setl (Int32.toInt64 48) (by decide) ?_
              refine lv_ldc2 (v := 57) hx hb hown (hw _ tw_301) dX8_next_232 ?_
              refine zz_setl (Int32.toInt64 57) (by decide) ?_
              have hPc := hP.sub (ws' := []) [] rfl
              have hDc := hD.sub (ws' := []) [] (by decide) rfl
              have hKc := hK.sub (tys' := []) [] rfl
              have hFc := zz_free0 hS hA
              refine va_calli (va_runS (As := [.long (Int32.toInt64 (ta (Int32.toNatClampNeg (nI i)))), .long (Int32.toInt64 48), .long (Int32.toInt64 57)]) (rest := []) ⟨hx, hb, hml, hown, hw⟩ (k_in l dC dI (ta (Int32.toNatClampNeg (nI i))) 48 57 H.size) ⟨callB_of 3 hw (zz_good tw_183) rfl rfl rfl (hw _ tw_184) (hw _ tw_185) (by decide +kernel) ⟨Nat.le_of_ble_eq_true rfl, Nat.le_of_ble_eq_true rfl⟩, (hw _ tw_186)⟩ ⟨zz_blind, zz_pre hPc hKc hDc hN⟩ rfl rfl hl.1 rfl (lv_room (Nat.le_of_ble_eq_true rfl)) dX8_next_235 ⟨Nat.le_of_ble_eq_true rfl, Nat.le_of_ble_eq_true rfl⟩) hS (fun q _ h => hFc q h) hFc (fun r_30 u_30 t H1 locs ht hvm e_30 hB hz1 hk1 hS => ?_)
              try dsimp only at e_30
              have hP := zz_keep hP hk1
              clear hk1 hB ht hvm
              generalize H1 = H at hP hS ⊢
              refine lv_if_eq (tgt := 319) hx hb dX8_next_238 (by decide) (fun c_31 => ?_) (fun c_31 => ?_)
              · have zc_31 := c_31
                rw [e_30, zz_in0, Int32.le_iff_toInt_le, Int32.le_iff_toInt_le] at zc_31
                try rw [show (48 : Int32).toInt = 48 from by decide] at zc_31
                try rw [show (57 : Int32).toInt = 57 from by decide] at zc_31
                have hP9 := hP.sub (ws' := [(b 0, .inr (8, [.ref (b 1), .int (nI mt), .int (nI i), .int (nI k), .int 2, .int td, .int wr, .int wa, .int (gg 8), .int (gg 9), .ref (b 11), .ref (b 12), .ref (b 13), .int (nI mc), .int (nI mh), .ref (b 16), .ref (b 17), .ref (b 18), .ref (b 19), .ref (b 20), .ref (b 21), .ref (b 22), .ref (b 23), .ref (b 24), .int (nI mf), .ref (b 26), .ref (b 27), .ref (b 28), .ref (b 29), .ref (b 30), .ref (b 31), .ref (b 32), .int (gg 32), .int (nI md), .ref (b 35), .ref (b 36), .ref (b 37), .ref (b 38), .ref (b 39), .ref (b 40), .int (gg 40), .ref (b 42), .ref (b 43), .ref (b 44), .int (gg 44), .ref (b 46), .ref (b 47), .int (gg 47), .ref (b 49)])), (b 1, .inl (cB, 200, .inl ta))]) [0, 1] rfl
                have hD9 := hD.sub (ws' := [(b 0, .inr (8, [.ref (b 1), .int (nI mt), .int (nI i), .int (nI k), .int 2, .int td, .int wr, .int wa, .int (gg 8), .int (gg 9), .ref (b 11), .ref (b 12), .ref (b 13), .int (nI mc), .int (nI mh), .ref (b 16), .ref (b 17), .ref (b 18), .ref (b 19), .ref (b 20), .ref (b 21), .ref (b 22), .ref (b 23), .ref (b 24), .int (nI mf), .ref (b 26), .ref (b 27), .ref (b 28), .ref (b 29), .ref (b 30), .ref (b 31), .ref (b 32), .int (gg 32), .int (nI md), .ref (b 35), .ref (b 36), .ref (b 37), .ref (b 38), .ref (b 39), .ref (b 40), .int (gg 40), .ref (b 42), .ref (b 43), .ref (b 44), .int (gg 44), .ref (b 46), .ref (b 47), .int (gg 47), .ref (b 49)])), (b 1, .inl (cB, 200, .inl ta))]) [0, 1] (by decide) rfl
                have hK9 := hK.sub (tys' := [(cB, .byte)]) [0] rfl
                exact W.vret hx hb hr (fun t ht hW => ⟨⟨(i, (nI k), 2, td), rfl, ⟨by omega, by omega, Or.inr (Nat.lt_of_le_of_lt (show ma ≤ k by omega) (zz_adv (f := ta) (F := fun x => zz_in x 48 57) e_26 c_27 e_30 c_31 (by omega))), fun h9 => absurd h9 (by decide)⟩, by rw [ht]; exact hP9, va_K.moved hW.alike hK9, hD9⟩, hS.F ht⟩) hS.2.2 dX8_next_319
              · have zc_31 := c_31
                rw [e_30, zz_in0, Int32.le_iff_toInt_le, Int32.le_iff_toInt_le] at zc_31
                try rw [show (48 : Int32).toInt = 48 from by decide] at zc_31
                try rw [show (57 : Int32).toInt = 57 from by decide] at zc_31
                refine lv_aload_n hx hb dX8_next_241 rfl (lv_at hl 0 rfl) ?_
                refine lv_aload_n hx hb dX8_next_242 rfl (lv_at hl 0 rfl) ?_
                refine va_get (D := (dC, dI)) (ci := 8) (v := .int td) (C := RX8) (T := TX8) (N := 49) hx hb hw zz_inX8 hown hK hP 0 rfl rfl 5 (by decide) (hw _ tw_303) (fun _ h9 => h9) rfl dX8_next_243 ?_
                refine lv_ldc (v := 99999) hx hb hown (hw _ tw_304) dX8_next_246 ?_
                refine lv_icmp_le (tgt := 258) hx hb dX8_next_248 (by decide) (fun c_32 => ?_) (fun c_32 => ?_)
                · have zc_32 := c_32
                  rw [Int32.le_iff_toInt_le] at zc_32
                  try rw [show (99999 : Int32).toInt = 99999 from by decide] at zc_32
                  refine lv_bipush (v := 10) hx hb dX8_next_258 (by decide) ?_
                  refine lv_aload_n hx hb dX8_next_260 rfl (lv_at hl 0 rfl) ?_
                  refine va_get (D := (dC, dI)) (ci := 8) (v := .int td) (C := RX8) (T := TX8) (N := 49) hx hb hw zz_inX8 hown hK hP 0 rfl rfl 5 (by decide) (hw _ tw_303) (fun _ h9 => h9) rfl dX8_next_261 ?_
                  refine lv_imul hx hb dX8_next_264 ?_
                  refine lv_aload_n hx hb dX8_next_265 rfl (lv_at hl 0 rfl) ?_
                  refine va_get (D := (dC, dI)) (ci := 8) (v := .ref (b 1)) (C := RX8) (T := TX8) (N := 49) hx hb hw zz_inX8 hown hK hP 0 rfl rfl 0 (by decide) (hw _ tw_191) (fun _ h9 => h9) rfl dX8_next_266 ?_
                  refine lv_aload_n hx hb dX8_next_269 rfl (lv_at hl 0 rfl) ?_
                  refine va_get (D := (dC, dI)) (ci := 8) (v := .int (nI i)) (C := RX8) (T := TX8) (N := 49) hx hb hw zz_inX8 hown hK hP 0 rfl rfl 2 (by decide) (hw _ tw_296) (fun _ h9 => h9) rfl dX8_next_270 ?_
                  refine va_bald hx hb hK hP 1 0 rfl rfl (vp_in_iff.mpr (by rw [zz_toInt i (by omega)]; constructor <;> omega)) dX8_next_273 ?_
                  refine lv_iadd hx hb dX8_next_274 ?_
                  refine lv_bipush (v := 48) hx hb dX8_next_275 (by decide) ?_
                  refine lv_isub hx hb dX8_next_277 ?_
                  refine va_put (D := (dC, dI)) (ci := 8) (v := .int (((10 * td) + (ta (Int32.toNatClampNeg (nI i)))) - 48)) (ty := .int) (C := RX8) (T := TX8) (N := 49) hx hb hw zz_inX8 tyX8 tyX8_ok nmX8 hown hK hP hD hS 0 rfl rfl 5 (by decide) (hw _ tw_303) (fun _ h9 => h9) rfl (by decide +kernel) rfl rfl (Nat.le_of_ble_eq_true rfl) dX8_next_278 (fun H locs hP hD hS => ?_)
                  have hP : va_P (dC, dI) vwCl [(b 0, .inr (8, [.ref (b 1), .int (nI mt), .int (nI i), .int (nI k), .int 2, .int (((10 * td) + (ta (Int32.toNatClampNeg (nI i)))) - 48), .int wr, .int wa, .int (gg 8), .int (gg 9), .ref (b 11), .ref (b 12), .ref (b 13), .int (nI mc), .int (nI mh), .ref (b 16), .ref (b 17), .ref (b 18), .ref (b 19), .ref (b 20), .ref (b 21), .ref (b 22), .ref (b 23), .ref (b 24), .int (nI mf), .ref (b 26), .ref (b 27), .ref (b 28), .ref (b 29), .ref (b 30), .ref (b 31), .ref (b 32), .int (gg 32), .int (nI md), .ref (b 35), .ref (b 36), .ref (b 37), .ref (b 38), .ref (b 39), .ref (b 40), .int (gg 40), .ref (b 42), .ref (b 43), .ref (b 44), .int (gg 44), .ref (b 46), .ref (b 47), .int (gg 47), .ref (b 49)])), (b 1, .inl (cB, 200, .inl ta))] H := hP
                  have hD : va_D A [(b 0, .inr (8, [.ref (b 1), .int (nI mt), .int (nI i), .int (nI k), .int 2, .int (((10 * td) + (ta (Int32.toNatClampNeg (nI i)))) - 48), .int wr, .int wa, .int (gg 8), .int (gg 9), .ref (b 11), .ref (b 12), .ref (b 13), .int (nI mc), .int (nI mh), .ref (b 16), .ref (b 17), .ref (b 18), .ref (b 19), .ref (b 20), .ref (b 21), .ref (b 22), .ref (b 23), .ref (b 24), .int (nI mf), .ref (b 26), .ref (b 27), .ref (b 28), .ref (b 29), .ref (b 30), .ref (b 31), .ref (b 32), .int (gg 32), .int (nI md), .ref (b 35), .ref (b 36), .ref (b 37), .ref (b 38), .ref (b 39), .ref (b 40), .int (gg 40), .ref (b 42), .ref (b 43), .ref (b 44), .int (gg 44), .ref (b 46), .ref (b 47), .int (gg 47), .ref (b 49)])), (b 1, .inl (cB, 200, .inl ta))] := hD
                  refine lv_aload_n hx hb dX8_next_281 rfl (lv_at hl 0 rfl) ?_
                  refine lv_dup hx hb dX8_next_282 rfl ?_
                  refine va_get (D := (dC, dI)) (ci := 8) (v := .int (nI i)) (C := RX8) (T := TX8) (N := 49) hx hb hw zz_inX8 hown hK hP 0 rfl rfl 2 (by decide) (hw _ tw_296) (fun _ h9 => h9) rfl dX8_next_283 ?_
                  refine lv_iconst (v := 1) hx hb dX8_next_286 (by decide) ?_
                  refine lv_iadd hx hb dX8_next_287 ?_
                  refine zz_seti (nI (i + 1)) (nI_1 _) ?_
                  refine va_put (D := (dC, dI)) (ci := 8) (v := .int (nI (i + 1))) (ty := .int) (C := RX8) (T := TX8) (N := 49) hx hb hw zz_inX8 tyX8 tyX8_ok nmX8 hown hK hP hD hS 0 rfl rfl 2 (by decide) (hw _ tw_296) (fun _ h9 => h9) rfl (by decide +kernel) rfl rfl (Nat.le_of_ble_eq_true rfl) dX8_next_288 (fun H locs hP hD hS => ?_)
                  have hP : va_P (dC, dI) vwCl [(b 0, .inr (8, [.ref (b 1), .int (nI mt), .int (nI (i + 1)), .int (nI k), .int 2, .int (((10 * td) + (ta (Int32.toNatClampNeg (nI i)))) - 48), .int wr, .int wa, .int (gg 8), .int (gg 9), .ref (b 11), .ref (b 12), .ref (b 13), .int (nI mc), .int (nI mh), .ref (b 16), .ref (b 17), .ref (b 18), .ref (b 19), .ref (b 20), .ref (b 21), .ref (b 22), .ref (b 23), .ref (b 24), .int (nI mf), .ref (b 26), .ref (b 27), .ref (b 28), .ref (b 29), .ref (b 30), .ref (b 31), .ref (b 32), .int (gg 32), .int (nI md), .ref (b 35), .ref (b 36), .ref (b 37), .ref (b 38), .ref (b 39), .ref (b 40), .int (gg 40), .ref (b 42), .ref (b 43), .ref (b 44), .int (gg 44), .ref (b 46), .ref (b 47), .int (gg 47), .ref (b 49)])), (b 1, .inl (cB, 200, .inl ta))] H := hP
                  have hD : va_D A [(b 0, .inr (8, [.ref (b 1), .int (nI mt), .int (nI (i + 1)), .int (nI k), .int 2, .int (((10 * td) + (ta (Int32.toNatClampNeg (nI i)))) - 48), .int wr, .int wa, .int (gg 8), .int (gg 9), .ref (b 11), .ref (b 12), .ref (b 13), .int (nI mc), .int (nI mh), .ref (b 16), .ref (b 17), .ref (b 18), .ref (b 19), .ref (b 20), .ref (b 21), .ref (b 22), .ref (b 23), .ref (b 24), .int (nI mf), .ref (b 26), .ref (b 27), .ref (b 28), .ref (b 29), .ref (b 30), .ref (b 31), .ref (b 32), .int (gg 32), .int (nI md), .ref (b 35), .ref (b 36), .ref (b 37), .ref (b 38), .ref (b 39), .ref (b 40), .int (gg 40), .ref (b 42), .ref (b 43), .ref (b 44), .int (gg 44), .ref (b 46), .ref (b 47), .int (gg 47), .ref (b 49)])), (b 1, .inl (cB, 200, .inl ta))] := hD
                  refine lv_goto (tgt := 211) hx hb dX8_next_291 (by decide) ?_
                  exact ih_211 ((i + 1), (((10 * td) + (ta (Int32.toNatClampNeg (nI i)))) - 48)) (show k ≤ (i + 1) ∧ (i + 1) ≤ ml from (by refine ⟨?_, ?_⟩ <;> omega)) (show ml - (i + 1) < ml - i from by omega) _ _ _ (hP.sub [0, 1] rfl) (hD.sub [0, 1] (by decide) rfl) hS (lv_sub hl [0, 1, 2] rfl)
                · have zc_32 := c_32
                  rw [Int32.le_iff_toInt_le] at zc_32
                  try rw [show (99999 : Int32).toInt = 99999 from by decide] at zc_32
                  refine lv_aload_n hx hb dX8_next_251 rfl (lv_at hl 0 rfl) ?_
                  refine va_get (D := (dC, dI)) (ci := 8) (v := .int td) (C := RX8) (T := TX8) (N := 49) hx hb hw zz_inX8 hown hK hP 0 rfl rfl 5 (by decide) (hw _ tw_303) (fun _ h9 => h9) rfl dX8_next_252 ?_
                  refine lv_goto (tgt := 278) hx hb dX8_next_255 (by decide) ?_
                  refine va_put (D := (dC, dI)) (ci := 8) (v := .int td) (ty := .int) (C := RX8) (T := TX8) (N := 49) hx hb hw zz_inX8 tyX8 tyX8_ok nmX8 hown hK hP hD hS 0 rfl rfl 5 (by decide) (hw _ tw_303) (fun _ h9 => h9) rfl (by decide +kernel) rfl rfl (Nat.le_of_ble_eq_true rfl) dX8_next_278 (fun H locs hP hD hS => ?_)
                  have hP : va_P (dC, dI) vwCl [(b 0, .inr (8, [.ref (b 1), .int (nI mt), .int (nI i), .int (nI k), .int 2, .int td, .int wr, .int wa, .int (gg 8), .int (gg 9), .ref (b 11), .ref (b 12), .ref (b 13), .int (nI mc), .int (nI mh), .ref (b 16), .ref (b 17), .ref (b 18), .ref (b 19), .ref (b 20), .ref (b 21), .ref (b 22), .ref (b 23), .ref (b 24), .int (nI mf), .ref (b 26), .ref (b 27), .ref (b 28), .ref (b 29), .ref (b 30), .ref (b 31), .ref (b 32), .int (gg 32), .int (nI md), .ref (b 35), .ref (b 36), .ref (b 37), .ref (b 38), .ref (b 39), .ref (b 40), .int (gg 40), .ref (b 42), .ref (b 43), .ref (b 44), .int (gg 44), .ref (b 46), .ref (b 47), .int (gg 47), .ref (b 49)])), (b 1, .inl (cB, 200, .inl ta))] H := hP
                  have hD : va_D A [(b 0, .inr (8, [.ref (b 1), .int (nI mt), .int (nI i), .int (nI k), .int 2, .int td, .int wr, .int wa, .int (gg 8), .int (gg 9), .ref (b 11), .ref (b 12), .ref (b 13), .int (nI mc), .int (nI mh), .ref (b 16), .ref (b 17), .ref (b 18), .ref (b 19), .ref (b 20), .ref (b 21), .ref (b 22), .ref (b 23), .ref (b 24), .int (nI mf), .ref (b 26), .ref (b 27), .ref (b 28), .ref (b 29), .ref (b 30), .ref (b 31), .ref (b 32), .int (gg 32), .int (nI md), .ref (b 35), .ref (b 36), .ref (b 37), .ref (b 38), .ref (b 39), .ref (b 40), .int (gg 40), .ref (b 42), .ref (b 43), .ref (b 44), .int (gg 44), .ref (b 46), .ref (b 47), .int (gg 47), .ref (b 49)])), (b 1, .inl (cB, 200, .inl ta))] := hD
                  refine lv_aload_n hx hb dX8_next_281 rfl (lv_at hl 0 rfl) ?_
                  refine lv_dup hx hb dX8_next_282 rfl ?_
                  refine va_get (D := (dC, dI)) (ci := 8) (v := .int (nI i)) (C := RX8) (T := TX8) (N := 49) hx hb hw zz_inX8 hown hK hP 0 rfl rfl 2 (by decide) (hw _ tw_296) (fun _ h9 => h9) rfl dX8_next_283 ?_
                  refine lv_iconst (v := 1) hx hb dX8_next_286 (by decide) ?_
                  refine lv_iadd hx hb dX8_next_287 ?_
                  refine zz_seti (nI (i + 1)) (nI_1 _) ?_
                  refine va_put (D := (dC, dI)) (ci := 8) (v := .int (nI (i + 1))) (ty := .int) (C := RX8) (T := TX8) (N := 49) hx hb hw zz_inX8 tyX8 tyX8_ok nmX8 hown hK hP hD hS 0 rfl rfl 2 (by decide) (hw _ tw_296) (fun _ h9 => h9) rfl (by decide +kernel) rfl rfl (Nat.le_of_ble_eq_true rfl) dX8_next_288 (fun H locs hP hD hS => ?_)
                  have hP : va_P (dC, dI) vwCl [(b 0, .inr (8, [.ref (b 1), .int (nI mt), .int (nI (i + 1)), .int (nI k), .int 2, .int td, .int wr, .int wa, .int (gg 8), .int (gg 9), .ref (b 11), .ref (b 12), .ref (b 13), .int (nI mc), .int (nI mh), .ref (b 16), .ref (b 17), .ref (b 18), .ref (b 19), .ref (b 20), .ref (b 21), .ref (b 22), .ref (b 23), .ref (b 24), .int (nI mf), .ref (b 26), .ref (b 27), .ref (b 28), .ref (b 29), .ref (b 30), .ref (b 31), .ref (b 32), .int (gg 32), .int (nI md), .ref (b 35), .ref (b 36), .ref (b 37), .ref (b 38), .ref (b 39), .ref (b 40), .int (gg 40), .ref (b 42), .ref (b 43), .ref (b 44), .int (gg 44), .ref (b 46), .ref (b 47), .int (gg 47), .ref (b 49)])), (b 1, .inl (cB, 200, .inl ta))] H := hP
                  have hD : va_D A [(b 0, .inr (8, [.ref (b 1), .int (nI mt), .int (nI (i + 1)), .int (nI k), .int 2, .int td, .int wr, .int wa, .int (gg 8), .int (gg 9), .ref (b 11), .ref (b 12), .ref (b 13), .int (nI mc), .int (nI mh), .ref (b 16), .ref (b 17), .ref (b 18), .ref (b 19), .ref (b 20), .ref (b 21), .ref (b 22), .ref (b 23), .ref (b 24), .int (nI mf), .ref (b 26), .ref (b 27), .ref (b 28), .ref (b 29), .ref (b 30), .ref (b 31), .ref (b 32), .int (gg 32), .int (nI md), .ref (b 35), .ref (b 36), .ref (b 37), .ref (b 38), .ref (b 39), .ref (b 40), .int (gg 40), .ref (b 42), .ref (b 43), .ref (b 44), .int (gg 44), .ref (b 46), .ref (b 47), .int (gg 47), .ref (b 49)])), (b 1, .inl (cB, 200, .inl ta))] := hD
                  refine lv_goto (tgt := 211) hx hb dX8_next_291 (by decide) ?_
                  exact ih_211 ((i + 1), td) (show k ≤ (i + 1) ∧ (i + 1) ≤ ml from (by refine ⟨?_, ?_⟩ <;> omega)) (show ml - (i + 1) < ml - i from by omega) _ _ _ (hP.sub [0, 1] rfl) (hD.sub [0, 1] (by decide) rfl) hS (lv_sub hl [0, 1, 2] rfl)
        · have zc_25 := c_25
          rw [← Int32.toInt_inj] at zc_25
          try rw [show (0 : Int32).toInt = 0 from by decide] at zc_25
          refine lv_lconst (v := Int32.toInt64 0) hx hb dX8_next_74 (by decide) ?_
          refine lv_lstore_n (lv' := [(3, .long (Int32.toInt64 0)), (2, .int (ta (Int32.toNatClampNeg (nI k)))), (0, .ref (b 0)), (1, .int (nI ml))]) hx hb dX8_next_75 rfl hl (by decide) rfl (fun ls hl => ?_)
          refine lv_iconst (v := 0) hx hb dX8_next_76 (by decide) ?_
          refine lv_istore (lv' := [(5, .int 0), (3, .long (Int32.toInt64 0)), (2, .int (ta (Int32.toNatClampNeg (nI k)))), (0, .ref (b 0)), (1, .int (nI ml))]) hx hb dX8_next_77 hl (by decide) rfl (fun ls hl => ?_)
          refine zz_loopS (fun (u : (Nat) × (Int64) × (Nat)) => match u with | (j, y, nn) => [(b 0, .inr (8, [.ref (b 1), .int (nI mt), .int (nI j), .int (nI k), .int so, .int tl, .int wr, .int wa, .int (gg 8), .int (gg 9), .ref (b 11), .ref (b 12), .ref (b 13), .int (nI mc), .int (nI mh), .ref (b 16), .ref (b 17), .ref (b 18), .ref (b 19), .ref (b 20), .ref (b 21), .ref (b 22), .ref (b 23), .ref (b 24), .int (nI mf), .ref (b 26), .ref (b 27), .ref (b 28), .ref (b 29), .ref (b 30), .ref (b 31), .ref (b 32), .int (gg 32), .int (nI md), .ref (b 35), .ref (b 36), .ref (b 37), .ref (b 38), .ref (b 39), .ref (b 40), .int (gg 40), .ref (b 42), .ref (b 43), .ref (b 44), .int (gg 44), .ref (b 46), .ref (b 47), .int (gg 47), .ref (b 49)])), (b 1, .inl (cB, 200, .inl ta))]) (fun (u : (Nat) × (Int64) × (Nat)) => match u with | (j, y, nn) => [(0, .ref (b 0)), (1, .int (nI ml)), (2, .int (ta (Int32.toNatClampNeg (nI k)))), (3, .long y), (5, .int (nI nn))]) (fun (u : (Nat) × (Int64) × (Nat)) => match u with | (j, y, nn) => k ≤ j ∧ j ≤ ml ∧ nn ≤ j) (fun (u : (Nat) × (Int64) × (Nat)) => match u with | (j, y, nn) => ml - j) (fun u hI H locs ls hP hD hS hl ih_79 => ?_) (k, Int32.toInt64 0, 0) (show k ≤ k ∧ k ≤ ml ∧ 0 ≤ k from (by refine ⟨?_, ?_, ?_⟩ <;> omega)) _ _ _ (hP.sub [0, 1] rfl) (hD.sub [0, 1] (by decide) rfl) hS (lv_sub hl [3, 4, 2, 1, 0] rfl)
          obtain ⟨j, y, nn⟩ := u
          have hP : va_P (dC, dI) vwCl [(b 0, .inr (8, [.ref (b 1), .int (nI mt), .int (nI j), .int (nI k), .int so, .int tl, .int wr, .int wa, .int (gg 8), .int (gg 9), .ref (b 11), .ref (b 12), .ref (b 13), .int (nI mc), .int (nI mh), .ref (b 16), .ref (b 17), .ref (b 18), .ref (b 19), .ref (b 20), .ref (b 21), .ref (b 22), .ref (b 23), .ref (b 24), .int (nI mf), .ref (b 26), .ref (b 27), .ref (b 28), .ref (b 29), .ref (b 30), .ref (b 31), .ref (b 32), .int (gg 32), .int (nI md), .ref (b 35), .ref (b 36), .ref (b 37), .ref (b 38), .ref (b 39), .ref (b 40), .int (gg 40), .ref (b 42), .ref (b 43), .ref (b 44), .int (gg 44), .ref (b 46), .ref (b 47), .int (gg 47), .ref (b 49)])), (b 1, .inl (cB, 200, .inl ta))] H := hP
          have hD : va_D A [(b 0, .inr (8, [.ref (b 1), .int (nI mt), .int (nI j), .int (nI k), .int so, .int tl, .int wr, .int wa, .int (gg 8), .int (gg 9), .ref (b 11), .ref (b 12), .ref (b 13), .int (nI mc), .int (nI mh), .ref (b 16), .ref (b 17), .ref (b 18), .ref (b 19), .ref (b 20), .ref (b 21), .ref (b 22), .ref (b 23), .ref (b 24), .int (nI mf), .ref (b 26), .ref (b 27), .ref (b 28), .ref (b 29), .ref (b 30), .ref (b 31), .ref (b 32), .int (gg 32), .int (nI md), .ref (b 35), .ref (b 36), .ref (b 37), .ref (b 38), .ref (b 39), .ref (b 40), .int (gg 40), .ref (b 42), .ref (b 43), .ref (b 44), .int (gg 44), .ref (b 46), .ref (b 47), .int (gg 47), .ref (b 49)])), (b 1, .inl (cB, 200, .inl ta))] := hD
          have hl : lv_has ls 6 [(0, .ref (b 0)), (1, .int (nI ml)), (2, .int (ta (Int32.toNatClampNeg (nI k)))), (3, .long y), (5, .int (nI nn))] := hl
          have hI : k ≤ j ∧ j ≤ ml ∧ nn ≤ j := hI
          obtain ⟨ij0, ij1, inn⟩ := hI
          refine lv_aload_n hx hb dX8_next_79 rfl (lv_at hl 0 rfl) ?_
          refine va_get (D := (dC, dI)) (ci := 8) (v := .int (nI j)) (C := RX8) (T := TX8) (N := 49) hx hb hw zz_inX8 hown hK hP 0 rfl rfl 2 (by decide) (hw _ tw_296) (fun _ h9 => h9) rfl dX8_next_80 ?_
          refine lv_iload_n hx hb dX8_next_83 rfl (lv_at hl 1 rfl) ?_
          refine lv_icmp_ge (tgt := 150) hx hb dX8_next_84 (by decide) (fun c_33 => ?_) (fun c_33 => ?_)
          · have zc_33 := c_33
            rw [Int32.le_iff_toInt_le] at zc_33
            try rw [zz_toInt j (by omega)] at zc_33
            try rw [zz_toInt ml (by omega)] at zc_33
            have hadv : k < j := by omega
            refine lv_aload_n hx hb dX8_next_150 rfl (lv_at hl 0 rfl) ?_
            refine lv_iload hx hb dX8_next_151 (lv_at hl 4 rfl) ?_
            refine lv_iconst (v := 5) hx hb dX8_next_153 (by decide) ?_
            refine lv_icmp_le (tgt := 161) hx hb dX8_next_154 (by decide) (fun c_34 => ?_) (fun c_34 => ?_)
            · have zc_34 := c_34
              rw [Int32.le_iff_toInt_le] at zc_34
              try rw [zz_toInt nn (by omega)] at zc_34
              try rw [show (5 : Int32).toInt = 5 from by decide] at zc_34
              refine lv_lload_n hx hb dX8_next_161 rfl (lv_at hl 3 rfl) ?_
              have hPc := hP.sub (ws' := []) [] rfl
              have hDc := hD.sub (ws' := []) [] (by decide) rfl
              have hKc := hK.sub (tys' := []) [] rfl
              have hFc := zz_free0 hS hA
              refine va_calli (va_runS (As := [.long y]) (rest := [.ref (b 0)]) ⟨hx, hb, hml, hown, hw⟩ (m_wordOf l dC dI y H.size) ⟨callB_of 1 hw (zz_good tw_305) rfl rfl rfl (hw _ tw_184) (hw _ tw_306) (by decide +kernel) ⟨Nat.le_of_ble_eq_true rfl, Nat.le_of_ble_eq_true rfl⟩, (hw _ tw_307)⟩ ⟨zz_blind, zz_pre hPc hKc hDc hN⟩ rfl rfl hl.1 rfl (lv_room (Nat.le_of_ble_eq_true rfl)) dX8_next_162 ⟨Nat.le_of_ble_eq_true rfl, Nat.le_of_ble_eq_true rfl⟩) hS (fun q _ h => hFc q h) hFc (fun r_35 u_35 t H1 locs ht hvm e_35 hB hz1 hk1 hS => ?_)
              try dsimp only at e_35
              have hP := zz_keep hP hk1
              clear hk1 hB ht hvm
              generalize H1 = H at hP hS ⊢
              rcases e_35 with er_35 | ⟨qj_35, hj_35, er_35⟩
              · refine zz_seti (-1) er_35 ?_
                refine va_put (D := (dC, dI)) (ci := 8) (v := .int (-1)) (ty := .int) (C := RX8) (T := TX8) (N := 49) hx hb hw zz_inX8 tyX8 tyX8_ok nmX8 hown hK hP hD hS 0 rfl rfl 5 (by decide) (hw _ tw_303) (fun _ h9 => h9) rfl (by decide +kernel) rfl rfl (Nat.le_of_ble_eq_true rfl) dX8_next_165 (fun H locs hP hD hS => ?_)
                have hP : va_P (dC, dI) vwCl [(b 0, .inr (8, [.ref (b 1), .int (nI mt), .int (nI j), .int (nI k), .int so, .int (-1), .int wr, .int wa, .int (gg 8), .int (gg 9), .ref (b 11), .ref (b 12), .ref (b 13), .int (nI mc), .int (nI mh), .ref (b 16), .ref (b 17), .ref (b 18), .ref (b 19), .ref (b 20), .ref (b 21), .ref (b 22), .ref (b 23), .ref (b 24), .int (nI mf), .ref (b 26), .ref (b 27), .ref (b 28), .ref (b 29), .ref (b 30), .ref (b 31), .ref (b 32), .int (gg 32), .int (nI md), .ref (b 35), .ref (b 36), .ref (b 37), .ref (b 38), .ref (b 39), .ref (b 40), .int (gg 40), .ref (b 42), .ref (b 43), .ref (b 44), .int (gg 44), .ref (b 46), .ref (b 47), .int (gg 47), .ref (b 49)])), (b 1, .inl (cB, 200, .inl ta))] H := hP
                have hD : va_D A [(b 0, .inr (8, [.ref (b 1), .int (nI mt), .int (nI j), .int (nI k), .int so, .int (-1), .int wr, .int wa, .int (gg 8), .int (gg 9), .ref (b 11), .ref (b 12), .ref (b 13), .int (nI mc), .int (nI mh), .ref (b 16), .ref (b 17), .ref (b 18), .ref (b 19), .ref (b 20), .ref (b 21), .ref (b 22), .ref (b 23), .ref (b 24), .int (nI mf), .ref (b 26), .ref (b 27), .ref (b 28), .ref (b 29), .ref (b 30), .ref (b 31), .ref (b 32), .int (gg 32), .int (nI md), .ref (b 35), .ref (b 36), .ref (b 37), .ref (b 38), .ref (b 39), .ref (b 40), .int (gg 40), .ref (b 42), .ref (b 43), .ref (b 44), .int (gg 44), .ref (b 46), .ref (b 47), .int (gg 47), .ref (b 49)])), (b 1, .inl (cB, 200, .inl ta))] := hD
                refine lv_aload_n hx hb dX8_next_168 rfl (lv_at hl 0 rfl) ?_
                refine lv_aload_n hx hb dX8_next_169 rfl (lv_at hl 0 rfl) ?_
                refine va_get (D := (dC, dI)) (ci := 8) (v := .int (-1)) (C := RX8) (T := TX8) (N := 49) hx hb hw zz_inX8 hown hK hP 0 rfl rfl 5 (by decide) (hw _ tw_303) (fun _ h9 => h9) rfl dX8_next_170 ?_
                refine lv_if_ge (tgt := 180) hx hb dX8_next_173 (by decide) (fun c_9 => absurd c_9 (by decide)) (fun _ => ?_)
                refine lv_iconst (v := 4) hx hb dX8_next_176 (by decide) ?_
                refine lv_goto (tgt := 181) hx hb dX8_next_177 (by decide) ?_
                refine va_put (D := (dC, dI)) (ci := 8) (v := .int 4) (ty := .int) (C := RX8) (T := TX8) (N := 49) hx hb hw zz_inX8 tyX8 tyX8_ok nmX8 hown hK hP hD hS 0 rfl rfl 4 (by decide) (hw _ tw_302) (fun _ h9 => h9) rfl (by decide +kernel) rfl rfl (Nat.le_of_ble_eq_true rfl) dX8_next_181 (fun H locs hP hD hS => ?_)
                have hP : va_P (dC, dI) vwCl [(b 0, .inr (8, [.ref (b 1), .int (nI mt), .int (nI j), .int (nI k), .int 4, .int (-1), .int wr, .int wa, .int (gg 8), .int (gg 9), .ref (b 11), .ref (b 12), .ref (b 13), .int (nI mc), .int (nI mh), .ref (b 16), .ref (b 17), .ref (b 18), .ref (b 19), .ref (b 20), .ref (b 21), .ref (b 22), .ref (b 23), .ref (b 24), .int (nI mf), .ref (b 26), .ref (b 27), .ref (b 28), .ref (b 29), .ref (b 30), .ref (b 31), .ref (b 32), .int (gg 32), .int (nI md), .ref (b 35), .ref (b 36), .ref (b 37), .ref (b 38), .ref (b 39), .ref (b 40), .int (gg 40), .ref (b 42), .ref (b 43), .ref (b 44), .int (gg 44), .ref (b 46), .ref (b 47), .int (gg 47), .ref (b 49)])), (b 1, .inl (cB, 200, .inl ta))] H := hP
                have hD : va_D A [(b 0, .inr (8, [.ref (b 1), .int (nI mt), .int (nI j), .int (nI k), .int 4, .int (-1), .int wr, .int wa, .int (gg 8), .int (gg 9), .ref (b 11), .ref (b 12), .ref (b 13), .int (nI mc), .int (nI mh), .ref (b 16), .ref (b 17), .ref (b 18), .ref (b 19), .ref (b 20), .ref (b 21), .ref (b 22), .ref (b 23), .ref (b 24), .int (nI mf), .ref (b 26), .ref (b 27), .ref (b 28), .ref (b 29), .ref (b 30), .ref (b 31), .ref (b 32), .int (gg 32), .int (nI md), .ref (b 35), .ref (b 36), .ref (b 37), .ref (b 38), .ref (b 39), .ref (b 40), .int (gg 40), .ref (b 42), .ref (b 43), .ref (b 44), .int (gg 44), .ref (b 46), .ref (b 47), .int (gg 47), .ref (b 49)])), (b 1, .inl (cB, 200, .inl ta))] := hD
                refine lv_goto (tgt := 319) hx hb dX8_next_184 (by decide) ?_
                have hP9 := hP.sub (ws' := [(b 0, .inr (8, [.ref (b 1), .int (nI mt), .int (nI j), .int (nI k), .int 4, .int (-1), .int wr, .int wa, .int (gg 8), .int (gg 9), .ref (b 11), .ref (b 12), .ref (b 13), .int (nI mc), .int (nI mh), .ref (b 16), .ref (b 17), .ref (b 18), .ref (b 19), .ref (b 20), .ref (b 21), .ref (b 22), .ref (b 23), .ref (b 24), .int (nI mf), .ref (b 26), .ref (b 27), .ref (b 28), .ref (b 29), .ref (b 30), .ref (b 31), .ref (b 32), .int (gg 32), .int (nI md), .ref (b 35), .ref (b 36), .ref (b 37), .ref (b 38), .ref (b 39), .ref (b 40), .int (gg 40), .ref (b 42), .ref (b 43), .ref (b 44), .int (gg 44), .ref (b 46), .ref (b 47), .int (gg 47), .ref (b 49)])), (b 1, .inl (cB, 200, .inl ta))]) [0, 1] rfl
                have hD9 := hD.sub (ws' := [(b 0, .inr (8, [.ref (b 1), .int (nI mt), .int (nI j), .int (nI k), .int 4, .int (-1), .int wr, .int wa, .int (gg 8), .int (gg 9), .ref (b 11), .ref (b 12), .ref (b 13), .int (nI mc), .int (nI mh), .ref (b 16), .ref (b 17), .ref (b 18), .ref (b 19), .ref (b 20), .ref (b 21), .ref (b 22), .ref (b 23), .ref (b 24), .int (nI mf), .ref (b 26), .ref (b 27), .ref (b 28), .ref (b 29), .ref (b 30), .ref (b 31), .ref (b 32), .int (gg 32), .int (nI md), .ref (b 35), .ref (b 36), .ref (b 37), .ref (b 38), .ref (b 39), .ref (b 40), .int (gg 40), .ref (b 42), .ref (b 43), .ref (b 44), .int (gg 44), .ref (b 46), .ref (b 47), .int (gg 47), .ref (b 49)])), (b 1, .inl (cB, 200, .inl ta))]) [0, 1] (by decide) rfl
                have hK9 := hK.sub (tys' := [(cB, .byte)]) [0] rfl
                exact W.vret hx hb hr (fun t ht hW => ⟨⟨(j, (nI k), 4, (-1)), rfl, ⟨by omega, by omega, Or.inr (by omega), fun h9 => absurd h9 (by decide)⟩, by rw [ht]; exact hP9, va_K.moved hW.alike hK9, hD9⟩, hS.F ht⟩) hS.2.2 dX8_next_319
              · refine zz_seti (nI qj_35) er_35 ?_
                refine va_put (D := (dC, dI)) (ci := 8) (v := .int (nI qj_35)) (ty := .int) (C := RX8) (T := TX8) (N := 49) hx hb hw zz_inX8 tyX8 tyX8_ok nmX8 hown hK hP hD hS 0 rfl rfl 5 (by decide) (hw _ tw_303) (fun _ h9 => h9) rfl (by decide +kernel) rfl rfl (Nat.le_of_ble_eq_true rfl) dX8_next_165 (fun H locs hP hD hS => ?_)
                have hP : va_P (dC, dI) vwCl [(b 0, .inr (8, [.ref (b 1), .int (nI mt), .int (nI j), .int (nI k), .int so, .int (nI qj_35), .int wr, .int wa, .int (gg 8), .int (gg 9), .ref (b 11), .ref (b 12), .ref (b 13), .int (nI mc), .int (nI mh), .ref (b 16), .ref (b 17), .ref (b 18), .ref (b 19), .ref (b 20), .ref (b 21), .ref (b 22), .ref (b 23), .ref (b 24), .int (nI mf), .ref (b 26), .ref (b 27), .ref (b 28), .ref (b 29), .ref (b 30), .ref (b 31), .ref (b 32), .int (gg 32), .int (nI md), .ref (b 35), .ref (b 36), .ref (b 37), .ref (b 38), .ref (b 39), .ref (b 40), .int (gg 40), .ref (b 42), .ref (b 43), .ref (b 44), .int (gg 44), .ref (b 46), .ref (b 47), .int (gg 47), .ref (b 49)])), (b 1, .inl (cB, 200, .inl ta))] H := hP
                have hD : va_D A [(b 0, .inr (8, [.ref (b 1), .int (nI mt), .int (nI j), .int (nI k), .int so, .int (nI qj_35), .int wr, .int wa, .int (gg 8), .int (gg 9), .ref (b 11), .ref (b 12), .ref (b 13), .int (nI mc), .int (nI mh), .ref (b 16), .ref (b 17), .ref (b 18), .ref (b 19), .ref (b 20), .ref (b 21), .ref (b 22), .ref (b 23), .ref (b 24), .int (nI mf), .ref (b 26), .ref (b 27), .ref (b 28), .ref (b 29), .ref (b 30), .ref (b 31), .ref (b 32), .int (gg 32), .int (nI md), .ref (b 35), .ref (b 36), .ref (b 37), .ref (b 38), .ref (b 39), .ref (b 40), .int (gg 40), .ref (b 42), .ref (b 43), .ref (b 44), .int (gg 44), .ref (b 46), .ref (b 47), .int (gg 47), .ref (b 49)])), (b 1, .inl (cB, 200, .inl ta))] := hD
                refine lv_aload_n hx hb dX8_next_168 rfl (lv_at hl 0 rfl) ?_
                refine lv_aload_n hx hb dX8_next_169 rfl (lv_at hl 0 rfl) ?_
                refine va_get (D := (dC, dI)) (ci := 8) (v := .int (nI qj_35)) (C := RX8) (T := TX8) (N := 49) hx hb hw zz_inX8 hown hK hP 0 rfl rfl 5 (by decide) (hw _ tw_303) (fun _ h9 => h9) rfl dX8_next_170 ?_
                refine lv_if_ge (tgt := 180) hx hb dX8_next_173 (by decide) (fun _ => ?_) (fun c_36 => absurd c_36 (fun h9 => h9 (by rw [Int32.le_iff_toInt_le, zz_toInt qj_35 (by omega), show (0 : Int32).toInt = 0 from by decide]; omega)))
                refine lv_iconst (v := 1) hx hb dX8_next_180 (by decide) ?_
                refine va_put (D := (dC, dI)) (ci := 8) (v := .int 1) (ty := .int) (C := RX8) (T := TX8) (N := 49) hx hb hw zz_inX8 tyX8 tyX8_ok nmX8 hown hK hP hD hS 0 rfl rfl 4 (by decide) (hw _ tw_302) (fun _ h9 => h9) rfl (by decide +kernel) rfl rfl (Nat.le_of_ble_eq_true rfl) dX8_next_181 (fun H locs hP hD hS => ?_)
                have hP : va_P (dC, dI) vwCl [(b 0, .inr (8, [.ref (b 1), .int (nI mt), .int (nI j), .int (nI k), .int 1, .int (nI qj_35), .int wr, .int wa, .int (gg 8), .int (gg 9), .ref (b 11), .ref (b 12), .ref (b 13), .int (nI mc), .int (nI mh), .ref (b 16), .ref (b 17), .ref (b 18), .ref (b 19), .ref (b 20), .ref (b 21), .ref (b 22), .ref (b 23), .ref (b 24), .int (nI mf), .ref (b 26), .ref (b 27), .ref (b 28), .ref (b 29), .ref (b 30), .ref (b 31), .ref (b 32), .int (gg 32), .int (nI md), .ref (b 35), .ref (b 36), .ref (b 37), .ref (b 38), .ref (b 39), .ref (b 40), .int (gg 40), .ref (b 42), .ref (b 43), .ref (b 44), .int (gg 44), .ref (b 46), .ref (b 47), .int (gg 47), .ref (b 49)])), (b 1, .inl (cB, 200, .inl ta))] H := hP
                have hD : va_D A [(b 0, .inr (8, [.ref (b 1), .int (nI mt), .int (nI j), .int (nI k), .int 1, .int (nI qj_35), .int wr, .int wa, .int (gg 8), .int (gg 9), .ref (b 11), .ref (b 12), .ref (b 13), .int (nI mc), .int (nI mh), .ref (b 16), .ref (b 17), .ref (b 18), .ref (b 19), .ref (b 20), .ref (b 21), .ref (b 22), .ref (b 23), .ref (b 24), .int (nI mf), .ref (b 26), .ref (b 27), .ref (b 28), .ref (b 29), .ref (b 30), .ref (b 31), .ref (b 32), .int (gg 32), .int (nI md), .ref (b 35), .ref (b 36), .ref (b 37), .ref (b 38), .ref (b 39), .ref (b 40), .int (gg 40), .ref (b 42), .ref (b 43), .ref (b 44), .int (gg 44), .ref (b 46), .ref (b 47), .int (gg 47), .ref (b 49)])), (b 1, .inl (cB, 200, .inl ta))] := hD
                refine lv_goto (tgt := 319) hx hb dX8_next_184 (by decide) ?_
                have hP9 := hP.sub (ws' := [(b 0, .inr (8, [.ref (b 1), .int (nI mt), .int (nI j), .int (nI k), .int 1, .int (nI qj_35), .int wr, .int wa, .int (gg 8), .int (gg 9), .ref (b 11), .ref (b 12), .ref (b 13), .int (nI mc), .int (nI mh), .ref (b 16), .ref (b 17), .ref (b 18), .ref (b 19), .ref (b 20), .ref (b 21), .ref (b 22), .ref (b 23), .ref (b 24), .int (nI mf), .ref (b 26), .ref (b 27), .ref (b 28), .ref (b 29), .ref (b 30), .ref (b 31), .ref (b 32), .int (gg 32), .int (nI md), .ref (b 35), .ref (b 36), .ref (b 37), .ref (b 38), .ref (b 39), .ref (b 40), .int (gg 40), .ref (b 42), .ref (b 43), .ref (b 44), .int (gg 44), .ref (b 46), .ref (b 47), .int (gg 47), .ref (b 49)])), (b 1, .inl (cB, 200, .inl ta))]) [0, 1] rfl
                have hD9 := hD.sub (ws' := [(b 0, .inr (8, [.ref (b 1), .int (nI mt), .int (nI j), .int (nI k), .int 1, .int (nI qj_35), .int wr, .int wa, .int (gg 8), .int (gg 9), .ref (b 11), .ref (b 12), .ref (b 13), .int (nI mc), .int (nI mh), .ref (b 16), .ref (b 17), .ref (b 18), .ref (b 19), .ref (b 20), .ref (b 21), .ref (b 22), .ref (b 23), .ref (b 24), .int (nI mf), .ref (b 26), .ref (b 27), .ref (b 28), .ref (b 29), .ref (b 30), .ref (b 31), .ref (b 32), .int (gg 32), .int (nI md), .ref (b 35), .ref (b 36), .ref (b 37), .ref (b 38), .ref (b 39), .ref (b 40), .int (gg 40), .ref (b 42), .ref (b 43), .ref (b 44), .int (gg 44), .ref (b 46), .ref (b 47), .int (gg 47), .ref (b 49)])), (b 1, .inl (cB, 200, .inl ta))]) [0, 1] (by decide) rfl
                have hK9 := hK.sub (tys' := [(cB, .byte)]) [0] rfl
                exact W.vret hx hb hr (fun t ht hW => ⟨⟨(j, (nI k), 1, (nI qj_35)), rfl, ⟨by omega, by omega, Or.inr (by omega), fun _ => ⟨qj_35, by omega, rfl⟩⟩, by rw [ht]; exact hP9, va_K.moved hW.alike hK9, hD9⟩, hS.F ht⟩) hS.2.2 dX8_next_319
            · have zc_34 := c_34
              rw [Int32.le_iff_toInt_le] at zc_34
              try rw [zz_toInt nn (by omega)] at zc_34
              try rw [show (5 : Int32).toInt = 5 from by decide] at zc_34
              refine lv_iconst (v := (-1)) hx hb dX8_next_157 (by decide) ?_
              refine lv_goto (tgt := 165) hx hb dX8_next_158 (by decide) ?_
              refine va_put (D := (dC, dI)) (ci := 8) (v := .int (-1)) (ty := .int) (C := RX8) (T := TX8) (N := 49) hx hb hw zz_inX8 tyX8 tyX8_ok nmX8 hown hK hP hD hS 0 rfl rfl 5 (by decide) (hw _ tw_303) (fun _ h9 => h9) rfl (by decide +kernel) rfl rfl (Nat.le_of_ble_eq_true rfl) dX8_next_165 (fun H locs hP hD hS => ?_)
              have hP : va_P (dC, dI) vwCl [(b 0, .inr (8, [.ref (b 1), .int (nI mt), .int (nI j), .int (nI k), .int so, .int (-1), .int wr, .int wa, .int (gg 8), .int (gg 9), .ref (b 11), .ref (b 12), .ref (b 13), .int (nI mc), .int (nI mh), .ref (b 16), .ref (b 17), .ref (b 18), .ref (b 19), .ref (b 20), .ref (b 21), .ref (b 22), .ref (b 23), .ref (b 24), .int (nI mf), .ref (b 26), .ref (b 27), .ref (b 28), .ref (b 29), .ref (b 30), .ref (b 31), .ref (b 32), .int (gg 32), .int (nI md), .ref (b 35), .ref (b 36), .ref (b 37), .ref (b 38), .ref (b 39), .ref (b 40), .int (gg 40), .ref (b 42), .ref (b 43), .ref (b 44), .int (gg 44), .ref (b 46), .ref (b 47), .int (gg 47), .ref (b 49)])), (b 1, .inl (cB, 200, .inl ta))] H := hP
              have hD : va_D A [(b 0, .inr (8, [.ref (b 1), .int (nI mt), .int (nI j), .int (nI k), .int so, .int (-1), .int wr, .int wa, .int (gg 8), .int (gg 9), .ref (b 11), .ref (b 12), .ref (b 13), .int (nI mc), .int (nI mh), .ref (b 16), .ref (b 17), .ref (b 18), .ref (b 19), .ref (b 20), .ref (b 21), .ref (b 22), .ref (b 23), .ref (b 24), .int (nI mf), .ref (b 26), .ref (b 27), .ref (b 28), .ref (b 29), .ref (b 30), .ref (b 31), .ref (b 32), .int (gg 32), .int (nI md), .ref (b 35), .ref (b 36), .ref (b 37), .ref (b 38), .ref (b 39), .ref (b 40), .int (gg 40), .ref (b 42), .ref (b 43), .ref (b 44), .int (gg 44), .ref (b 46), .ref (b 47), .int (gg 47), .ref (b 49)])), (b 1, .inl (cB, 200, .inl ta))] := hD
              refine lv_aload_n hx hb dX8_next_168 rfl (lv_at hl 0 rfl) ?_
              refine lv_aload_n hx hb dX8_next_169 rfl (lv_at hl 0 rfl) ?_
              refine va_get (D := (dC, dI)) (ci := 8) (v := .int (-1)) (C := RX8) (T := TX8) (N := 49) hx hb hw zz_inX8 hown hK hP 0 rfl rfl 5 (by decide) (hw _ tw_303) (fun _ h9 => h9) rfl dX8_next_170 ?_
              refine lv_if_ge (tgt := 180) hx hb dX8_next_173 (by decide) (fun c_9 => absurd c_9 (by decide)) (fun _ => ?_)
              refine lv_iconst (v := 4) hx hb dX8_next_176 (by decide) ?_
              refine lv_goto (tgt := 181) hx hb dX8_next_177 (by decide) ?_
              refine va_put (D := (dC, dI)) (ci := 8) (v := .int 4) (ty := .int) (C := RX8) (T := TX8) (N := 49) hx hb hw zz_inX8 tyX8 tyX8_ok nmX8 hown hK hP hD hS 0 rfl rfl 4 (by decide) (hw _ tw_302) (fun _ h9 => h9) rfl (by decide +kernel) rfl rfl (Nat.le_of_ble_eq_true rfl) dX8_next_181 (fun H locs hP hD hS => ?_)
              have hP : va_P (dC, dI) vwCl [(b 0, .inr (8, [.ref (b 1), .int (nI mt), .int (nI j), .int (nI k), .int 4, .int (-1), .int wr, .int wa, .int (gg 8), .int (gg 9), .ref (b 11), .ref (b 12), .ref (b 13), .int (nI mc), .int (nI mh), .ref (b 16), .ref (b 17), .ref (b 18), .ref (b 19), .ref (b 20), .ref (b 21), .ref (b 22), .ref (b 23), .ref (b 24), .int (nI mf), .ref (b 26), .ref (b 27), .ref (b 28), .ref (b 29), .ref (b 30), .ref (b 31), .ref (b 32), .int (gg 32), .int (nI md), .ref (b 35), .ref (b 36), .ref (b 37), .ref (b 38), .ref (b 39), .ref (b 40), .int (gg 40), .ref (b 42), .ref (b 43), .ref (b 44), .int (gg 44), .ref (b 46), .ref (b 47), .int (gg 47), .ref (b 49)])), (b 1, .inl (cB, 200, .inl ta))] H := hP
              have hD : va_D A [(b 0, .inr (8, [.ref (b 1), .int (nI mt), .int (nI j), .int (nI k), .int 4, .int (-1), .int wr, .int wa, .int (gg 8), .int (gg 9), .ref (b 11), .ref (b 12), .ref (b 13), .int (nI mc), .int (nI mh), .ref (b 16), .ref (b 17), .ref (b 18), .ref (b 19), .ref (b 20), .ref (b 21), .ref (b 22), .ref (b 23), .ref (b 24), .int (nI mf), .ref (b 26), .ref (b 27), .ref (b 28), .ref (b 29), .ref (b 30), .ref (b 31), .ref (b 32), .int (gg 32), .int (nI md), .ref (b 35), .ref (b 36), .ref (b 37), .ref (b 38), .ref (b 39), .ref (b 40), .int (gg 40), .ref (b 42), .ref (b 43), .ref (b 44), .int (gg 44), .ref (b 46), .ref (b 47), .int (gg 47), .ref (b 49)])), (b 1, .inl (cB, 200, .inl ta))] := hD
              refine lv_goto (tgt := 319) hx hb dX8_next_184 (by decide) ?_
              have hP9 := hP.sub (ws' := [(b 0, .inr (8, [.ref (b 1), .int (nI mt), .int (nI j), .int (nI k), .int 4, .int (-1), .int wr, .int wa, .int (gg 8), .int (gg 9), .ref (b 11), .ref (b 12), .ref (b 13), .int (nI mc), .int (nI mh), .ref (b 16), .ref (b 17), .ref (b 18), .ref (b 19), .ref (b 20), .ref (b 21), .ref (b 22), .ref (b 23), .ref (b 24), .int (nI mf), .ref (b 26), .ref (b 27), .ref (b 28), .ref (b 29), .ref (b 30), .ref (b 31), .ref (b 32), .int (gg 32), .int (nI md), .ref (b 35), .ref (b 36), .ref (b 37), .ref (b 38), .ref (b 39), .ref (b 40), .int (gg 40), .ref (b 42), .ref (b 43), .ref (b 44), .int (gg 44), .ref (b 46), .ref (b 47), .int (gg 47), .ref (b 49)])), (b 1, .inl (cB, 200, .inl ta))]) [0, 1] rfl
              have hD9 := hD.sub (ws' := [(b 0, .inr (8, [.ref (b 1), .int (nI mt), .int (nI j), .int (nI k), .int 4, .int (-1), .int wr, .int wa, .int (gg 8), .int (gg 9), .ref (b 11), .ref (b 12), .ref (b 13), .int (nI mc), .int (nI mh), .ref (b 16), .ref (b 17), .ref (b 18), .ref (b 19), .ref (b 20), .ref (b 21), .ref (b 22), .ref (b 23), .ref (b 24), .int (nI mf), .ref (b 26), .ref (b 27), .ref (b 28), .ref (b 29), .ref (b 30), .ref (b 31), .ref (b 32), .int (gg 32), .int (nI md), .ref (b 35), .ref (b 36), .ref (b 37), .ref (b 38), .ref (b 39), .ref (b 40), .int (gg 40), .ref (b 42), .ref (b 43), .ref (b 44), .int (gg 44), .ref (b 46), .ref (b 47), .int (gg 47), .ref (b 49)])), (b 1, .inl (cB, 200, .inl ta))]) [0, 1] (by decide) rfl
              have hK9 := hK.sub (tys' := [(cB, .byte)]) [0] rfl
              exact W.vret hx hb hr (fun t ht hW => ⟨⟨(j, (nI k), 4, (-1)), rfl, ⟨by omega, by omega, Or.inr (by omega), fun h9 => absurd h9 (by decide)⟩, by rw [ht]; exact hP9, va_K.moved hW.alike hK9, hD9⟩, hS.F ht⟩) hS.2.2 dX8_next_319
          · have zc_33 := c_33
            rw [Int32.le_iff_toInt_le] at zc_33
            try rw [zz_toInt j (by omega)] at zc_33
            try rw [zz_toInt ml (by omega)] at zc_33
            refine lv_aload_n hx hb dX8_next_87 rfl (lv_at hl 0 rfl) ?_
            refine va_get (D := (dC, dI)) (ci := 8) (v := .ref (b 1)) (C := RX8) (T := TX8) (N := 49) hx hb hw zz_inX8 hown hK hP 0 rfl rfl 0 (by decide) (hw _ tw_191) (fun _ h9 => h9) rfl dX8_next_88 ?_
            refine lv_aload_n hx hb dX8_next_91 rfl (lv_at hl 0 rfl) ?_
            refine va_get (D := (dC, dI)) (ci := 8) (v := .int (nI j)) (C := RX8) (T := TX8) (N := 49) hx hb hw zz_inX8 hown hK hP 0 rfl rfl 2 (by decide) (hw _ tw_296) (fun _ h9 => h9) rfl dX8_next_92 ?_
            refine va_bald hx hb hK hP 1 0 rfl rfl (vp_in_iff.mpr (by rw [zz_toInt j (by omega)]; constructor <;> omega)) dX8_next_95 ?_
            have hPc := hP.sub (ws' := []) [] rfl
            have hDc := hD.sub (ws' := []) [] (by decide) rfl
            have hKc := hK.sub (tys' := []) [] rfl
            have hFc := zz_free0 hS hA
            refine va_calli (va_runS (As := [.int (ta (Int32.toNatClampNeg (nI j)))]) (rest := []) ⟨hx, hb, hml, hown, hw⟩ (m_isLetter l dC dI (ta (Int32.toNatClampNeg (nI j))) H.size) ⟨callB_of 1 hw (zz_good tw_297) rfl rfl rfl (hw _ tw_184) (hw _ tw_298) (by decide +kernel) ⟨Nat.le_of_ble_eq_true rfl, Nat.le_of_ble_eq_true rfl⟩, (hw _ tw_299)⟩ ⟨zz_blind, zz_pre hPc hKc hDc hN⟩ rfl rfl hl.1 rfl (lv_room (Nat.le_of_ble_eq_true rfl)) dX8_next_96 ⟨Nat.le_of_ble_eq_true rfl, Nat.le_of_ble_eq_true rfl⟩) hS (fun q _ h => hFc q h) hFc (fun r_37 u_37 t H1 locs ht hvm e_37 hB hz1 hk1 hS => ?_)
            try dsimp only at e_37
            have hP := zz_keep hP hk1
            clear hk1 hB ht hvm
            generalize H1 = H at hP hS ⊢
            refine lv_if_eq (tgt := 150) hx hb dX8_next_99 (by decide) (fun c_38 => ?_) (fun c_38 => ?_)
            · have zc_38 := c_38
              rw [← Int32.toInt_inj] at zc_38
              try rw [show (0 : Int32).toInt = 0 from by decide] at zc_38
              have hadv : k < j := zz_adv (f := ta) (F := zz_il) e_24 c_25 e_37 c_38 (by omega)
              refine lv_aload_n hx hb dX8_next_150 rfl (lv_at hl 0 rfl) ?_
              refine lv_iload hx hb dX8_next_151 (lv_at hl 4 rfl) ?_
              refine lv_iconst (v := 5) hx hb dX8_next_153 (by decide) ?_
              refine lv_icmp_le (tgt := 161) hx hb dX8_next_154 (by decide) (fun c_39 => ?_) (fun c_39 => ?_)
              · have zc_39 := c_39
                rw [Int32.le_iff_toInt_le] at zc_39
                try rw [zz_toInt nn (by omega)] at zc_39
                try rw [show (5 : Int32).toInt = 5 from by decide] at zc_39
                refine lv_lload_n hx hb dX8_next_161 rfl (lv_at hl 3 rfl) ?_
                have hPc := hP.sub (ws' := []) [] rfl
                have hDc := hD.sub (ws' := []) [] (by decide) rfl
                have hKc := hK.sub (tys' := []) [] rfl
                have hFc := zz_free0 hS hA
                refine va_calli (va_runS (As := [.long y]) (rest := [.ref (b 0)]) ⟨hx, hb, hml, hown, hw⟩ (m_wordOf l dC dI y H.size) ⟨callB_of 1 hw (zz_good tw_305) rfl rfl rfl (hw _ tw_184) (hw _ tw_306) (by decide +kernel) ⟨Nat.le_of_ble_eq_true rfl, Nat.le_of_ble_eq_true rfl⟩, (hw _ tw_307)⟩ ⟨zz_blind, zz_pre hPc hKc hDc hN⟩ rfl rfl hl.1 rfl (lv_room (Nat.le_of_ble_eq_true rfl)) dX8_next_162 ⟨Nat.le_of_ble_eq_true rfl, Nat.le_of_ble_eq_true rfl⟩) hS (fun q _ h => hFc q h) hFc (fun r_40 u_40 t H1 locs ht hvm e_40 hB hz1 hk1 hS => ?_)
                try dsimp only at e_40
                have hP := zz_keep hP hk1
                clear hk1 hB ht hvm
                generalize H1 = H at hP hS ⊢
                rcases e_40 with er_40 | ⟨qj_40, hj_40, er_40⟩
                · refine zz_seti (-1) er_40 ?_
                  refine va_put (D := (dC, dI)) (ci := 8) (v := .int (-1)) (ty := .int) (C := RX8) (T := TX8) (N := 49) hx hb hw zz_inX8 tyX8 tyX8_ok nmX8 hown hK hP hD hS 0 rfl rfl 5 (by decide) (hw _ tw_303) (fun _ h9 => h9) rfl (by decide +kernel) rfl rfl (Nat.le_of_ble_eq_true rfl) dX8_next_165 (fun H locs hP hD hS => ?_)
                  have hP : va_P (dC, dI) vwCl [(b 0, .inr (8, [.ref (b 1), .int (nI mt), .int (nI j), .int (nI k), .int so, .int (-1), .int wr, .int wa, .int (gg 8), .int (gg 9), .ref (b 11), .ref (b 12), .ref (b 13), .int (nI mc), .int (nI mh), .ref (b 16), .ref (b 17), .ref (b 18), .ref (b 19), .ref (b 20), .ref (b 21), .ref (b 22), .ref (b 23), .ref (b 24), .int (nI mf), .ref (b 26), .ref (b 27), .ref (b 28), .ref (b 29), .ref (b 30), .ref (b 31), .ref (b 32), .int (gg 32), .int (nI md), .ref (b 35), .ref (b 36), .ref (b 37), .ref (b 38), .ref (b 39), .ref (b 40), .int (gg 40), .ref (b 42), .ref (b 43), .ref (b 44), .int (gg 44), .ref (b 46), .ref (b 47), .int (gg 47), .ref (b 49)])), (b 1, .inl (cB, 200, .inl ta))] H := hP
                  have hD : va_D A [(b 0, .inr (8, [.ref (b 1), .int (nI mt), .int (nI j), .int (nI k), .int so, .int (-1), .int wr, .int wa, .int (gg 8), .int (gg 9), .ref (b 11), .ref (b 12), .ref (b 13), .int (nI mc), .int (nI mh), .ref (b 16), .ref (b 17), .ref (b 18), .ref (b 19), .ref (b 20), .ref (b 21), .ref (b 22), .ref (b 23), .ref (b 24), .int (nI mf), .ref (b 26), .ref (b 27), .ref (b 28), .ref (b 29), .ref (b 30), .ref (b 31), .ref (b 32), .int (gg 32), .int (nI md), .ref (b 35), .ref (b 36), .ref (b 37), .ref (b 38), .ref (b 39), .ref (b 40), .int (gg 40), .ref (b 42), .ref (b 43), .ref (b 44), .int (gg 44), .ref (b 46), .ref (b 47), .int (gg 47), .ref (b 49)])), (b 1, .inl (cB, 200, .inl ta))] := hD
                  refine lv_aload_n hx hb dX8_next_168 rfl (lv_at hl 0 rfl) ?_
                  refine lv_aload_n hx hb dX8_next_169 rfl (lv_at hl 0 rfl) ?_
                  refine va_get (D := (dC, dI)) (ci := 8) (v := .int (-1)) (C := RX8) (T := TX8) (N := 49) hx hb hw zz_inX8 hown hK hP 0 rfl rfl 5 (by decide) (hw _ tw_303) (fun _ h9 => h9) rfl dX8_next_170 ?_
                  refine lv_if_ge (tgt := 180) hx hb dX8_next_173 (by decide) (fun c_9 => absurd c_9 (by decide)) (fun _ => ?_)
                  refine lv_iconst (v := 4) hx hb dX8_next_176 (by decide) ?_
                  refine lv_goto (tgt := 181) hx hb dX8_next_177 (by decide) ?_
                  refine va_put (D := (dC, dI)) (ci := 8) (v := .int 4) (ty := .int) (C := RX8) (T := TX8) (N := 49) hx hb hw zz_inX8 tyX8 tyX8_ok nmX8 hown hK hP hD hS 0 rfl rfl 4 (by decide) (hw _ tw_302) (fun _ h9 => h9) rfl (by decide +kernel) rfl rfl (Nat.le_of_ble_eq_true rfl) dX8_next_181 (fun H locs hP hD hS => ?_)
                  have hP : va_P (dC, dI) vwCl [(b 0, .inr (8, [.ref (b 1), .int (nI mt), .int (nI j), .int (nI k), .int 4, .int (-1), .int wr, .int wa, .int (gg 8), .int (gg 9), .ref (b 11), .ref (b 12), .ref (b 13), .int (nI mc), .int (nI mh), .ref (b 16), .ref (b 17), .ref (b 18), .ref (b 19), .ref (b 20), .ref (b 21), .ref (b 22), .ref (b 23), .ref (b 24), .int (nI mf), .ref (b 26), .ref (b 27), .ref (b 28), .ref (b 29), .ref (b 30), .ref (b 31), .ref (b 32), .int (gg 32), .int (nI md), .ref (b 35), .ref (b 36), .ref (b 37), .ref (b 38), .ref (b 39), .ref (b 40), .int (gg 40), .ref (b 42), .ref (b 43), .ref (b 44), .int (gg 44), .ref (b 46), .ref (b 47), .int (gg 47), .ref (b 49)])), (b 1, .inl (cB, 200, .inl ta))] H := hP
                  have hD : va_D A [(b 0, .inr (8, [.ref (b 1), .int (nI mt), .int (nI j), .int (nI k), .int 4, .int (-1), .int wr, .int wa, .int (gg 8), .int (gg 9), .ref (b 11), .ref (b 12), .ref (b 13), .int (nI mc), .int (nI mh), .ref (b 16), .ref (b 17), .ref (b 18), .ref (b 19), .ref (b 20), .ref (b 21), .ref (b 22), .ref (b 23), .ref (b 24), .int (nI mf), .ref (b 26), .ref (b 27), .ref (b 28), .ref (b 29), .ref (b 30), .ref (b 31), .ref (b 32), .int (gg 32), .int (nI md), .ref (b 35), .ref (b 36), .ref (b 37), .ref (b 38), .ref (b 39), .ref (b 40), .int (gg 40), .ref (b 42), .ref (b 43), .ref (b 44), .int (gg 44), .ref (b 46), .ref (b 47), .int (gg 47), .ref (b 49)])), (b 1, .inl (cB, 200, .inl ta))] := hD
                  refine lv_goto (tgt := 319) hx hb dX8_next_184 (by decide) ?_
                  have hP9 := hP.sub (ws' := [(b 0, .inr (8, [.ref (b 1), .int (nI mt), .int (nI j), .int (nI k), .int 4, .int (-1), .int wr, .int wa, .int (gg 8), .int (gg 9), .ref (b 11), .ref (b 12), .ref (b 13), .int (nI mc), .int (nI mh), .ref (b 16), .ref (b 17), .ref (b 18), .ref (b 19), .ref (b 20), .ref (b 21), .ref (b 22), .ref (b 23), .ref (b 24), .int (nI mf), .ref (b 26), .ref (b 27), .ref (b 28), .ref (b 29), .ref (b 30), .ref (b 31), .ref (b 32), .int (gg 32), .int (nI md), .ref (b 35), .ref (b 36), .ref (b 37), .ref (b 38), .ref (b 39), .ref (b 40), .int (gg 40), .ref (b 42), .ref (b 43), .ref (b 44), .int (gg 44), .ref (b 46), .ref (b 47), .int (gg 47), .ref (b 49)])), (b 1, .inl (cB, 200, .inl ta))]) [0, 1] rfl
                  have hD9 := hD.sub (ws' := [(b 0, .inr (8, [.ref (b 1), .int (nI mt), .int (nI j), .int (nI k), .int 4, .int (-1), .int wr, .int wa, .int (gg 8), .int (gg 9), .ref (b 11), .ref (b 12), .ref (b 13), .int (nI mc), .int (nI mh), .ref (b 16), .ref (b 17), .ref (b 18), .ref (b 19), .ref (b 20), .ref (b 21), .ref (b 22), .ref (b 23), .ref (b 24), .int (nI mf), .ref (b 26), .ref (b 27), .ref (b 28), .ref (b 29), .ref (b 30), .ref (b 31), .ref (b 32), .int (gg 32), .int (nI md), .ref (b 35), .ref (b 36), .ref (b 37), .ref (b 38), .ref (b 39), .ref (b 40), .int (gg 40), .ref (b 42), .ref (b 43), .ref (b 44), .int (gg 44), .ref (b 46), .ref (b 47), .int (gg 47), .ref (b 49)])), (b 1, .inl (cB, 200, .inl ta))]) [0, 1] (by decide) rfl
                  have hK9 := hK.sub (tys' := [(cB, .byte)]) [0] rfl
                  exact W.vret hx hb hr (fun t ht hW => ⟨⟨(j, (nI k), 4, (-1)), rfl, ⟨by omega, by omega, Or.inr (by omega), fun h9 => absurd h9 (by decide)⟩, by rw [ht]; exact hP9, va_K.moved hW.alike hK9, hD9⟩, hS.F ht⟩) hS.2.2 dX8_next_319
                · refine zz_seti (nI qj_40) er_40 ?_
                  refine va_put (D := (dC, dI)) (ci := 8) (v := .int (nI qj_40)) (ty := .int) (C := RX8) (T := TX8) (N := 49) hx hb hw zz_inX8 tyX8 tyX8_ok nmX8 hown hK hP hD hS 0 rfl rfl 5 (by decide) (hw _ tw_303) (fun _ h9 => h9) rfl (by decide +kernel) rfl rfl (Nat.le_of_ble_eq_true rfl) dX8_next_165 (fun H locs hP hD hS => ?_)
                  have hP : va_P (dC, dI) vwCl [(b 0, .inr (8, [.ref (b 1), .int (nI mt), .int (nI j), .int (nI k), .int so, .int (nI qj_40), .int wr, .int wa, .int (gg 8), .int (gg 9), .ref (b 11), .ref (b 12), .ref (b 13), .int (nI mc), .int (nI mh), .ref (b 16), .ref (b 17), .ref (b 18), .ref (b 19), .ref (b 20), .ref (b 21), .ref (b 22), .ref (b 23), .ref (b 24), .int (nI mf), .ref (b 26), .ref (b 27), .ref (b 28), .ref (b 29), .ref (b 30), .ref (b 31), .ref (b 32), .int (gg 32), .int (nI md), .ref (b 35), .ref (b 36), .ref (b 37), .ref (b 38), .ref (b 39), .ref (b 40), .int (gg 40), .ref (b 42), .ref (b 43), .ref (b 44), .int (gg 44), .ref (b 46), .ref (b 47), .int (gg 47), .ref (b 49)])), (b 1, .inl (cB, 200, .inl ta))] H := hP
                  have hD : va_D A [(b 0, .inr (8, [.ref (b 1), .int (nI mt), .int (nI j), .int (nI k), .int so, .int (nI qj_40), .int wr, .int wa, .int (gg 8), .int (gg 9), .ref (b 11), .ref (b 12), .ref (b 13), .int (nI mc), .int (nI mh), .ref (b 16), .ref (b 17), .ref (b 18), .ref (b 19), .ref (b 20), .ref (b 21), .ref (b 22), .ref (b 23), .ref (b 24), .int (nI mf), .ref (b 26), .ref (b 27), .ref (b 28), .ref (b 29), .ref (b 30), .ref (b 31), .ref (b 32), .int (gg 32), .int (nI md), .ref (b 35), .ref (b 36), .ref (b 37), .ref (b 38), .ref (b 39), .ref (b 40), .int (gg 40), .ref (b 42), .ref (b 43), .ref (b 44), .int (gg 44), .ref (b 46), .ref (b 47), .int (gg 47), .ref (b 49)])), (b 1, .inl (cB, 200, .inl ta))] := hD
                  refine lv_aload_n hx hb dX8_next_168 rfl (lv_at hl 0 rfl) ?_
                  refine lv_aload_n hx hb dX8_next_169 rfl (lv_at hl 0 rfl) ?_
                  refine va_get (D := (dC, dI)) (ci := 8) (v := .int (nI qj_40)) (C := RX8) (T := TX8) (N := 49) hx hb hw zz_inX8 hown hK hP 0 rfl rfl 5 (by decide) (hw _ tw_303) (fun _ h9 => h9) rfl dX8_next_170 ?_
                  refine lv_if_ge (tgt := 180) hx hb dX8_next_173 (by decide) (fun _ => ?_) (fun c_41 => absurd c_41 (fun h9 => h9 (by rw [Int32.le_iff_toInt_le, zz_toInt qj_40 (by omega), show (0 : Int32).toInt = 0 from by decide]; omega)))
                  refine lv_iconst (v := 1) hx hb dX8_next_180 (by decide) ?_
                  refine va_put (D := (dC, dI)) (ci := 8) (v := .int 1) (ty := .int) (C := RX8) (T := TX8) (N := 49) hx hb hw zz_inX8 tyX8 tyX8_ok nmX8 hown hK hP hD hS 0 rfl rfl 4 (by decide) (hw _ tw_302) (fun _ h9 => h9) rfl (by decide +kernel) rfl rfl (Nat.le_of_ble_eq_true rfl) dX8_next_181 (fun H locs hP hD hS => ?_)
                  have hP : va_P (dC, dI) vwCl [(b 0, .inr (8, [.ref (b 1), .int (nI mt), .int (nI j), .int (nI k), .int 1, .int (nI qj_40), .int wr, .int wa, .int (gg 8), .int (gg 9), .ref (b 11), .ref (b 12), .ref (b 13), .int (nI mc), .int (nI mh), .ref (b 16), .ref (b 17), .ref (b 18), .ref (b 19), .ref (b 20), .ref (b 21), .ref (b 22), .ref (b 23), .ref (b 24), .int (nI mf), .ref (b 26), .ref (b 27), .ref (b 28), .ref (b 29), .ref (b 30), .ref (b 31), .ref (b 32), .int (gg 32), .int (nI md), .ref (b 35), .ref (b 36), .ref (b 37), .ref (b 38), .ref (b 39), .ref (b 40), .int (gg 40), .ref (b 42), .ref (b 43), .ref (b 44), .int (gg 44), .ref (b 46), .ref (b 47), .int (gg 47), .ref (b 49)])), (b 1, .inl (cB, 200, .inl ta))] H := hP
                  have hD : va_D A [(b 0, .inr (8, [.ref (b 1), .int (nI mt), .int (nI j), .int (nI k), .int 1, .int (nI qj_40), .int wr, .int wa, .int (gg 8), .int (gg 9), .ref (b 11), .ref (b 12), .ref (b 13), .int (nI mc), .int (nI mh), .ref (b 16), .ref (b 17), .ref (b 18), .ref (b 19), .ref (b 20), .ref (b 21), .ref (b 22), .ref (b 23), .ref (b 24), .int (nI mf), .ref (b 26), .ref (b 27), .ref (b 28), .ref (b 29), .ref (b 30), .ref (b 31), .ref (b 32), .int (gg 32), .int (nI md), .ref (b 35), .ref (b 36), .ref (b 37), .ref (b 38), .ref (b 39), .ref (b 40), .int (gg 40), .ref (b 42), .ref (b 43), .ref (b 44), .int (gg 44), .ref (b 46), .ref (b 47), .int (gg 47), .ref (b 49)])), (b 1, .inl (cB, 200, .inl ta))] := hD
                  refine lv_goto (tgt := 319) hx hb dX8_next_184 (by decide) ?_
                  have hP9 := hP.sub (ws' := [(b 0, .inr (8, [.ref (b 1), .int (nI mt), .int (nI j), .int (nI k), .int 1, .int (nI qj_40), .int wr, .int wa, .int (gg 8), .int (gg 9), .ref (b 11), .ref (b 12), .ref (b 13), .int (nI mc), .int (nI mh), .ref (b 16), .ref (b 17), .ref (b 18), .ref (b 19), .ref (b 20), .ref (b 21), .ref (b 22), .ref (b 23), .ref (b 24), .int (nI mf), .ref (b 26), .ref (b 27), .ref (b 28), .ref (b 29), .ref (b 30), .ref (b 31), .ref (b 32), .int (gg 32), .int (nI md), .ref (b 35), .ref (b 36), .ref (b 37), .ref (b 38), .ref (b 39), .ref (b 40), .int (gg 40), .ref (b 42), .ref (b 43), .ref (b 44), .int (gg 44), .ref (b 46), .ref (b 47), .int (gg 47), .ref (b 49)])), (b 1, .inl (cB, 200, .inl ta))]) [0, 1] rfl
                  have hD9 := hD.sub (ws' := [(b 0, .inr (8, [.ref (b 1), .int (nI mt), .int (nI j), .int (nI k), .int 1, .int (nI qj_40), .int wr, .int wa, .int (gg 8), .int (gg 9), .ref (b 11), .ref (b 12), .ref (b 13), .int (nI mc), .int (nI mh), .ref (b 16), .ref (b 17), .ref (b 18), .ref (b 19), .ref (b 20), .ref (b 21), .ref (b 22), .ref (b 23), .ref (b 24), .int (nI mf), .ref (b 26), .ref (b 27), .ref (b 28), .ref (b 29), .ref (b 30), .ref (b 31), .ref (b 32), .int (gg 32), .int (nI md), .ref (b 35), .ref (b 36), .ref (b 37), .ref (b 38), .ref (b 39), .ref (b 40), .int (gg 40), .ref (b 42), .ref (b 43), .ref (b 44), .int (gg 44), .ref (b 46), .ref (b 47), .int (gg 47), .ref (b 49)])), (b 1, .inl (cB, 200, .inl ta))]) [0, 1] (by decide) rfl
                  have hK9 := hK.sub (tys' := [(cB, .byte)]) [0] rfl
                  exact W.vret hx hb hr (fun t ht hW => ⟨⟨(j, (nI k), 1, (nI qj_40)), rfl, ⟨by omega, by omega, Or.inr (by omega), fun _ => ⟨qj_40, by omega, rfl⟩⟩, by rw [ht]; exact hP9, va_K.moved hW.alike hK9, hD9⟩, hS.F ht⟩) hS.2.2 dX8_next_319
              · have zc_39 := c_39
                rw [Int32.le_iff_toInt_le] at zc_39
                try rw [zz_toInt nn (by omega)] at zc_39
                try rw [show (5 : Int32).toInt = 5 from by decide] at zc_39
                refine lv_iconst (v := (-1)) hx hb dX8_next_157 (by decide) ?_
                refine lv_goto (tgt := 165) hx hb dX8_next_158 (by decide) ?_
                refine va_put (D := (dC, dI)) (ci := 8) (v := .int (-1)) (ty := .int) (C := RX8) (T := TX8) (N := 49) hx hb hw zz_inX8 tyX8 tyX8_ok nmX8 hown hK hP hD hS 0 rfl rfl 5 (by decide) (hw _ tw_303) (fun _ h9 => h9) rfl (by decide +kernel) rfl rfl (Nat.le_of_ble_eq_true rfl) dX8_next_165 (fun H locs hP hD hS => ?_)
                have hP : va_P (dC, dI) vwCl [(b 0, .inr (8, [.ref (b 1), .int (nI mt), .int (nI j), .int (nI k), .int so, .int (-1), .int wr, .int wa, .int (gg 8), .int (gg 9), .ref (b 11), .ref (b 12), .ref (b 13), .int (nI mc), .int (nI mh), .ref (b 16), .ref (b 17), .ref (b 18), .ref (b 19), .ref (b 20), .ref (b 21), .ref (b 22), .ref (b 23), .ref (b 24), .int (nI mf), .ref (b 26), .ref (b 27), .ref (b 28), .ref (b 29), .ref (b 30), .ref (b 31), .ref (b 32), .int (gg 32), .int (nI md), .ref (b 35), .ref (b 36), .ref (b 37), .ref (b 38), .ref (b 39), .ref (b 40), .int (gg 40), .ref (b 42), .ref (b 43), .ref (b 44), .int (gg 44), .ref (b 46), .ref (b 47), .int (gg 47), .ref (b 49)])), (b 1, .inl (cB, 200, .inl ta))] H := hP
                have hD : va_D A [(b 0, .inr (8, [.ref (b 1), .int (nI mt), .int (nI j), .int (nI k), .int so, .int (-1), .int wr, .int wa, .int (gg 8), .int (gg 9), .ref (b 11), .ref (b 12), .ref (b 13), .int (nI mc), .int (nI mh), .ref (b 16), .ref (b 17), .ref (b 18), .ref (b 19), .ref (b 20), .ref (b 21), .ref (b 22), .ref (b 23), .ref (b 24), .int (nI mf), .ref (b 26), .ref (b 27), .ref (b 28), .ref (b 29), .ref (b 30), .ref (b 31), .ref (b 32), .int (gg 32), .int (nI md), .ref (b 35), .ref (b 36), .ref (b 37), .ref (b 38), .ref (b 39), .ref (b 40), .int (gg 40), .ref (b 42), .ref (b 43), .ref (b 44), .int (gg 44), .ref (b 46), .ref (b 47), .int (gg 47), .ref (b 49)])), (b 1, .inl (cB, 200, .inl ta))] := hD
                refine lv_aload_n hx hb dX8_next_168 rfl (lv_at hl 0 rfl) ?_
                refine lv_aload_n hx hb dX8_next_169 rfl (lv_at hl 0 rfl) ?_
                refine va_get (D := (dC, dI)) (ci := 8) (v := .int (-1)) (C := RX8) (T := TX8) (N := 49) hx hb hw zz_inX8 hown hK hP 0 rfl rfl 5 (by decide) (hw _ tw_303) (fun _ h9 => h9) rfl dX8_next_170 ?_
                refine lv_if_ge (tgt := 180) hx hb dX8_next_173 (by decide) (fun c_9 => absurd c_9 (by decide)) (fun _ => ?_)
                refine lv_iconst (v := 4) hx hb dX8_next_176 (by decide) ?_
                refine lv_goto (tgt := 181) hx hb dX8_next_177 (by decide) ?_
                refine va_put (D := (dC, dI)) (ci := 8) (v := .int 4) (ty := .int) (C := RX8) (T := TX8) (N := 49) hx hb hw zz_inX8 tyX8 tyX8_ok nmX8 hown hK hP hD hS 0 rfl rfl 4 (by decide) (hw _ tw_302) (fun _ h9 => h9) rfl (by decide +kernel) rfl rfl (Nat.le_of_ble_eq_true rfl) dX8_next_181 (fun H locs hP hD hS => ?_)
                have hP : va_P (dC, dI) vwCl [(b 0, .inr (8, [.ref (b 1), .int (nI mt), .int (nI j), .int (nI k), .int 4, .int (-1), .int wr, .int wa, .int (gg 8), .int (gg 9), .ref (b 11), .ref (b 12), .ref (b 13), .int (nI mc), .int (nI mh), .ref (b 16), .ref (b 17), .ref (b 18), .ref (b 19), .ref (b 20), .ref (b 21), .ref (b 22), .ref (b 23), .ref (b 24), .int (nI mf), .ref (b 26), .ref (b 27), .ref (b 28), .ref (b 29), .ref (b 30), .ref (b 31), .ref (b 32), .int (gg 32), .int (nI md), .ref (b 35), .ref (b 36), .ref (b 37), .ref (b 38), .ref (b 39), .ref (b 40), .int (gg 40), .ref (b 42), .ref (b 43), .ref (b 44), .int (gg 44), .ref (b 46), .ref (b 47), .int (gg 47), .ref (b 49)])), (b 1, .inl (cB, 200, .inl ta))] H := hP
                have hD : va_D A [(b 0, .inr (8, [.ref (b 1), .int (nI mt), .int (nI j), .int (nI k), .int 4, .int (-1), .int wr, .int wa, .int (gg 8), .int (gg 9), .ref (b 11), .ref (b 12), .ref (b 13), .int (nI mc), .int (nI mh), .ref (b 16), .ref (b 17), .ref (b 18), .ref (b 19), .ref (b 20), .ref (b 21), .ref (b 22), .ref (b 23), .ref (b 24), .int (nI mf), .ref (b 26), .ref (b 27), .ref (b 28), .ref (b 29), .ref (b 30), .ref (b 31), .ref (b 32), .int (gg 32), .int (nI md), .ref (b 35), .ref (b 36), .ref (b 37), .ref (b 38), .ref (b 39), .ref (b 40), .int (gg 40), .ref (b 42), .ref (b 43), .ref (b 44), .int (gg 44), .ref (b 46), .ref (b 47), .int (gg 47), .ref (b 49)])), (b 1, .inl (cB, 200, .inl ta))] := hD
                refine lv_goto (tgt := 319) hx hb dX8_next_184 (by decide) ?_
                have hP9 := hP.sub (ws' := [(b 0, .inr (8, [.ref (b 1), .int (nI mt), .int (nI j), .int (nI k), .int 4, .int (-1), .int wr, .int wa, .int (gg 8), .int (gg 9), .ref (b 11), .ref (b 12), .ref (b 13), .int (nI mc), .int (nI mh), .ref (b 16), .ref (b 17), .ref (b 18), .ref (b 19), .ref (b 20), .ref (b 21), .ref (b 22), .ref (b 23), .ref (b 24), .int (nI mf), .ref (b 26), .ref (b 27), .ref (b 28), .ref (b 29), .ref (b 30), .ref (b 31), .ref (b 32), .int (gg 32), .int (nI md), .ref (b 35), .ref (b 36), .ref (b 37), .ref (b 38), .ref (b 39), .ref (b 40), .int (gg 40), .ref (b 42), .ref (b 43), .ref (b 44), .int (gg 44), .ref (b 46), .ref (b 47), .int (gg 47), .ref (b 49)])), (b 1, .inl (cB, 200, .inl ta))]) [0, 1] rfl
                have hD9 := hD.sub (ws' := [(b 0, .inr (8, [.ref (b 1), .int (nI mt), .int (nI j), .int (nI k), .int 4, .int (-1), .int wr, .int wa, .int (gg 8), .int (gg 9), .ref (b 11), .ref (b 12), .ref (b 13), .int (nI mc), .int (nI mh), .ref (b 16), .ref (b 17), .ref (b 18), .ref (b 19), .ref (b 20), .ref (b 21), .ref (b 22), .ref (b 23), .ref (b 24), .int (nI mf), .ref (b 26), .ref (b 27), .ref (b 28), .ref (b 29), .ref (b 30), .ref (b 31), .ref (b 32), .int (gg 32), .int (nI md), .ref (b 35), .ref (b 36), .ref (b 37), .ref (b 38), .ref (b 39), .ref (b 40), .int (gg 40), .ref (b 42), .ref (b 43), .ref (b 44), .int (gg 44), .ref (b 46), .ref (b 47), .int (gg 47), .ref (b 49)])), (b 1, .inl (cB, 200, .inl ta))]) [0, 1] (by decide) rfl
                have hK9 := hK.sub (tys' := [(cB, .byte)]) [0] rfl
                exact W.vret hx hb hr (fun t ht hW => ⟨⟨(j, (nI k), 4, (-1)), rfl, ⟨by omega, by omega, Or.inr (by omega), fun h9 => absurd h9 (by decide)⟩, by rw [ht]; exact hP9, va_K.moved hW.alike hK9, hD9⟩, hS.F ht⟩) hS.2.2 dX8_next_319
            · have zc_38 := c_38
              rw [← Int32.toInt_inj] at zc_38
              try rw [show (0 : Int32).toInt = 0 from by decide] at zc_38
              refine lv_iload hx hb dX8_next_102 (lv_at hl 4 rfl) ?_
              refine lv_bipush (v := 8) hx hb dX8_next_104 (by decide) ?_
              refine lv_icmp_ge (tgt := 132) hx hb dX8_next_106 (by decide) (fun c_42 => ?_) (fun c_42 => ?_)
              · have zc_42 := c_42
                rw [Int32.le_iff_toInt_le] at zc_42
                try rw [zz_toInt nn (by omega)] at zc_42
                try rw [show (8 : Int32).toInt = 8 from by decide] at zc_42
                refine lv_lload_n hx hb dX8_next_132 rfl (lv_at hl 3 rfl) ?_
                refine lv_lstore_n (lv' := [(3, .long y), (0, .ref (b 0)), (1, .int (nI ml)), (2, .int (ta (Int32.toNatClampNeg (nI k)))), (5, .int (nI nn))]) hx hb dX8_next_133 rfl hl (by decide) rfl (fun ls hl => ?_)
                refine lv_iinc (v := (nI (nn + 1))) (lv' := [(5, .int (nI (nn + 1))), (3, .long y), (0, .ref (b 0)), (1, .int (nI ml)), (2, .int (ta (Int32.toNatClampNeg (nI k))))]) hx hb dX8_next_134 hl (k := 4) rfl (nI_1 _) (by decide) rfl (fun ls hl => ?_)
                refine lv_aload_n hx hb dX8_next_137 rfl (lv_at hl 2 rfl) ?_
                refine lv_dup hx hb dX8_next_138 rfl ?_
                refine va_get (D := (dC, dI)) (ci := 8) (v := .int (nI j)) (C := RX8) (T := TX8) (N := 49) hx hb hw zz_inX8 hown hK hP 0 rfl rfl 2 (by decide) (hw _ tw_296) (fun _ h9 => h9) rfl dX8_next_139 ?_
                refine lv_iconst (v := 1) hx hb dX8_next_142 (by decide) ?_
                refine lv_iadd hx hb dX8_next_143 ?_
                refine zz_seti (nI (j + 1)) (nI_1 _) ?_
                refine va_put (D := (dC, dI)) (ci := 8) (v := .int (nI (j + 1))) (ty := .int) (C := RX8) (T := TX8) (N := 49) hx hb hw zz_inX8 tyX8 tyX8_ok nmX8 hown hK hP hD hS 0 rfl rfl 2 (by decide) (hw _ tw_296) (fun _ h9 => h9) rfl (by decide +kernel) rfl rfl (Nat.le_of_ble_eq_true rfl) dX8_next_144 (fun H locs hP hD hS => ?_)
                have hP : va_P (dC, dI) vwCl [(b 0, .inr (8, [.ref (b 1), .int (nI mt), .int (nI (j + 1)), .int (nI k), .int so, .int tl, .int wr, .int wa, .int (gg 8), .int (gg 9), .ref (b 11), .ref (b 12), .ref (b 13), .int (nI mc), .int (nI mh), .ref (b 16), .ref (b 17), .ref (b 18), .ref (b 19), .ref (b 20), .ref (b 21), .ref (b 22), .ref (b 23), .ref (b 24), .int (nI mf), .ref (b 26), .ref (b 27), .ref (b 28), .ref (b 29), .ref (b 30), .ref (b 31), .ref (b 32), .int (gg 32), .int (nI md), .ref (b 35), .ref (b 36), .ref (b 37), .ref (b 38), .ref (b 39), .ref (b 40), .int (gg 40), .ref (b 42), .ref (b 43), .ref (b 44), .int (gg 44), .ref (b 46), .ref (b 47), .int (gg 47), .ref (b 49)])), (b 1, .inl (cB, 200, .inl ta))] H := hP
                have hD : va_D A [(b 0, .inr (8, [.ref (b 1), .int (nI mt), .int (nI (j + 1)), .int (nI k), .int so, .int tl, .int wr, .int wa, .int (gg 8), .int (gg 9), .ref (b 11), .ref (b 12), .ref (b 13), .int (nI mc), .int (nI mh), .ref (b 16), .ref (b 17), .ref (b 18), .ref (b 19), .ref (b 20), .ref (b 21), .ref (b 22), .ref (b 23), .ref (b 24), .int (nI mf), .ref (b 26), .ref (b 27), .ref (b 28), .ref (b 29), .ref (b 30), .ref (b 31), .ref (b 32), .int (gg 32), .int (nI md), .ref (b 35), .ref (b 36), .ref (b 37), .ref (b 38), .ref (b 39), .ref (b 40), .int (gg 40), .ref (b 42), .ref (b 43), .ref (b 44), .int (gg 44), .ref (b 46), .ref (b 47), .int (gg 47), .ref (b 49)])), (b 1, .inl (cB, 200, .inl ta))] := hD
                refine lv_goto (tgt := 79) hx hb dX8_next_147 (by decide) ?_
                exact ih_79 ((j + 1), y, (nn + 1)) (show k ≤ (j + 1) ∧ (j + 1) ≤ ml ∧ (nn + 1) ≤ (j + 1) from (by refine ⟨?_, ?_, ?_⟩ <;> omega)) (show ml - (j + 1) < ml - j from by omega) _ _ _ (hP.sub [0, 1] rfl) (hD.sub [0, 1] (by decide) rfl) hS (lv_sub hl [2, 3, 4, 1, 0] rfl)
              · have zc_42 := c_42
                rw [Int32.le_iff_toInt_le] at zc_42
                try rw [zz_toInt nn (by omega)] at zc_42
                try rw [show (8 : Int32).toInt = 8 from by decide] at zc_42
                refine lv_ldc2 (v := 64) hx hb hown (hw _ tw_308) dX8_next_109 ?_
                refine zz_setl (Int32.toInt64 64) (by decide) ?_
                refine lv_lload_n hx hb dX8_next_112 rfl (lv_at hl 3 rfl) ?_
                refine lv_lmul hx hb dX8_next_113 ?_
                refine lv_aload_n hx hb dX8_next_114 rfl (lv_at hl 0 rfl) ?_
                refine va_get (D := (dC, dI)) (ci := 8) (v := .ref (b 1)) (C := RX8) (T := TX8) (N := 49) hx hb hw zz_inX8 hown hK hP 0 rfl rfl 0 (by decide) (hw _ tw_191) (fun _ h9 => h9) rfl dX8_next_115 ?_
                refine lv_aload_n hx hb dX8_next_118 rfl (lv_at hl 0 rfl) ?_
                refine va_get (D := (dC, dI)) (ci := 8) (v := .int (nI j)) (C := RX8) (T := TX8) (N := 49) hx hb hw zz_inX8 hown hK hP 0 rfl rfl 2 (by decide) (hw _ tw_296) (fun _ h9 => h9) rfl dX8_next_119 ?_
                refine va_bald hx hb hK hP 1 0 rfl rfl (vp_in_iff.mpr (by rw [zz_toInt j (by omega)]; constructor <;> omega)) dX8_next_122 ?_
                refine lv_i2l (v := Int32.toInt64 (ta (Int32.toNatClampNeg (nI j)))) hx hb dX8_next_123 rfl ?_
                refine lv_ladd hx hb dX8_next_124 ?_
                refine lv_ldc2 (v := 64) hx hb hown (hw _ tw_308) dX8_next_125 ?_
                refine zz_setl (Int32.toInt64 64) (by decide) ?_
                refine lv_lsub hx hb dX8_next_128 ?_
                refine lv_goto (tgt := 133) hx hb dX8_next_129 (by decide) ?_
                refine lv_lstore_n (lv' := [(3, .long ((((Int32.toInt64 64) * y) + (Int32.toInt64 (ta (Int32.toNatClampNeg (nI j))))) - (Int32.toInt64 64))), (0, .ref (b 0)), (1, .int (nI ml)), (2, .int (ta (Int32.toNatClampNeg (nI k)))), (5, .int (nI nn))]) hx hb dX8_next_133 rfl hl (by decide) rfl (fun ls hl => ?_)
                refine lv_iinc (v := (nI (nn + 1))) (lv' := [(5, .int (nI (nn + 1))), (3, .long ((((Int32.toInt64 64) * y) + (Int32.toInt64 (ta (Int32.toNatClampNeg (nI j))))) - (Int32.toInt64 64))), (0, .ref (b 0)), (1, .int (nI ml)), (2, .int (ta (Int32.toNatClampNeg (nI k))))]) hx hb dX8_next_134 hl (k := 4) rfl (nI_1 _) (by decide) rfl (fun ls hl => ?_)
                refine lv_aload_n hx hb dX8_next_137 rfl (lv_at hl 2 rfl) ?_
                refine lv_dup hx hb dX8_next_138 rfl ?_
                refine va_get (D := (dC, dI)) (ci := 8) (v := .int (nI j)) (C := RX8) (T := TX8) (N := 49) hx hb hw zz_inX8 hown hK hP 0 rfl rfl 2 (by decide) (hw _ tw_296) (fun _ h9 => h9) rfl dX8_next_139 ?_
                refine lv_iconst (v := 1) hx hb dX8_next_142 (by decide) ?_
                refine lv_iadd hx hb dX8_next_143 ?_
                refine zz_seti (nI (j + 1)) (nI_1 _) ?_
                refine va_put (D := (dC, dI)) (ci := 8) (v := .int (nI (j + 1))) (ty := .int) (C := RX8) (T := TX8) (N := 49) hx hb hw zz_inX8 tyX8 tyX8_ok nmX8 hown hK hP hD hS 0 rfl rfl 2 (by decide) (hw _ tw_296) (fun _ h9 => h9) rfl (by decide +kernel) rfl rfl (Nat.le_of_ble_eq_true rfl) dX8_next_144 (fun H locs hP hD hS => ?_)
                have hP : va_P (dC, dI) vwCl [(b 0, .inr (8, [.ref (b 1), .int (nI mt), .int (nI (j + 1)), .int (nI k), .int so, .int tl, .int wr, .int wa, .int (gg 8), .int (gg 9), .ref (b 11), .ref (b 12), .ref (b 13), .int (nI mc), .int (nI mh), .ref (b 16), .ref (b 17), .ref (b 18), .ref (b 19), .ref (b 20), .ref (b 21), .ref (b 22), .ref (b 23), .ref (b 24), .int (nI mf), .ref (b 26), .ref (b 27), .ref (b 28), .ref (b 29), .ref (b 30), .ref (b 31), .ref (b 32), .int (gg 32), .int (nI md), .ref (b 35), .ref (b 36), .ref (b 37), .ref (b 38), .ref (b 39), .ref (b 40), .int (gg 40), .ref (b 42), .ref (b 43), .ref (b 44), .int (gg 44), .ref (b 46), .ref (b 47), .int (gg 47), .ref (b 49)])), (b 1, .inl (cB, 200, .inl ta))] H := hP
                have hD : va_D A [(b 0, .inr (8, [.ref (b 1), .int (nI mt), .int (nI (j + 1)), .int (nI k), .int so, .int tl, .int wr, .int wa, .int (gg 8), .int (gg 9), .ref (b 11), .ref (b 12), .ref (b 13), .int (nI mc), .int (nI mh), .ref (b 16), .ref (b 17), .ref (b 18), .ref (b 19), .ref (b 20), .ref (b 21), .ref (b 22), .ref (b 23), .ref (b 24), .int (nI mf), .ref (b 26), .ref (b 27), .ref (b 28), .ref (b 29), .ref (b 30), .ref (b 31), .ref (b 32), .int (gg 32), .int (nI md), .ref (b 35), .ref (b 36), .ref (b 37), .ref (b 38), .ref (b 39), .ref (b 40), .int (gg 40), .ref (b 42), .ref (b 43), .ref (b 44), .int (gg 44), .ref (b 46), .ref (b 47), .int (gg 47), .ref (b 49)])), (b 1, .inl (cB, 200, .inl ta))] := hD
                refine lv_goto (tgt := 79) hx hb dX8_next_147 (by decide) ?_
                exact ih_79 ((j + 1), ((((Int32.toInt64 64) * y) + (Int32.toInt64 (ta (Int32.toNatClampNeg (nI j))))) - (Int32.toInt64 64)), (nn + 1)) (show k ≤ (j + 1) ∧ (j + 1) ≤ ml ∧ (nn + 1) ≤ (j + 1) from (by refine ⟨?_, ?_, ?_⟩ <;> omega)) (show ml - (j + 1) < ml - j from by omega) _ _ _ (hP.sub [0, 1] rfl) (hD.sub [0, 1] (by decide) rfl) hS (lv_sub hl [2, 3, 4, 1, 0] rfl)
      · have zc_23 := c_23
        rw [← Int32.toInt_inj] at zc_23
        try rw [zz_toInt k (by omega)] at zc_23
        try rw [zz_toInt ml (by omega)] at zc_23
        refine lv_aload_n hx hb dX8_next_51 rfl (lv_at hl 0 rfl) ?_
        refine lv_iconst (v := 0) hx hb dX8_next_52 (by decide) ?_
        refine va_put (D := (dC, dI)) (ci := 8) (v := .int 0) (ty := .int) (C := RX8) (T := TX8) (N := 49) hx hb hw zz_inX8 tyX8 tyX8_ok nmX8 hown hK hP hD hS 0 rfl rfl 4 (by decide) (hw _ tw_302) (fun _ h9 => h9) rfl (by decide +kernel) rfl rfl (Nat.le_of_ble_eq_true rfl) dX8_next_53 (fun H locs hP hD hS => ?_)
        have hP : va_P (dC, dI) vwCl [(b 0, .inr (8, [.ref (b 1), .int (nI mt), .int (nI k), .int (nI k), .int 0, .int tl, .int wr, .int wa, .int (gg 8), .int (gg 9), .ref (b 11), .ref (b 12), .ref (b 13), .int (nI mc), .int (nI mh), .ref (b 16), .ref (b 17), .ref (b 18), .ref (b 19), .ref (b 20), .ref (b 21), .ref (b 22), .ref (b 23), .ref (b 24), .int (nI mf), .ref (b 26), .ref (b 27), .ref (b 28), .ref (b 29), .ref (b 30), .ref (b 31), .ref (b 32), .int (gg 32), .int (nI md), .ref (b 35), .ref (b 36), .ref (b 37), .ref (b 38), .ref (b 39), .ref (b 40), .int (gg 40), .ref (b 42), .ref (b 43), .ref (b 44), .int (gg 44), .ref (b 46), .ref (b 47), .int (gg 47), .ref (b 49)])), (b 1, .inl (cB, 200, .inl ta))] H := hP
        have hD : va_D A [(b 0, .inr (8, [.ref (b 1), .int (nI mt), .int (nI k), .int (nI k), .int 0, .int tl, .int wr, .int wa, .int (gg 8), .int (gg 9), .ref (b 11), .ref (b 12), .ref (b 13), .int (nI mc), .int (nI mh), .ref (b 16), .ref (b 17), .ref (b 18), .ref (b 19), .ref (b 20), .ref (b 21), .ref (b 22), .ref (b 23), .ref (b 24), .int (nI mf), .ref (b 26), .ref (b 27), .ref (b 28), .ref (b 29), .ref (b 30), .ref (b 31), .ref (b 32), .int (gg 32), .int (nI md), .ref (b 35), .ref (b 36), .ref (b 37), .ref (b 38), .ref (b 39), .ref (b 40), .int (gg 40), .ref (b 42), .ref (b 43), .ref (b 44), .int (gg 44), .ref (b 46), .ref (b 47), .int (gg 47), .ref (b 49)])), (b 1, .inl (cB, 200, .inl ta))] := hD
        have hP9 := hP.sub (ws' := [(b 0, .inr (8, [.ref (b 1), .int (nI mt), .int (nI k), .int (nI k), .int 0, .int tl, .int wr, .int wa, .int (gg 8), .int (gg 9), .ref (b 11), .ref (b 12), .ref (b 13), .int (nI mc), .int (nI mh), .ref (b 16), .ref (b 17), .ref (b 18), .ref (b 19), .ref (b 20), .ref (b 21), .ref (b 22), .ref (b 23), .ref (b 24), .int (nI mf), .ref (b 26), .ref (b 27), .ref (b 28), .ref (b 29), .ref (b 30), .ref (b 31), .ref (b 32), .int (gg 32), .int (nI md), .ref (b 35), .ref (b 36), .ref (b 37), .ref (b 38), .ref (b 39), .ref (b 40), .int (gg 40), .ref (b 42), .ref (b 43), .ref (b 44), .int (gg 44), .ref (b 46), .ref (b 47), .int (gg 47), .ref (b 49)])), (b 1, .inl (cB, 200, .inl ta))]) [0, 1] rfl
        have hD9 := hD.sub (ws' := [(b 0, .inr (8, [.ref (b 1), .int (nI mt), .int (nI k), .int (nI k), .int 0, .int tl, .int wr, .int wa, .int (gg 8), .int (gg 9), .ref (b 11), .ref (b 12), .ref (b 13), .int (nI mc), .int (nI mh), .ref (b 16), .ref (b 17), .ref (b 18), .ref (b 19), .ref (b 20), .ref (b 21), .ref (b 22), .ref (b 23), .ref (b 24), .int (nI mf), .ref (b 26), .ref (b 27), .ref (b 28), .ref (b 29), .ref (b 30), .ref (b 31), .ref (b 32), .int (gg 32), .int (nI md), .ref (b 35), .ref (b 36), .ref (b 37), .ref (b 38), .ref (b 39), .ref (b 40), .int (gg 40), .ref (b 42), .ref (b 43), .ref (b 44), .int (gg 44), .ref (b 46), .ref (b 47), .int (gg 47), .ref (b 49)])), (b 1, .inl (cB, 200, .inl ta))]) [0, 1] (by decide) rfl
        have hK9 := hK.sub (tys' := [(cB, .byte)]) [0] rfl
        exact W.vret hx hb hr (fun t ht hW => ⟨⟨(k, (nI k), 0, tl), rfl, ⟨by omega, by omega, Or.inl rfl, fun h9 => absurd h9 (by decide)⟩, by rw [ht]; exact hP9, va_K.moved hW.alike hK9, hD9⟩, hS.F ht⟩) hS.2.2 dX8_next_56
    · have zc_22 := c_22
      rw [← Int32.toInt_inj] at zc_22
      try rw [show (32 : Int32).toInt = 32 from by decide] at zc_22
      refine lv_aload_n hx hb dX8_next_22 rfl (lv_at hl 0 rfl) ?_
      refine lv_dup hx hb dX8_next_23 rfl ?_
      refine va_get (D := (dC, dI)) (ci := 8) (v := .int (nI k)) (C := RX8) (T := TX8) (N := 49) hx hb hw zz_inX8 hown hK hP 0 rfl rfl 2 (by decide) (hw _ tw_296) (fun _ h9 => h9) rfl dX8_next_24 ?_
      refine lv_iconst (v := 1) hx hb dX8_next_27 (by decide) ?_
      refine lv_iadd hx hb dX8_next_28 ?_
      refine zz_seti (nI (k + 1)) (nI_1 _) ?_
      refine va_put (D := (dC, dI)) (ci := 8) (v := .int (nI (k + 1))) (ty := .int) (C := RX8) (T := TX8) (N := 49) hx hb hw zz_inX8 tyX8 tyX8_ok nmX8 hown hK hP hD hS 0 rfl rfl 2 (by decide) (hw _ tw_296) (fun _ h9 => h9) rfl (by decide +kernel) rfl rfl (Nat.le_of_ble_eq_true rfl) dX8_next_29 (fun H locs hP hD hS => ?_)
      have hP : va_P (dC, dI) vwCl [(b 0, .inr (8, [.ref (b 1), .int (nI mt), .int (nI (k + 1)), .int tk, .int so, .int tl, .int wr, .int wa, .int (gg 8), .int (gg 9), .ref (b 11), .ref (b 12), .ref (b 13), .int (nI mc), .int (nI mh), .ref (b 16), .ref (b 17), .ref (b 18), .ref (b 19), .ref (b 20), .ref (b 21), .ref (b 22), .ref (b 23), .ref (b 24), .int (nI mf), .ref (b 26), .ref (b 27), .ref (b 28), .ref (b 29), .ref (b 30), .ref (b 31), .ref (b 32), .int (gg 32), .int (nI md), .ref (b 35), .ref (b 36), .ref (b 37), .ref (b 38), .ref (b 39), .ref (b 40), .int (gg 40), .ref (b 42), .ref (b 43), .ref (b 44), .int (gg 44), .ref (b 46), .ref (b 47), .int (gg 47), .ref (b 49)])), (b 1, .inl (cB, 200, .inl ta))] H := hP
      have hD : va_D A [(b 0, .inr (8, [.ref (b 1), .int (nI mt), .int (nI (k + 1)), .int tk, .int so, .int tl, .int wr, .int wa, .int (gg 8), .int (gg 9), .ref (b 11), .ref (b 12), .ref (b 13), .int (nI mc), .int (nI mh), .ref (b 16), .ref (b 17), .ref (b 18), .ref (b 19), .ref (b 20), .ref (b 21), .ref (b 22), .ref (b 23), .ref (b 24), .int (nI mf), .ref (b 26), .ref (b 27), .ref (b 28), .ref (b 29), .ref (b 30), .ref (b 31), .ref (b 32), .int (gg 32), .int (nI md), .ref (b 35), .ref (b 36), .ref (b 37), .ref (b 38), .ref (b 39), .ref (b 40), .int (gg 40), .ref (b 42), .ref (b 43), .ref (b 44), .int (gg 44), .ref (b 46), .ref (b 47), .int (gg 47), .ref (b 49)])), (b 1, .inl (cB, 200, .inl ta))] := hD
      refine lv_goto (tgt := 0) hx hb dX8_next_32 (by decide) ?_
      exact ih_0 (k + 1) (show ma ≤ (k + 1) ∧ (k + 1) ≤ ml from (by refine ⟨?_, ?_⟩ <;> omega)) (show ml - (k + 1) < ml - k from by omega) _ _ _ (hP.sub [0, 1] rfl) (hD.sub [0, 1] (by decide) rfl) hS (lv_sub hl [0, 1] rfl)
