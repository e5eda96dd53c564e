theorem tw_93 : Cond.fieldLink RX8 115 "HandsReturnedModel" "houses" "I" ∈ zz_all := zz_m3 179 rfl rfl
theorem tw_94 : Cond.code yX8_in cX8_in 6 (some .boolean) ∈ zz_all := zz_m4 81 rfl rfl
theorem tw_95 : Cond.initialized RX8 ∈ zz_all := zz_m1 10 rfl rfl
theorem tw_96 : Cond.methodLink RX8 118 yX8_in ∈ zz_all := zz_m4 79 rfl rfl
theorem tw_97 : Cond.static yX8_in ∈ zz_all := zz_m4 80 rfl rfl
theorem tw_98 : Cond.fieldLink RX8 122 "HandsReturnedModel" "fields" "I" ∈ zz_all := zz_m3 189 rfl rfl
theorem tw_99 : Cond.code yX8_isField cX8_isField 2 (some .boolean) ∈ zz_all := zz_m4 178 rfl rfl
theorem tw_100 : Cond.methodLink RX8 220 yX8_isField ∈ zz_all := zz_m4 175 rfl rfl
theorem tw_101 : Cond.instanceMethod yX8_isField ∈ zz_all := zz_m4 177 rfl rfl
theorem tw_102 : Cond.selects RX8 yX8_isField yX8_isField ∈ zz_all := zz_ms 43 rfl rfl
theorem tw_103 : Cond.constantLong RX8 125 9 ∈ zz_all := zz_m4 78 rfl rfl
theorem tw_104 : Cond.fieldLink RX8 31 "HandsReturnedModel" "hands" "[I" ∈ zz_all := zz_m3 180 rfl rfl
theorem tw_105 : Cond.fieldLink RX8 34 "HandsReturnedModel" "isWidow" "[Z" ∈ zz_all := zz_m3 181 rfl rfl
theorem tw_106 : Cond.code yX8_isHouse cX8_isHouse 2 (some .boolean) ∈ zz_all := zz_m4 89 rfl rfl
theorem tw_107 : Cond.methodLink RX8 127 yX8_isHouse ∈ zz_all := zz_m4 86 rfl rfl
theorem tw_108 : Cond.instanceMethod yX8_isHouse ∈ zz_all := zz_m4 88 rfl rfl
theorem tw_109 : Cond.selects RX8 yX8_isHouse yX8_isHouse ∈ zz_all := zz_ms 37 rfl rfl
theorem tw_110 : Cond.constantLong RX8 139 100 ∈ zz_all := zz_m4 98 rfl rfl
theorem tw_111 : Cond.fieldLink RX8 55 "HandsReturnedModel" "loss" "[I" ∈ zz_all := zz_m3 188 rfl rfl
theorem tw_112 : Cond.fieldLink RX8 7 "HandsReturnedModel" "tape" "[B" ∈ zz_all := zz_m3 165 rfl rfl
theorem tw_113 : Cond.fieldLink RX8 141 "HandsReturnedModel" "taped" "I" ∈ zz_all := zz_m3 166 rfl rfl
theorem tw_114 : Cond.code yX8_put cX8_put 2 none ∈ zz_all := zz_m4 106 rfl rfl
theorem tw_115 : Cond.methodLink RX8 144 yX8_put ∈ zz_all := zz_m4 103 rfl rfl
theorem tw_116 : Cond.instanceMethod yX8_put ∈ zz_all := zz_m4 105 rfl rfl
theorem tw_117 : Cond.selects RX8 yX8_put yX8_put ∈ zz_all := zz_ms 38 rfl rfl
theorem tw_118 : Cond.fieldLink RX8 170 "HandsReturnedModel" "at" "I" ∈ zz_all := zz_m3 167 rfl rfl
theorem tw_119 : Cond.fieldLink RX8 173 "HandsReturnedModel" "token" "I" ∈ zz_all := zz_m3 168 rfl rfl
theorem tw_120 : Cond.fieldLink RX8 176 "HandsReturnedModel" "sort" "I" ∈ zz_all := zz_m3 169 rfl rfl
theorem tw_121 : Cond.fieldLink RX8 196 "HandsReturnedModel" "wrong" "I" ∈ zz_all := zz_m3 171 rfl rfl
theorem tw_122 : Cond.fieldLink RX8 199 "HandsReturnedModel" "wrongAt" "I" ∈ zz_all := zz_m3 172 rfl rfl
theorem tw_123 : Cond.fieldLink RX8 20 "HandsReturnedModel" "isTold" "[Z" ∈ zz_all := zz_m3 175 rfl rfl
theorem tw_124 : Cond.fieldLink RX8 24 "HandsReturnedModel" "newCustom" "[I" ∈ zz_all := zz_m3 176 rfl rfl
theorem tw_125 : Cond.code yX8_next cX8_next 6 none ∈ zz_all := zz_m4 118 rfl rfl
theorem tw_126 : Cond.methodLink RX8 205 yX8_next ∈ zz_all := zz_m4 115 rfl rfl
theorem tw_127 : Cond.instanceMethod yX8_next ∈ zz_all := zz_m4 117 rfl rfl
theorem tw_128 : Cond.selects RX8 yX8_next yX8_next ∈ zz_all := zz_ms 39 rfl rfl
theorem tw_129 : Cond.fieldLink RX8 13 "HandsReturnedModel" "fault" "I" ∈ zz_all := zz_m3 173 rfl rfl
theorem tw_130 : Cond.fieldLink RX8 17 "HandsReturnedModel" "faultAt" "I" ∈ zz_all := zz_m3 174 rfl rfl
theorem tw_131 : Cond.fieldLink RX8 28 "HandsReturnedModel" "custom" "[I" ∈ zz_all := zz_m3 177 rfl rfl
theorem tw_132 : Cond.constantLong RX8 218 6 ∈ zz_all := zz_m4 162 rfl rfl
theorem tw_133 : Cond.code yX8_canWork cX8_canWork 3 (some .boolean) ∈ zz_all := zz_m4 174 rfl rfl
theorem tw_134 : Cond.methodLink RX8 233 yX8_canWork ∈ zz_all := zz_m4 171 rfl rfl
theorem tw_135 : Cond.instanceMethod yX8_canWork ∈ zz_all := zz_m4 173 rfl rfl
theorem tw_136 : Cond.selects RX8 yX8_canWork yX8_canWork ∈ zz_all := zz_ms 42 rfl rfl
theorem tw_137 : Cond.fieldLink RX8 230 "HandsReturnedModel" "debts" "I" ∈ zz_all := zz_m3 198 rfl rfl
theorem tw_138 : Cond.fieldLink RX8 223 "HandsReturnedModel" "clock" "I" ∈ zz_all := zz_m3 178 rfl rfl
theorem tw_139 : Cond.fieldLink RX8 254 "HandsReturnedModel" "hired" "I" ∈ zz_all := zz_m3 197 rfl rfl
theorem tw_140 : Cond.code yX8_drops cX8_drops 3 none ∈ zz_all := zz_m4 190 rfl rfl
theorem tw_141 : Cond.methodLink RX8 247 yX8_drops ∈ zz_all := zz_m4 187 rfl rfl
theorem tw_142 : Cond.instanceMethod yX8_drops ∈ zz_all := zz_m4 189 rfl rfl
theorem tw_143 : Cond.selects RX8 yX8_drops yX8_drops ∈ zz_all := zz_ms 46 rfl rfl
theorem tw_144 : Cond.code yX8_goes cX8_goes 3 none ∈ zz_all := zz_m4 218 rfl rfl
theorem tw_145 : Cond.methodLink RX8 257 yX8_goes ∈ zz_all := zz_m4 215 rfl rfl
theorem tw_146 : Cond.instanceMethod yX8_goes ∈ zz_all := zz_m4 217 rfl rfl
theorem tw_147 : Cond.selects RX8 yX8_goes yX8_goes ∈ zz_all := zz_ms 51 rfl rfl
theorem tw_148 : Cond.constant RX8 263 (-1000000) ∈ zz_all := zz_m4 223 rfl rfl
theorem tw_149 : Cond.fieldLink RX8 94 "HandsReturnedModel" "groups" "[I" ∈ zz_all := zz_m3 204 rfl rfl
theorem tw_150 : Cond.fieldLink RX8 276 "HandsReturnedModel" "payments" "I" ∈ zz_all := zz_m3 205 rfl rfl
theorem tw_151 : Cond.code yX8_parts cX8_parts 5 none ∈ zz_all := zz_m5 15 rfl rfl
theorem tw_152 : Cond.methodLink RX8 279 yX8_parts ∈ zz_all := zz_m5 12 rfl rfl
theorem tw_153 : Cond.instanceMethod yX8_parts ∈ zz_all := zz_m5 14 rfl rfl
theorem tw_154 : Cond.selects RX8 yX8_parts yX8_parts ∈ zz_all := zz_ms 55 rfl rfl
theorem tw_155 : Cond.code yX8_pays cX8_pays 3 none ∈ zz_all := zz_m5 11 rfl rfl
theorem tw_156 : Cond.methodLink RX8 289 yX8_pays ∈ zz_all := zz_m5 8 rfl rfl
theorem tw_157 : Cond.instanceMethod yX8_pays ∈ zz_all := zz_m5 10 rfl rfl
theorem tw_158 : Cond.selects RX8 yX8_pays yX8_pays ∈ zz_all := zz_ms 54 rfl rfl
theorem tw_159 : Cond.fieldLink RX8 292 "HandsReturnedModel" "waiting" "I" ∈ zz_all := zz_m3 209 rfl rfl
theorem tw_160 : Cond.constantLong RX8 299 99 ∈ zz_all := zz_m5 43 rfl rfl
theorem tw_161 : Cond.fieldLink RX8 301 "HandsReturnedModel" "planned" "I" ∈ zz_all := zz_m3 212 rfl rfl
theorem tw_162 : Cond.code yX8_lost cX8_lost 9 (some .int) ∈ zz_all := zz_m5 47 rfl rfl
theorem tw_163 : Cond.methodLink RX8 304 yX8_lost ∈ zz_all := zz_m5 44 rfl rfl
theorem tw_164 : Cond.instanceMethod yX8_lost ∈ zz_all := zz_m5 46 rfl rfl
theorem tw_165 : Cond.selects RX8 yX8_lost yX8_lost ∈ zz_all := zz_ms 59 rfl rfl
theorem tw_166 : Cond.code yX8_nextOrder cX8_nextOrder 5 (some .boolean) ∈ zz_all := zz_m5 51 rfl rfl
theorem tw_167 : Cond.methodLink RX8 307 yX8_nextOrder ∈ zz_all := zz_m5 48 rfl rfl
theorem tw_168 : Cond.instanceMethod yX8_nextOrder ∈ zz_all := zz_m5 50 rfl rfl
theorem tw_169 : Cond.selects RX8 yX8_nextOrder yX8_nextOrder ∈ zz_all := zz_ms 60 rfl rfl
theorem tw_170 : Cond.constantLong RX8 311 20 ∈ zz_all := zz_m5 64 rfl rfl
theorem tw_171 : Cond.constantLong RX8 313 29 ∈ zz_all := zz_m5 65 rfl rfl
theorem dX8_isHouse_0 : decode cX8_isHouse 0 = .ok (.iload_n 1, 1) := by decide +kernel
theorem dX8_isHouse_1 : decode cX8_isHouse 1 = .ok (.i2l, 1) := by decide +kernel
theorem dX8_isHouse_2 : decode cX8_isHouse 2 = .ok (.lconst 0, 1) := by decide +kernel
theorem dX8_isHouse_3 : decode cX8_isHouse 3 = .ok (.aload_n 0, 1) := by decide +kernel
theorem dX8_isHouse_4 : decode cX8_isHouse 4 = .ok (.getfield 115, 3) := by decide +kernel
theorem dX8_isHouse_7 : decode cX8_isHouse 7 = .ok (.iconst 1, 1) := by decide +kernel
theorem dX8_isHouse_8 : decode cX8_isHouse 8 = .ok (.isub, 1) := by decide +kernel
theorem dX8_isHouse_9 : decode cX8_isHouse 9 = .ok (.i2l, 1) := by decide +kernel
theorem dX8_isHouse_10 : decode cX8_isHouse 10 = .ok (.invokestatic 118, 3) := by decide +kernel
theorem dX8_isHouse_13 : decode cX8_isHouse 13 = .ok (.ireturn, 1) := by decide +kernel
theorem dX8_isField_0 : decode cX8_isField 0 = .ok (.iload_n 1, 1) := by decide +kernel
theorem dX8_isField_1 : decode cX8_isField 1 = .ok (.i2l, 1) := by decide +kernel
theorem dX8_isField_2 : decode cX8_isField 2 = .ok (.lconst 0, 1) := by decide +kernel
theorem dX8_isField_3 : decode cX8_isField 3 = .ok (.aload_n 0, 1) := by decide +kernel
theorem dX8_isField_4 : decode cX8_isField 4 = .ok (.getfield 122, 3) := by decide +kernel
theorem dX8_isField_7 : decode cX8_isField 7 = .ok (.iconst 1, 1) := by decide +kernel
theorem dX8_isField_8 : decode cX8_isField 8 = .ok (.isub, 1) := by decide +kernel
theorem dX8_isField_9 : decode cX8_isField 9 = .ok (.i2l, 1) := by decide +kernel
theorem dX8_isField_10 : decode cX8_isField 10 = .ok (.invokestatic 118, 3) := by decide +kernel
theorem dX8_isField_13 : decode cX8_isField 13 = .ok (.ireturn, 1) := by decide +kernel
theorem dX8_canWork_0 : decode cX8_canWork 0 = .ok (.aload_n 0, 1) := by decide +kernel
theorem dX8_canWork_1 : decode cX8_canWork 1 = .ok (.iload_n 1, 1) := by decide +kernel
theorem dX8_canWork_2 : decode cX8_canWork 2 = .ok (.invokevirtual 220, 3) := by decide +kernel
theorem dX8_canWork_5 : decode cX8_canWork 5 = .ok (.ifCond .eq 35, 3) := by decide +kernel
theorem dX8_canWork_40 : decode cX8_canWork 40 = .ok (.iconst 0, 1) := by decide +kernel
theorem dX8_canWork_41 : decode cX8_canWork 41 = .ok (.ireturn, 1) := by decide +kernel
theorem dX8_house_0 : decode cX8_house 0 = .ok (.iload_n 1, 1) := by decide +kernel
theorem dX8_house_1 : decode cX8_house 1 = .ok (.i2l, 1) := by decide +kernel
theorem dX8_house_2 : decode cX8_house 2 = .ok (.lconst 1, 1) := by decide +kernel
theorem dX8_house_3 : decode cX8_house 3 = .ok (.ldc2_w 125, 3) := by decide +kernel
theorem dX8_house_6 : decode cX8_house 6 = .ok (.invokestatic 118, 3) := by decide +kernel
theorem dX8_house_9 : decode cX8_house 9 = .ok (.ifCond .eq 12, 3) := by decide +kernel
theorem dX8_house_12 : decode cX8_house 12 = .ok (.aload_n 0, 1) := by decide +kernel
theorem dX8_house_13 : decode cX8_house 13 = .ok (.getfield 115, 3) := by decide +kernel
theorem dX8_house_16 : decode cX8_house 16 = .ok (.bipush 8, 2) := by decide +kernel
theorem dX8_house_18 : decode cX8_house 18 = .ok (.if_icmp .ne 5, 3) := by decide +kernel
theorem dX8_house_21 : decode cX8_house 21 = .ok (.iconst (-1), 1) := by decide +kernel
theorem dX8_house_22 : decode cX8_house 22 = .ok (.ireturn, 1) := by decide +kernel
theorem dX8_house_23 : decode cX8_house 23 = .ok (.aload_n 0, 1) := by decide +kernel
theorem dX8_house_24 : decode cX8_house 24 = .ok (.getfield 31, 3) := by decide +kernel
theorem dX8_house_27 : decode cX8_house 27 = .ok (.aload_n 0, 1) := by decide +kernel
theorem dX8_house_28 : decode cX8_house 28 = .ok (.getfield 115, 3) := by decide +kernel
theorem dX8_house_31 : decode cX8_house 31 = .ok (.iload_n 1, 1) := by decide +kernel
theorem dX8_house_32 : decode cX8_house 32 = .ok (.iastore, 1) := by decide +kernel
theorem dX8_house_33 : decode cX8_house 33 = .ok (.aload_n 0, 1) := by decide +kernel
theorem dX8_house_34 : decode cX8_house 34 = .ok (.getfield 34, 3) := by decide +kernel
theorem dX8_house_37 : decode cX8_house 37 = .ok (.aload_n 0, 1) := by decide +kernel
theorem dX8_house_38 : decode cX8_house 38 = .ok (.getfield 115, 3) := by decide +kernel
theorem dX8_house_41 : decode cX8_house 41 = .ok (.iload_n 2, 1) := by decide +kernel
theorem dX8_house_42 : decode cX8_house 42 = .ok (.bastore, 1) := by decide +kernel
theorem dX8_house_43 : decode cX8_house 43 = .ok (.aload_n 0, 1) := by decide +kernel
theorem dX8_house_44 : decode cX8_house 44 = .ok (.dup, 1) := by decide +kernel
theorem dX8_house_45 : decode cX8_house 45 = .ok (.getfield 115, 3) := by decide +kernel
theorem dX8_house_48 : decode cX8_house 48 = .ok (.iconst 1, 1) := by decide +kernel
theorem dX8_house_49 : decode cX8_house 49 = .ok (.iadd, 1) := by decide +kernel
theorem dX8_house_50 : decode cX8_house 50 = .ok (.putfield 115, 3) := by decide +kernel
theorem dX8_house_53 : decode cX8_house 53 = .ok (.aload_n 0, 1) := by decide +kernel
theorem dX8_house_54 : decode cX8_house 54 = .ok (.getfield 115, 3) := by decide +kernel
theorem dX8_house_57 : decode cX8_house 57 = .ok (.iconst 1, 1) := by decide +kernel
theorem dX8_house_58 : decode cX8_house 58 = .ok (.isub, 1) := by decide +kernel
theorem dX8_house_59 : decode cX8_house 59 = .ok (.ireturn, 1) := by decide +kernel
theorem dX8_field_0 : decode cX8_field 0 = .ok (.aload_n 0, 1) := by decide +kernel
theorem dX8_field_1 : decode cX8_field 1 = .ok (.iload_n 1, 1) := by decide +kernel
theorem dX8_field_2 : decode cX8_field 2 = .ok (.invokevirtual 127, 3) := by decide +kernel
theorem dX8_field_5 : decode cX8_field 5 = .ok (.ifCond .eq 62, 3) := by decide +kernel
theorem dX8_field_67 : decode cX8_field 67 = .ok (.iconst (-1), 1) := by decide +kernel
theorem dX8_field_68 : decode cX8_field 68 = .ok (.ireturn, 1) := by decide +kernel
theorem dX8_loss_0 : decode cX8_loss 0 = .ok (.iload_n 1, 1) := by decide +kernel
theorem dX8_loss_1 : decode cX8_loss 1 = .ok (.i2l, 1) := by decide +kernel
theorem dX8_loss_2 : decode cX8_loss 2 = .ok (.lconst 0, 1) := by decide +kernel
theorem dX8_loss_3 : decode cX8_loss 3 = .ok (.ldc2_w 125, 3) := by decide +kernel
theorem dX8_loss_6 : decode cX8_loss 6 = .ok (.invokestatic 118, 3) := by decide +kernel
theorem dX8_loss_9 : decode cX8_loss 9 = .ok (.ifCond .eq 15, 3) := by decide +kernel
theorem dX8_loss_12 : decode cX8_loss 12 = .ok (.iload_n 2, 1) := by decide +kernel
theorem dX8_loss_13 : decode cX8_loss 13 = .ok (.i2l, 1) := by decide +kernel
theorem dX8_loss_14 : decode cX8_loss 14 = .ok (.lconst 0, 1) := by decide +kernel
theorem dX8_loss_15 : decode cX8_loss 15 = .ok (.ldc2_w 139, 3) := by decide +kernel
theorem dX8_loss_18 : decode cX8_loss 18 = .ok (.invokestatic 118, 3) := by decide +kernel
theorem dX8_loss_21 : decode cX8_loss 21 = .ok (.ifCond .ne 5, 3) := by decide +kernel
theorem dX8_loss_24 : decode cX8_loss 24 = .ok (.iconst 0, 1) := by decide +kernel
theorem dX8_loss_25 : decode cX8_loss 25 = .ok (.ireturn, 1) := by decide +kernel
theorem dX8_loss_26 : decode cX8_loss 26 = .ok (.aload_n 0, 1) := by decide +kernel
theorem dX8_loss_27 : decode cX8_loss 27 = .ok (.getfield 55, 3) := by decide +kernel
theorem dX8_loss_30 : decode cX8_loss 30 = .ok (.iload_n 1, 1) := by decide +kernel
theorem dX8_loss_31 : decode cX8_loss 31 = .ok (.iload_n 2, 1) := by decide +kernel
theorem dX8_loss_32 : decode cX8_loss 32 = .ok (.iastore, 1) := by decide +kernel
theorem dX8_loss_33 : decode cX8_loss 33 = .ok (.iconst 1, 1) := by decide +kernel
theorem dX8_loss_34 : decode cX8_loss 34 = .ok (.ireturn, 1) := by decide +kernel
theorem dX8_put_0 : decode cX8_put 0 = .ok (.aload_n 0, 1) := by decide +kernel
theorem dX8_put_1 : decode cX8_put 1 = .ok (.getfield 7, 3) := by decide +kernel
theorem dX8_put_4 : decode cX8_put 4 = .ok (.aload_n 0, 1) := by decide +kernel
theorem dX8_put_5 : decode cX8_put 5 = .ok (.getfield 141, 3) := by decide +kernel
theorem dX8_put_8 : decode cX8_put 8 = .ok (.iload_n 1, 1) := by decide +kernel
theorem dX8_put_9 : decode cX8_put 9 = .ok (.bipush 24, 2) := by decide +kernel
theorem dX8_put_11 : decode cX8_put 11 = .ok (.ishr, 1) := by decide +kernel
theorem dX8_put_12 : decode cX8_put 12 = .ok (.i2b, 1) := by decide +kernel
theorem dX8_put_13 : decode cX8_put 13 = .ok (.bastore, 1) := by decide +kernel
theorem dX8_put_14 : decode cX8_put 14 = .ok (.aload_n 0, 1) := by decide +kernel
theorem dX8_put_15 : decode cX8_put 15 = .ok (.getfield 7, 3) := by decide +kernel
theorem dX8_put_18 : decode cX8_put 18 = .ok (.aload_n 0, 1) := by decide +kernel
theorem dX8_put_19 : decode cX8_put 19 = .ok (.getfield 141, 3) := by decide +kernel
theorem dX8_put_22 : decode cX8_put 22 = .ok (.iconst 1, 1) := by decide +kernel
theorem dX8_put_23 : decode cX8_put 23 = .ok (.iadd, 1) := by decide +kernel
theorem dX8_put_24 : decode cX8_put 24 = .ok (.iload_n 1, 1) := by decide +kernel
theorem dX8_put_25 : decode cX8_put 25 = .ok (.bipush 16, 2) := by decide +kernel
theorem dX8_put_27 : decode cX8_put 27 = .ok (.ishr, 1) := by decide +kernel
theorem dX8_put_28 : decode cX8_put 28 = .ok (.i2b, 1) := by decide +kernel
theorem dX8_put_29 : decode cX8_put 29 = .ok (.bastore, 1) := by decide +kernel
theorem dX8_put_30 : decode cX8_put 30 = .ok (.aload_n 0, 1) := by decide +kernel
theorem dX8_put_31 : decode cX8_put 31 = .ok (.getfield 7, 3) := by decide +kernel
theorem dX8_put_34 : decode cX8_put 34 = .ok (.aload_n 0, 1) := by decide +kernel
theorem dX8_put_35 : decode cX8_put 35 = .ok (.getfield 141, 3) := by decide +kernel
theorem dX8_put_38 : decode cX8_put 38 = .ok (.iconst 2, 1) := by decide +kernel
theorem dX8_put_39 : decode cX8_put 39 = .ok (.iadd, 1) := by decide +kernel
theorem dX8_put_40 : decode cX8_put 40 = .ok (.iload_n 1, 1) := by decide +kernel
theorem dX8_put_41 : decode cX8_put 41 = .ok (.bipush 8, 2) := by decide +kernel
theorem dX8_put_43 : decode cX8_put 43 = .ok (.ishr, 1) := by decide +kernel
theorem dX8_put_44 : decode cX8_put 44 = .ok (.i2b, 1) := by decide +kernel
theorem dX8_put_45 : decode cX8_put 45 = .ok (.bastore, 1) := by decide +kernel
theorem dX8_put_46 : decode cX8_put 46 = .ok (.aload_n 0, 1) := by decide +kernel
theorem dX8_put_47 : decode cX8_put 47 = .ok (.getfield 7, 3) := by decide +kernel
theorem dX8_put_50 : decode cX8_put 50 = .ok (.aload_n 0, 1) := by decide +kernel
theorem dX8_put_51 : decode cX8_put 51 = .ok (.getfield 141, 3) := by decide +kernel
theorem dX8_put_54 : decode cX8_put 54 = .ok (.iconst 3, 1) := by decide +kernel
theorem dX8_put_55 : decode cX8_put 55 = .ok (.iadd, 1) := by decide +kernel
theorem dX8_put_56 : decode cX8_put 56 = .ok (.iload_n 1, 1) := by decide +kernel
theorem dX8_put_57 : decode cX8_put 57 = .ok (.i2b, 1) := by decide +kernel
theorem dX8_put_58 : decode cX8_put 58 = .ok (.bastore, 1) := by decide +kernel
theorem dX8_put_59 : decode cX8_put 59 = .ok (.aload_n 0, 1) := by decide +kernel
theorem dX8_put_60 : decode cX8_put 60 = .ok (.dup, 1) := by decide +kernel
theorem dX8_put_61 : decode cX8_put 61 = .ok (.getfield 141, 3) := by decide +kernel
theorem dX8_put_64 : decode cX8_put 64 = .ok (.iconst 4, 1) := by decide +kernel
theorem dX8_put_65 : decode cX8_put 65 = .ok (.iadd, 1) := by decide +kernel
theorem dX8_put_66 : decode cX8_put 66 = .ok (.putfield 141, 3) := by decide +kernel
theorem dX8_put_69 : decode cX8_put 69 = .ok (.return_, 1) := by decide +kernel
theorem dX8_feed_0 : decode cX8_feed 0 = .ok (.aload_n 0, 1) := by decide +kernel
theorem dX8_feed_1 : decode cX8_feed 1 = .ok (.getfield 141, 3) := by decide +kernel
theorem dX8_feed_4 : decode cX8_feed 4 = .ok (.bipush 20, 2) := by decide +kernel
theorem dX8_feed_6 : decode cX8_feed 6 = .ok (.iadd, 1) := by decide +kernel
theorem dX8_feed_7 : decode cX8_feed 7 = .ok (.sipush 200, 3) := by decide +kernel
theorem dX8_feed_10 : decode cX8_feed 10 = .ok (.if_icmp .le 5, 3) := by decide +kernel
theorem dX8_feed_15 : decode cX8_feed 15 = .ok (.aload_n 0, 1) := by decide +kernel
theorem dX8_feed_16 : decode cX8_feed 16 = .ok (.iload_n 1, 1) := by decide +kernel
theorem dX8_feed_17 : decode cX8_feed 17 = .ok (.invokevirtual 144, 3) := by decide +kernel
theorem dX8_feed_20 : decode cX8_feed 20 = .ok (.aload_n 0, 1) := by decide +kernel
theorem dX8_feed_21 : decode cX8_feed 21 = .ok (.iload_n 2, 1) := by decide +kernel
theorem dX8_feed_22 : decode cX8_feed 22 = .ok (.invokevirtual 144, 3) := by decide +kernel
theorem dX8_feed_25 : decode cX8_feed 25 = .ok (.aload_n 0, 1) := by decide +kernel
theorem dX8_feed_26 : decode cX8_feed 26 = .ok (.iload_n 3, 1) := by decide +kernel
theorem dX8_feed_27 : decode cX8_feed 27 = .ok (.invokevirtual 144, 3) := by decide +kernel
theorem dX8_feed_30 : decode cX8_feed 30 = .ok (.aload_n 0, 1) := by decide +kernel
theorem dX8_feed_31 : decode cX8_feed 31 = .ok (.iload 4, 2) := by decide +kernel
theorem dX8_feed_33 : decode cX8_feed 33 = .ok (.invokevirtual 144, 3) := by decide +kernel
theorem dX8_feed_36 : decode cX8_feed 36 = .ok (.aload_n 0, 1) := by decide +kernel
theorem dX8_feed_37 : decode cX8_feed 37 = .ok (.iload 5, 2) := by decide +kernel
theorem dX8_feed_39 : decode cX8_feed 39 = .ok (.invokevirtual 144, 3) := by decide +kernel
theorem dX8_feed_42 : decode cX8_feed 42 = .ok (.aload_n 0, 1) := by decide +kernel
theorem dX8_feed_43 : decode cX8_feed 43 = .ok (.getfield 141, 3) := by decide +kernel
theorem dX8_feed_46 : decode cX8_feed 46 = .ok (.ireturn, 1) := by decide +kernel
theorem dX8_end_0 : decode cX8_end 0 = .ok (.iload_n 1, 1) := by decide +kernel
theorem dX8_end_1 : decode cX8_end 1 = .ok (.i2l, 1) := by decide +kernel
theorem dX8_end_2 : decode cX8_end 2 = .ok (.lconst 0, 1) := by decide +kernel
theorem dX8_end_3 : decode cX8_end 3 = .ok (.aload_n 0, 1) := by decide +kernel
theorem dX8_end_4 : decode cX8_end 4 = .ok (.getfield 141, 3) := by decide +kernel
theorem dX8_end_7 : decode cX8_end 7 = .ok (.i2l, 1) := by decide +kernel
theorem dX8_end_8 : decode cX8_end 8 = .ok (.invokestatic 118, 3) := by decide +kernel
theorem dX8_end_11 : decode cX8_end 11 = .ok (.ifCond .ne 5, 3) := by decide +kernel
theorem dX8_end_14 : decode cX8_end 14 = .ok (.iconst (-1), 1) := by decide +kernel
theorem dX8_end_15 : decode cX8_end 15 = .ok (.ireturn, 1) := by decide +kernel
theorem dX8_end_16 : decode cX8_end 16 = .ok (.aload_n 0, 1) := by decide +kernel
theorem dX8_end_17 : decode cX8_end 17 = .ok (.iload_n 1, 1) := by decide +kernel
theorem dX8_end_18 : decode cX8_end 18 = .ok (.putfield 141, 3) := by decide +kernel
theorem dX8_end_21 : decode cX8_end 21 = .ok (.iload_n 1, 1) := by decide +kernel
theorem dX8_end_22 : decode cX8_end 22 = .ok (.ireturn, 1) := by decide +kernel
theorem dX8_next_0 : decode cX8_next 0 = .ok (.aload_n 0, 1) := by decide +kernel
theorem dX8_next_1 : decode cX8_next 1 = .ok (.getfield 170, 3) := by decide +kernel
theorem dX8_next_4 : decode cX8_next 4 = .ok (.iload_n 1, 1) := by decide +kernel
theorem dX8_next_5 : decode cX8_next 5 = .ok (.if_icmp .ge 30, 3) := by decide +kernel
theorem dX8_next_35 : decode cX8_next 35 = .ok (.aload_n 0, 1) := by decide +kernel
theorem dX8_next_36 : decode cX8_next 36 = .ok (.aload_n 0, 1) := by decide +kernel
theorem dX8_next_37 : decode cX8_next 37 = .ok (.getfield 170, 3) := by decide +kernel
theorem dX8_next_40 : decode cX8_next 40 = .ok (.putfield 173, 3) := by decide +kernel
theorem dX8_next_43 : decode cX8_next 43 = .ok (.aload_n 0, 1) := by decide +kernel
theorem dX8_next_44 : decode cX8_next 44 = .ok (.getfield 170, 3) := by decide +kernel
theorem dX8_next_47 : decode cX8_next 47 = .ok (.iload_n 1, 1) := by decide +kernel
theorem dX8_next_48 : decode cX8_next 48 = .ok (.if_icmp .ne 9, 3) := by decide +kernel
theorem dX8_next_51 : decode cX8_next 51 = .ok (.aload_n 0, 1) := by decide +kernel
theorem dX8_next_52 : decode cX8_next 52 = .ok (.iconst 0, 1) := by decide +kernel
theorem dX8_next_53 : decode cX8_next 53 = .ok (.putfield 176, 3) := by decide +kernel
theorem dX8_next_56 : decode cX8_next 56 = .ok (.return_, 1) := by decide +kernel
theorem dX8_custom_0 : decode cX8_custom 0 = .ok (.aload_n 0, 1) := by decide +kernel
theorem dX8_custom_1 : decode cX8_custom 1 = .ok (.getfield 141, 3) := by decide +kernel
theorem dX8_custom_4 : decode cX8_custom 4 = .ok (.istore_n 1, 1) := by decide +kernel
theorem dX8_custom_5 : decode cX8_custom 5 = .ok (.aload_n 0, 1) := by decide +kernel
theorem dX8_custom_6 : decode cX8_custom 6 = .ok (.iconst 0, 1) := by decide +kernel
theorem dX8_custom_7 : decode cX8_custom 7 = .ok (.putfield 141, 3) := by decide +kernel
theorem dX8_custom_10 : decode cX8_custom 10 = .ok (.aload_n 0, 1) := by decide +kernel
theorem dX8_custom_11 : decode cX8_custom 11 = .ok (.iconst 0, 1) := by decide +kernel
theorem dX8_custom_12 : decode cX8_custom 12 = .ok (.putfield 170, 3) := by decide +kernel
theorem dX8_custom_15 : decode cX8_custom 15 = .ok (.aload_n 0, 1) := by decide +kernel
theorem dX8_custom_16 : decode cX8_custom 16 = .ok (.iconst 0, 1) := by decide +kernel
theorem dX8_custom_17 : decode cX8_custom 17 = .ok (.putfield 196, 3) := by decide +kernel
theorem dX8_custom_20 : decode cX8_custom 20 = .ok (.aload_n 0, 1) := by decide +kernel
theorem dX8_custom_21 : decode cX8_custom 21 = .ok (.iconst (-1), 1) := by decide +kernel
theorem dX8_custom_22 : decode cX8_custom 22 = .ok (.putfield 199, 3) := by decide +kernel
theorem dX8_custom_25 : decode cX8_custom 25 = .ok (.iconst 0, 1) := by decide +kernel
theorem dX8_custom_26 : decode cX8_custom 26 = .ok (.istore_n 2, 1) := by decide +kernel
theorem dX8_custom_27 : decode cX8_custom 27 = .ok (.iconst 0, 1) := by decide +kernel
theorem dX8_custom_28 : decode cX8_custom 28 = .ok (.istore_n 3, 1) := by decide +kernel
theorem dX8_custom_29 : decode cX8_custom 29 = .ok (.iload_n 3, 1) := by decide +kernel
theorem dX8_custom_30 : decode cX8_custom 30 = .ok (.bipush 7, 2) := by decide +kernel
theorem dX8_custom_32 : decode cX8_custom 32 = .ok (.if_icmp .ge 43, 3) := by decide +kernel
theorem dX8_custom_35 : decode cX8_custom 35 = .ok (.aload_n 0, 1) := by decide +kernel
theorem dX8_custom_36 : decode cX8_custom 36 = .ok (.getfield 20, 3) := by decide +kernel
theorem dX8_custom_39 : decode cX8_custom 39 = .ok (.iload_n 3, 1) := by decide +kernel
theorem dX8_custom_40 : decode cX8_custom 40 = .ok (.iconst 0, 1) := by decide +kernel
theorem dX8_custom_41 : decode cX8_custom 41 = .ok (.bastore, 1) := by decide +kernel
theorem dX8_custom_42 : decode cX8_custom 42 = .ok (.aload_n 0, 1) := by decide +kernel
theorem dX8_custom_43 : decode cX8_custom 43 = .ok (.getfield 24, 3) := by decide +kernel
theorem dX8_custom_46 : decode cX8_custom 46 = .ok (.iload_n 3, 1) := by decide +kernel
theorem dX8_custom_47 : decode cX8_custom 47 = .ok (.iload_n 3, 1) := by decide +kernel
theorem dX8_custom_48 : decode cX8_custom 48 = .ok (.iconst 3, 1) := by decide +kernel
theorem dX8_custom_49 : decode cX8_custom 49 = .ok (.if_icmp .ge 7, 3) := by decide +kernel
theorem dX8_custom_52 : decode cX8_custom 52 = .ok (.iconst 1, 1) := by decide +kernel
theorem dX8_custom_53 : decode cX8_custom 53 = .ok (.goto 15, 3) := by decide +kernel
theorem dX8_custom_56 : decode cX8_custom 56 = .ok (.iload_n 3, 1) := by decide +kernel
theorem dX8_custom_57 : decode cX8_custom 57 = .ok (.iconst 3, 1) := by decide +kernel
theorem dX8_custom_58 : decode cX8_custom 58 = .ok (.if_icmp .ne 9, 3) := by decide +kernel
theorem dX8_custom_61 : decode cX8_custom 61 = .ok (.sipush 400, 3) := by decide +kernel
theorem dX8_custom_64 : decode cX8_custom 64 = .ok (.goto 4, 3) := by decide +kernel
theorem dX8_custom_67 : decode cX8_custom 67 = .ok (.iconst 0, 1) := by decide +kernel
theorem dX8_custom_68 : decode cX8_custom 68 = .ok (.iastore, 1) := by decide +kernel
theorem dX8_custom_69 : decode cX8_custom 69 = .ok (.iinc 3 1, 3) := by decide +kernel
theorem dX8_custom_72 : decode cX8_custom 72 = .ok (.goto (-43), 3) := by decide +kernel
theorem dX8_custom_75 : decode cX8_custom 75 = .ok (.aload_n 0, 1) := by decide +kernel
theorem dX8_custom_76 : decode cX8_custom 76 = .ok (.iload_n 1, 1) := by decide +kernel
theorem dX8_custom_77 : decode cX8_custom 77 = .ok (.invokevirtual 205, 3) := by decide +kernel
theorem dX8_custom_80 : decode cX8_custom 80 = .ok (.aload_n 0, 1) := by decide +kernel
theorem dX8_custom_81 : decode cX8_custom 81 = .ok (.getfield 176, 3) := by decide +kernel
theorem dX8_custom_84 : decode cX8_custom 84 = .ok (.ifCond .eq 21, 3) := by decide +kernel
theorem dX8_custom_105 : decode cX8_custom 105 = .ok (.aload_n 0, 1) := by decide +kernel
theorem dX8_custom_106 : decode cX8_custom 106 = .ok (.aload_n 0, 1) := by decide +kernel
theorem dX8_custom_107 : decode cX8_custom 107 = .ok (.getfield 196, 3) := by decide +kernel
theorem dX8_custom_110 : decode cX8_custom 110 = .ok (.putfield 13, 3) := by decide +kernel
theorem dX8_custom_113 : decode cX8_custom 113 = .ok (.aload_n 0, 1) := by decide +kernel
theorem dX8_custom_114 : decode cX8_custom 114 = .ok (.aload_n 0, 1) := by decide +kernel
theorem dX8_custom_115 : decode cX8_custom 115 = .ok (.getfield 199, 3) := by decide +kernel
theorem dX8_custom_118 : decode cX8_custom 118 = .ok (.putfield 17, 3) := by decide +kernel
theorem dX8_custom_121 : decode cX8_custom 121 = .ok (.aload_n 0, 1) := by decide +kernel
theorem dX8_custom_122 : decode cX8_custom 122 = .ok (.getfield 196, 3) := by decide +kernel
theorem dX8_custom_125 : decode cX8_custom 125 = .ok (.ifCond .le 5, 3) := by decide +kernel
theorem dX8_custom_130 : decode cX8_custom 130 = .ok (.iconst 0, 1) := by decide +kernel
theorem dX8_custom_131 : decode cX8_custom 131 = .ok (.istore_n 3, 1) := by decide +kernel
theorem dX8_custom_132 : decode cX8_custom 132 = .ok (.iload_n 3, 1) := by decide +kernel
theorem dX8_custom_133 : decode cX8_custom 133 = .ok (.bipush 7, 2) := by decide +kernel
theorem dX8_custom_135 : decode cX8_custom 135 = .ok (.if_icmp .ge 21, 3) := by decide +kernel
theorem dX8_custom_138 : decode cX8_custom 138 = .ok (.aload_n 0, 1) := by decide +kernel
theorem dX8_custom_139 : decode cX8_custom 139 = .ok (.getfield 28, 3) := by decide +kernel
theorem dX8_custom_142 : decode cX8_custom 142 = .ok (.iload_n 3, 1) := by decide +kernel
theorem dX8_custom_143 : decode cX8_custom 143 = .ok (.aload_n 0, 1) := by decide +kernel
theorem dX8_custom_144 : decode cX8_custom 144 = .ok (.getfield 24, 3) := by decide +kernel
theorem dX8_custom_147 : decode cX8_custom 147 = .ok (.iload_n 3, 1) := by decide +kernel
theorem dX8_custom_148 : decode cX8_custom 148 = .ok (.iaload, 1) := by decide +kernel
theorem dX8_custom_149 : decode cX8_custom 149 = .ok (.iastore, 1) := by decide +kernel
theorem dX8_custom_150 : decode cX8_custom 150 = .ok (.iinc 3 1, 3) := by decide +kernel
theorem dX8_custom_153 : decode cX8_custom 153 = .ok (.goto (-21), 3) := by decide +kernel
theorem dX8_custom_156 : decode cX8_custom 156 = .ok (.iload_n 2, 1) := by decide +kernel
theorem dX8_custom_157 : decode cX8_custom 157 = .ok (.ireturn, 1) := by decide +kernel
theorem dX8_fault_0 : decode cX8_fault 0 = .ok (.iload_n 1, 1) := by decide +kernel
theorem dX8_fault_1 : decode cX8_fault 1 = .ok (.ifCond .ne 10, 3) := by decide +kernel
theorem dX8_fault_4 : decode cX8_fault 4 = .ok (.aload_n 0, 1) := by decide +kernel
theorem dX8_fault_5 : decode cX8_fault 5 = .ok (.getfield 13, 3) := by decide +kernel
theorem dX8_fault_8 : decode cX8_fault 8 = .ok (.goto 16, 3) := by decide +kernel
theorem dX8_fault_11 : decode cX8_fault 11 = .ok (.iload_n 1, 1) := by decide +kernel
theorem dX8_fault_12 : decode cX8_fault 12 = .ok (.iconst 1, 1) := by decide +kernel
theorem dX8_fault_13 : decode cX8_fault 13 = .ok (.if_icmp .ne 10, 3) := by decide +kernel
theorem dX8_fault_16 : decode cX8_fault 16 = .ok (.aload_n 0, 1) := by decide +kernel
theorem dX8_fault_17 : decode cX8_fault 17 = .ok (.getfield 17, 3) := by decide +kernel
theorem dX8_fault_20 : decode cX8_fault 20 = .ok (.goto 4, 3) := by decide +kernel
theorem dX8_fault_23 : decode cX8_fault 23 = .ok (.iconst (-1), 1) := by decide +kernel
theorem dX8_fault_24 : decode cX8_fault 24 = .ok (.ireturn, 1) := by decide +kernel
theorem dX8_says_0 : decode cX8_says 0 = .ok (.iload_n 1, 1) := by decide +kernel
theorem dX8_says_1 : decode cX8_says 1 = .ok (.i2l, 1) := by decide +kernel
theorem dX8_says_2 : decode cX8_says 2 = .ok (.lconst 0, 1) := by decide +kernel
theorem dX8_says_3 : decode cX8_says 3 = .ok (.ldc2_w 218, 3) := by decide +kernel
theorem dX8_says_6 : decode cX8_says 6 = .ok (.invokestatic 118, 3) := by decide +kernel
theorem dX8_says_9 : decode cX8_says 9 = .ok (.ifCond .eq 12, 3) := by decide +kernel
theorem dX8_says_12 : decode cX8_says 12 = .ok (.aload_n 0, 1) := by decide +kernel
theorem dX8_says_13 : decode cX8_says 13 = .ok (.getfield 28, 3) := by decide +kernel
theorem dX8_says_16 : decode cX8_says 16 = .ok (.iload_n 1, 1) := by decide +kernel
theorem dX8_says_17 : decode cX8_says 17 = .ok (.iaload, 1) := by decide +kernel
theorem dX8_says_18 : decode cX8_says 18 = .ok (.goto 4, 3) := by decide +kernel
theorem dX8_says_21 : decode cX8_says 21 = .ok (.iconst (-1), 1) := by decide +kernel
theorem dX8_says_22 : decode cX8_says 22 = .ok (.ireturn, 1) := by decide +kernel
theorem dX8_ill_0 : decode cX8_ill 0 = .ok (.aload_n 0, 1) := by decide +kernel
theorem dX8_ill_1 : decode cX8_ill 1 = .ok (.iload_n 1, 1) := by decide +kernel
theorem dX8_ill_2 : decode cX8_ill 2 = .ok (.invokevirtual 127, 3) := by decide +kernel
theorem dX8_ill_5 : decode cX8_ill 5 = .ok (.ifCond .eq 15, 3) := by decide +kernel
theorem dX8_ill_20 : decode cX8_ill 20 = .ok (.iconst 0, 1) := by decide +kernel
theorem dX8_ill_21 : decode cX8_ill 21 = .ok (.ireturn, 1) := by decide +kernel
theorem dX8_work_0 : decode cX8_work 0 = .ok (.aload_n 0, 1) := by decide +kernel
theorem dX8_work_1 : decode cX8_work 1 = .ok (.iload_n 1, 1) := by decide +kernel
theorem dX8_work_2 : decode cX8_work 2 = .ok (.invokevirtual 127, 3) := by decide +kernel
theorem dX8_work_5 : decode cX8_work 5 = .ok (.ifCond .eq 31, 3) := by decide +kernel
theorem dX8_work_36 : decode cX8_work 36 = .ok (.iconst (-1), 1) := by decide +kernel
theorem dX8_work_37 : decode cX8_work 37 = .ok (.ireturn, 1) := by decide +kernel
theorem dX8_hire_0 : decode cX8_hire 0 = .ok (.aload_n 0, 1) := by decide +kernel
theorem dX8_hire_1 : decode cX8_hire 1 = .ok (.iload_n 1, 1) := by decide +kernel
theorem dX8_hire_2 : decode cX8_hire 2 = .ok (.iload_n 2, 1) := by decide +kernel
theorem dX8_hire_3 : decode cX8_hire 3 = .ok (.invokevirtual 233, 3) := by decide +kernel
theorem dX8_hire_6 : decode cX8_hire 6 = .ok (.ifCond .eq 14, 3) := by decide +kernel
theorem dX8_hire_20 : decode cX8_hire 20 = .ok (.iconst (-1), 1) := by decide +kernel
theorem dX8_hire_21 : decode cX8_hire 21 = .ok (.ireturn, 1) := by decide +kernel
theorem dX8_drops_0 : decode cX8_drops 0 = .ok (.iconst 0, 1) := by decide +kernel
theorem dX8_drops_1 : decode cX8_drops 1 = .ok (.istore_n 1, 1) := by decide +kernel
theorem dX8_drops_2 : decode cX8_drops 2 = .ok (.iconst 0, 1) := by decide +kernel
theorem dX8_drops_3 : decode cX8_drops 3 = .ok (.istore_n 2, 1) := by decide +kernel
theorem dX8_drops_4 : decode cX8_drops 4 = .ok (.iload_n 2, 1) := by decide +kernel
theorem dX8_drops_5 : decode cX8_drops 5 = .ok (.aload_n 0, 1) := by decide +kernel
theorem dX8_drops_6 : decode cX8_drops 6 = .ok (.getfield 230, 3) := by decide +kernel
theorem dX8_drops_9 : decode cX8_drops 9 = .ok (.if_icmp .ge 69, 3) := by decide +kernel
theorem dX8_drops_78 : decode cX8_drops 78 = .ok (.aload_n 0, 1) := by decide +kernel
theorem dX8_drops_79 : decode cX8_drops 79 = .ok (.iload_n 1, 1) := by decide +kernel
theorem dX8_drops_80 : decode cX8_drops 80 = .ok (.putfield 230, 3) := by decide +kernel
theorem dX8_drops_83 : decode cX8_drops 83 = .ok (.return_, 1) := by decide +kernel
theorem dX8_goes_0 : decode cX8_goes 0 = .ok (.aload_n 0, 1) := by decide +kernel
theorem dX8_goes_1 : decode cX8_goes 1 = .ok (.dup, 1) := by decide +kernel
theorem dX8_goes_2 : decode cX8_goes 2 = .ok (.getfield 223, 3) := by decide +kernel
theorem dX8_goes_5 : decode cX8_goes 5 = .ok (.iconst 1, 1) := by decide +kernel
theorem dX8_goes_6 : decode cX8_goes 6 = .ok (.iadd, 1) := by decide +kernel
theorem dX8_goes_7 : decode cX8_goes 7 = .ok (.putfield 223, 3) := by decide +kernel
theorem dX8_goes_10 : decode cX8_goes 10 = .ok (.aload_n 0, 1) := by decide +kernel
theorem dX8_goes_11 : decode cX8_goes 11 = .ok (.iconst 0, 1) := by decide +kernel
theorem dX8_goes_12 : decode cX8_goes 12 = .ok (.putfield 254, 3) := by decide +kernel
theorem dX8_goes_15 : decode cX8_goes 15 = .ok (.iconst 0, 1) := by decide +kernel
theorem dX8_goes_16 : decode cX8_goes 16 = .ok (.istore_n 1, 1) := by decide +kernel
theorem dX8_goes_17 : decode cX8_goes 17 = .ok (.iload_n 1, 1) := by decide +kernel
theorem dX8_goes_18 : decode cX8_goes 18 = .ok (.aload_n 0, 1) := by decide +kernel
theorem dX8_goes_19 : decode cX8_goes 19 = .ok (.getfield 115, 3) := by decide +kernel
theorem dX8_goes_22 : decode cX8_goes 22 = .ok (.if_icmp .ge 39, 3) := by decide +kernel
theorem dX8_goes_61 : decode cX8_goes 61 = .ok (.iconst 0, 1) := by decide +kernel
theorem dX8_goes_62 : decode cX8_goes 62 = .ok (.istore_n 1, 1) := by decide +kernel
theorem dX8_goes_63 : decode cX8_goes 63 = .ok (.iload_n 1, 1) := by decide +kernel
theorem dX8_goes_64 : decode cX8_goes 64 = .ok (.aload_n 0, 1) := by decide +kernel
theorem dX8_goes_65 : decode cX8_goes 65 = .ok (.getfield 230, 3) := by decide +kernel
theorem dX8_goes_68 : decode cX8_goes 68 = .ok (.if_icmp .ge 83, 3) := by decide +kernel
theorem dX8_goes_151 : decode cX8_goes 151 = .ok (.aload_n 0, 1) := by decide +kernel
theorem dX8_goes_152 : decode cX8_goes 152 = .ok (.invokevirtual 247, 3) := by decide +kernel
theorem dX8_goes_155 : decode cX8_goes 155 = .ok (.return_, 1) := by decide +kernel
theorem dX8_days_0 : decode cX8_days 0 = .ok (.iload_n 1, 1) := by decide +kernel
theorem dX8_days_1 : decode cX8_days 1 = .ok (.i2l, 1) := by decide +kernel
theorem dX8_days_2 : decode cX8_days 2 = .ok (.lconst 1, 1) := by decide +kernel
theorem dX8_days_3 : decode cX8_days 3 = .ok (.ldc2_w 139, 3) := by decide +kernel
theorem dX8_days_6 : decode cX8_days 6 = .ok (.invokestatic 118, 3) := by decide +kernel
theorem dX8_days_9 : decode cX8_days 9 = .ok (.ifCond .eq 15, 3) := by decide +kernel
theorem dX8_days_12 : decode cX8_days 12 = .ok (.aload_n 0, 1) := by decide +kernel
theorem dX8_days_13 : decode cX8_days 13 = .ok (.getfield 223, 3) := by decide +kernel
theorem dX8_days_16 : decode cX8_days 16 = .ok (.iload_n 1, 1) := by decide +kernel
theorem dX8_days_17 : decode cX8_days 17 = .ok (.iadd, 1) := by decide +kernel
theorem dX8_days_18 : decode cX8_days 18 = .ok (.sipush 400, 3) := by decide +kernel
theorem dX8_days_21 : decode cX8_days 21 = .ok (.if_icmp .le 5, 3) := by decide +kernel
theorem dX8_days_24 : decode cX8_days 24 = .ok (.iconst (-1), 1) := by decide +kernel
theorem dX8_days_25 : decode cX8_days 25 = .ok (.ireturn, 1) := by decide +kernel
theorem dX8_days_26 : decode cX8_days 26 = .ok (.iconst 0, 1) := by decide +kernel
theorem dX8_days_27 : decode cX8_days 27 = .ok (.istore_n 2, 1) := by decide +kernel
theorem dX8_days_28 : decode cX8_days 28 = .ok (.iload_n 2, 1) := by decide +kernel
theorem dX8_days_29 : decode cX8_days 29 = .ok (.iload_n 1, 1) := by decide +kernel
theorem dX8_days_30 : decode cX8_days 30 = .ok (.if_icmp .ge 13, 3) := by decide +kernel
theorem dX8_days_33 : decode cX8_days 33 = .ok (.aload_n 0, 1) := by decide +kernel
theorem dX8_days_34 : decode cX8_days 34 = .ok (.invokevirtual 257, 3) := by decide +kernel
theorem dX8_days_37 : decode cX8_days 37 = .ok (.iinc 2 1, 3) := by decide +kernel
theorem dX8_days_40 : decode cX8_days 40 = .ok (.goto (-12), 3) := by decide +kernel
theorem dX8_days_43 : decode cX8_days 43 = .ok (.aload_n 0, 1) := by decide +kernel
theorem dX8_days_44 : decode cX8_days 44 = .ok (.getfield 223, 3) := by decide +kernel
theorem dX8_days_47 : decode cX8_days 47 = .ok (.ireturn, 1) := by decide +kernel
theorem dX8_houseOf_0 : decode cX8_houseOf 0 = .ok (.aload_n 0, 1) := by decide +kernel
theorem dX8_houseOf_1 : decode cX8_houseOf 1 = .ok (.iload_n 1, 1) := by decide +kernel
theorem dX8_houseOf_2 : decode cX8_houseOf 2 = .ok (.invokevirtual 127, 3) := by decide +kernel
theorem dX8_houseOf_5 : decode cX8_houseOf 5 = .ok (.ifCond .ne 7, 3) := by decide +kernel
theorem dX8_houseOf_8 : decode cX8_houseOf 8 = .ok (.ldc_w 263, 3) := by decide +kernel
theorem dX8_houseOf_11 : decode cX8_houseOf 11 = .ok (.ireturn, 1) := by decide +kernel
theorem dX8_fieldOf_0 : decode cX8_fieldOf 0 = .ok (.aload_n 0, 1) := by decide +kernel
theorem dX8_fieldOf_1 : decode cX8_fieldOf 1 = .ok (.iload_n 1, 1) := by decide +kernel
theorem dX8_fieldOf_2 : decode cX8_fieldOf 2 = .ok (.invokevirtual 220, 3) := by decide +kernel
theorem dX8_fieldOf_5 : decode cX8_fieldOf 5 = .ok (.ifCond .ne 5, 3) := by decide +kernel
theorem dX8_fieldOf_8 : decode cX8_fieldOf 8 = .ok (.iconst (-1), 1) := by decide +kernel
theorem dX8_fieldOf_9 : decode cX8_fieldOf 9 = .ok (.ireturn, 1) := by decide +kernel
theorem dX8_owes_0 : decode cX8_owes 0 = .ok (.aload_n 0, 1) := by decide +kernel
theorem dX8_owes_1 : decode cX8_owes 1 = .ok (.iload_n 1, 1) := by decide +kernel
theorem dX8_owes_2 : decode cX8_owes 2 = .ok (.invokevirtual 127, 3) := by decide +kernel
theorem dX8_owes_5 : decode cX8_owes 5 = .ok (.ifCond .eq 16, 3) := by decide +kernel
theorem dX8_owes_21 : decode cX8_owes 21 = .ok (.iconst (-1), 1) := by decide +kernel
theorem dX8_owes_22 : decode cX8_owes 22 = .ok (.goto 9, 3) := by decide +kernel
theorem dX8_owes_31 : decode cX8_owes 31 = .ok (.ireturn, 1) := by decide +kernel
theorem dX8_oldest_0 : decode cX8_oldest 0 = .ok (.aload_n 0, 1) := by decide +kernel
theorem dX8_oldest_1 : decode cX8_oldest 1 = .ok (.iload_n 1, 1) := by decide +kernel
theorem dX8_oldest_2 : decode cX8_oldest 2 = .ok (.invokevirtual 127, 3) := by decide +kernel
theorem dX8_oldest_5 : decode cX8_oldest 5 = .ok (.ifCond .eq 11, 3) := by decide +kernel
theorem dX8_oldest_16 : decode cX8_oldest 16 = .ok (.iconst (-1), 1) := by decide +kernel
theorem dX8_oldest_17 : decode cX8_oldest 17 = .ok (.ireturn, 1) := by decide +kernel
theorem dX8_parts_0 : decode cX8_parts 0 = .ok (.aload_n 0, 1) := by decide +kernel
theorem dX8_parts_1 : decode cX8_parts 1 = .ok (.getfield 94, 3) := by decide +kernel
theorem dX8_parts_4 : decode cX8_parts 4 = .ok (.iconst 0, 1) := by decide +kernel
theorem dX8_parts_5 : decode cX8_parts 5 = .ok (.iconst 0, 1) := by decide +kernel
theorem dX8_parts_6 : decode cX8_parts 6 = .ok (.iastore, 1) := by decide +kernel
theorem dX8_parts_7 : decode cX8_parts 7 = .ok (.iconst 1, 1) := by decide +kernel
theorem dX8_parts_8 : decode cX8_parts 8 = .ok (.istore_n 2, 1) := by decide +kernel
theorem dX8_parts_9 : decode cX8_parts 9 = .ok (.iload_n 2, 1) := by decide +kernel
theorem dX8_parts_10 : decode cX8_parts 10 = .ok (.iload_n 1, 1) := by decide +kernel
theorem dX8_parts_11 : decode cX8_parts 11 = .ok (.if_icmp .gt 114, 3) := by decide +kernel
theorem dX8_parts_125 : decode cX8_parts 125 = .ok (.return_, 1) := by decide +kernel
theorem dX8_pays_0 : decode cX8_pays 0 = .ok (.iconst 0, 1) := by decide +kernel
theorem dX8_pays_1 : decode cX8_pays 1 = .ok (.istore_n 1, 1) := by decide +kernel
theorem dX8_pays_2 : decode cX8_pays 2 = .ok (.aload_n 0, 1) := by decide +kernel
theorem dX8_pays_3 : decode cX8_pays 3 = .ok (.iconst 0, 1) := by decide +kernel
theorem dX8_pays_4 : decode cX8_pays 4 = .ok (.putfield 276, 3) := by decide +kernel
theorem dX8_pays_7 : decode cX8_pays 7 = .ok (.iconst 0, 1) := by decide +kernel
theorem dX8_pays_8 : decode cX8_pays 8 = .ok (.istore_n 2, 1) := by decide +kernel
theorem dX8_pays_9 : decode cX8_pays 9 = .ok (.iload_n 2, 1) := by decide +kernel
theorem dX8_pays_10 : decode cX8_pays 10 = .ok (.aload_n 0, 1) := by decide +kernel
theorem dX8_pays_11 : decode cX8_pays 11 = .ok (.getfield 115, 3) := by decide +kernel
theorem dX8_pays_14 : decode cX8_pays 14 = .ok (.if_icmp .ge 39, 3) := by decide +kernel
theorem dX8_pays_53 : decode cX8_pays 53 = .ok (.aload_n 0, 1) := by decide +kernel
theorem dX8_pays_54 : decode cX8_pays 54 = .ok (.iload_n 1, 1) := by decide +kernel
theorem dX8_pays_55 : decode cX8_pays 55 = .ok (.invokevirtual 279, 3) := by decide +kernel
theorem dX8_pays_58 : decode cX8_pays 58 = .ok (.iload_n 1, 1) := by decide +kernel
theorem dX8_pays_59 : decode cX8_pays 59 = .ok (.ifCond .le 68, 3) := by decide +kernel
theorem dX8_pays_127 : decode cX8_pays 127 = .ok (.return_, 1) := by decide +kernel
theorem dX8_payments_0 : decode cX8_payments 0 = .ok (.aload_n 0, 1) := by decide +kernel
theorem dX8_payments_1 : decode cX8_payments 1 = .ok (.invokevirtual 289, 3) := by decide +kernel
theorem dX8_payments_4 : decode cX8_payments 4 = .ok (.aload_n 0, 1) := by decide +kernel
theorem dX8_payments_5 : decode cX8_payments 5 = .ok (.getfield 276, 3) := by decide +kernel
theorem dX8_payments_8 : decode cX8_payments 8 = .ok (.ireturn, 1) := by decide +kernel
theorem dX8_payment_0 : decode cX8_payment 0 = .ok (.aload_n 0, 1) := by decide +kernel
theorem dX8_payment_1 : decode cX8_payment 1 = .ok (.invokevirtual 289, 3) := by decide +kernel
theorem dX8_payment_4 : decode cX8_payment 4 = .ok (.iload_n 1, 1) := by decide +kernel
theorem dX8_payment_5 : decode cX8_payment 5 = .ok (.i2l, 1) := by decide +kernel
theorem dX8_payment_6 : decode cX8_payment 6 = .ok (.lconst 0, 1) := by decide +kernel
theorem dX8_payment_7 : decode cX8_payment 7 = .ok (.aload_n 0, 1) := by decide +kernel
theorem dX8_payment_8 : decode cX8_payment 8 = .ok (.getfield 276, 3) := by decide +kernel
theorem dX8_payment_11 : decode cX8_payment 11 = .ok (.iconst 1, 1) := by decide +kernel
theorem dX8_payment_12 : decode cX8_payment 12 = .ok (.isub, 1) := by decide +kernel
theorem dX8_payment_13 : decode cX8_payment 13 = .ok (.i2l, 1) := by decide +kernel
theorem dX8_payment_14 : decode cX8_payment 14 = .ok (.invokestatic 118, 3) := by decide +kernel
theorem dX8_payment_17 : decode cX8_payment 17 = .ok (.ifCond .ne 5, 3) := by decide +kernel
theorem dX8_payment_20 : decode cX8_payment 20 = .ok (.iconst (-1), 1) := by decide +kernel
theorem dX8_payment_21 : decode cX8_payment 21 = .ok (.ireturn, 1) := by decide +kernel
theorem dX8_even_0 : decode cX8_even 0 = .ok (.aload_n 0, 1) := by decide +kernel
theorem dX8_even_1 : decode cX8_even 1 = .ok (.invokevirtual 289, 3) := by decide +kernel
theorem dX8_even_4 : decode cX8_even 4 = .ok (.aload_n 0, 1) := by decide +kernel
theorem dX8_even_5 : decode cX8_even 5 = .ok (.iconst 0, 1) := by decide +kernel
theorem dX8_even_6 : decode cX8_even 6 = .ok (.putfield 230, 3) := by decide +kernel
theorem dX8_even_9 : decode cX8_even 9 = .ok (.aload_n 0, 1) := by decide +kernel
theorem dX8_even_10 : decode cX8_even 10 = .ok (.getfield 276, 3) := by decide +kernel
theorem dX8_even_13 : decode cX8_even 13 = .ok (.ireturn, 1) := by decide +kernel
theorem dX8_lost_0 : decode cX8_lost 0 = .ok (.aload_n 0, 1) := by decide +kernel
theorem dX8_lost_1 : decode cX8_lost 1 = .ok (.getfield 292, 3) := by decide +kernel
theorem dX8_lost_4 : decode cX8_lost 4 = .ok (.istore_n 2, 1) := by decide +kernel
theorem dX8_lost_5 : decode cX8_lost 5 = .ok (.iconst 0, 1) := by decide +kernel
theorem dX8_lost_6 : decode cX8_lost 6 = .ok (.istore_n 3, 1) := by decide +kernel
theorem dX8_lost_7 : decode cX8_lost 7 = .ok (.iconst 0, 1) := by decide +kernel
theorem dX8_lost_8 : decode cX8_lost 8 = .ok (.istore 4, 2) := by decide +kernel
theorem dX8_lost_10 : decode cX8_lost 10 = .ok (.iload 4, 2) := by decide +kernel
theorem dX8_lost_12 : decode cX8_lost 12 = .ok (.aload_n 0, 1) := by decide +kernel
theorem dX8_lost_13 : decode cX8_lost 13 = .ok (.getfield 292, 3) := by decide +kernel
theorem dX8_lost_16 : decode cX8_lost 16 = .ok (.if_icmp .ge 33, 3) := by decide +kernel
theorem dX8_lost_49 : decode cX8_lost 49 = .ok (.aload_n 0, 1) := by decide +kernel
theorem dX8_lost_50 : decode cX8_lost 50 = .ok (.getfield 223, 3) := by decide +kernel
theorem dX8_lost_53 : decode cX8_lost 53 = .ok (.istore 4, 2) := by decide +kernel
theorem dX8_lost_55 : decode cX8_lost 55 = .ok (.iload_n 2, 1) := by decide +kernel
theorem dX8_lost_56 : decode cX8_lost 56 = .ok (.ifCond .le 141, 3) := by decide +kernel
theorem dX8_lost_197 : decode cX8_lost 197 = .ok (.iload_n 3, 1) := by decide +kernel
theorem dX8_lost_198 : decode cX8_lost 198 = .ok (.ireturn, 1) := by decide +kernel
theorem dX8_nextOrder_0 : decode cX8_nextOrder 0 = .ok (.aload_n 0, 1) := by decide +kernel
theorem dX8_nextOrder_1 : decode cX8_nextOrder 1 = .ok (.getfield 292, 3) := by decide +kernel
theorem dX8_nextOrder_4 : decode cX8_nextOrder 4 = .ok (.iconst 2, 1) := by decide +kernel
theorem dX8_nextOrder_5 : decode cX8_nextOrder 5 = .ok (.isub, 1) := by decide +kernel
theorem dX8_nextOrder_6 : decode cX8_nextOrder 6 = .ok (.istore_n 1, 1) := by decide +kernel
theorem dX8_nextOrder_7 : decode cX8_nextOrder 7 = .ok (.iload_n 1, 1) := by decide +kernel
theorem dX8_nextOrder_8 : decode cX8_nextOrder 8 = .ok (.ifCond .lt 26, 3) := by decide +kernel
theorem dX8_nextOrder_34 : decode cX8_nextOrder 34 = .ok (.iload_n 1, 1) := by decide +kernel
theorem dX8_nextOrder_35 : decode cX8_nextOrder 35 = .ok (.ifCond .ge 5, 3) := by decide +kernel
theorem dX8_nextOrder_38 : decode cX8_nextOrder 38 = .ok (.iconst 0, 1) := by decide +kernel
theorem dX8_nextOrder_39 : decode cX8_nextOrder 39 = .ok (.ireturn, 1) := by decide +kernel
theorem dX8_plan_0 : decode cX8_plan 0 = .ok (.iconst 0, 1) := by decide +kernel
theorem dX8_plan_1 : decode cX8_plan 1 = .ok (.istore_n 2, 1) := by decide +kernel
theorem dX8_plan_2 : decode cX8_plan 2 = .ok (.iconst 0, 1) := by decide +kernel
theorem dX8_plan_3 : decode cX8_plan 3 = .ok (.istore_n 3, 1) := by decide +kernel
theorem dX8_plan_4 : decode cX8_plan 4 = .ok (.iload_n 3, 1) := by decide +kernel
theorem dX8_plan_5 : decode cX8_plan 5 = .ok (.aload_n 0, 1) := by decide +kernel
theorem dX8_plan_6 : decode cX8_plan 6 = .ok (.getfield 122, 3) := by decide +kernel
theorem dX8_plan_9 : decode cX8_plan 9 = .ok (.if_icmp .ge 26, 3) := by decide +kernel
theorem dX8_plan_35 : decode cX8_plan 35 = .ok (.iload_n 1, 1) := by decide +kernel
theorem dX8_plan_36 : decode cX8_plan 36 = .ok (.i2l, 1) := by decide +kernel
theorem dX8_plan_37 : decode cX8_plan 37 = .ok (.lconst 1, 1) := by decide +kernel
theorem dX8_plan_38 : decode cX8_plan 38 = .ok (.ldc2_w 299, 3) := by decide +kernel
theorem dX8_plan_41 : decode cX8_plan 41 = .ok (.invokestatic 118, 3) := by decide +kernel
theorem dX8_plan_44 : decode cX8_plan 44 = .ok (.ifCond .eq 9, 3) := by decide +kernel
theorem dX8_plan_47 : decode cX8_plan 47 = .ok (.iload_n 2, 1) := by decide +kernel
theorem dX8_plan_48 : decode cX8_plan 48 = .ok (.bipush 7, 2) := by decide +kernel
theorem dX8_plan_50 : decode cX8_plan 50 = .ok (.if_icmp .le 5, 3) := by decide +kernel
theorem dX8_plan_53 : decode cX8_plan 53 = .ok (.iconst (-1), 1) := by decide +kernel
theorem dX8_plan_54 : decode cX8_plan 54 = .ok (.ireturn, 1) := by decide +kernel
theorem dX8_plan_55 : decode cX8_plan 55 = .ok (.aload_n 0, 1) := by decide +kernel
theorem dX8_plan_56 : decode cX8_plan 56 = .ok (.iconst 0, 1) := by decide +kernel
theorem dX8_plan_57 : decode cX8_plan 57 = .ok (.putfield 292, 3) := by decide +kernel
theorem dX8_plan_60 : decode cX8_plan 60 = .ok (.iconst 0, 1) := by decide +kernel
theorem dX8_plan_61 : decode cX8_plan 61 = .ok (.istore_n 3, 1) := by decide +kernel
theorem dX8_plan_62 : decode cX8_plan 62 = .ok (.iload_n 3, 1) := by decide +kernel
theorem dX8_plan_63 : decode cX8_plan 63 = .ok (.aload_n 0, 1) := by decide +kernel
theorem dX8_plan_64 : decode cX8_plan 64 = .ok (.getfield 122, 3) := by decide +kernel
theorem dX8_plan_67 : decode cX8_plan 67 = .ok (.if_icmp .ge 38, 3) := by decide +kernel
theorem dX8_plan_105 : decode cX8_plan 105 = .ok (.aload_n 0, 1) := by decide +kernel
theorem dX8_plan_106 : decode cX8_plan 106 = .ok (.aload_n 0, 1) := by decide +kernel
theorem dX8_plan_107 : decode cX8_plan 107 = .ok (.getfield 292, 3) := by decide +kernel
theorem dX8_plan_110 : decode cX8_plan 110 = .ok (.putfield 301, 3) := by decide +kernel
theorem dX8_plan_113 : decode cX8_plan 113 = .ok (.iconst (-1), 1) := by decide +kernel
theorem dX8_plan_114 : decode cX8_plan 114 = .ok (.istore_n 3, 1) := by decide +kernel
theorem dX8_plan_115 : decode cX8_plan 115 = .ok (.iconst 1, 1) := by decide +kernel
theorem dX8_plan_116 : decode cX8_plan 116 = .ok (.istore 4, 2) := by decide +kernel
theorem dX8_plan_118 : decode cX8_plan 118 = .ok (.iload 4, 2) := by decide +kernel
theorem dX8_plan_120 : decode cX8_plan 120 = .ok (.ifCond .eq 64, 3) := by decide +kernel
theorem dX8_plan_123 : decode cX8_plan 123 = .ok (.aload_n 0, 1) := by decide +kernel
theorem dX8_plan_124 : decode cX8_plan 124 = .ok (.iload_n 1, 1) := by decide +kernel
theorem dX8_plan_125 : decode cX8_plan 125 = .ok (.invokevirtual 304, 3) := by decide +kernel
theorem dX8_plan_128 : decode cX8_plan 128 = .ok (.istore 5, 2) := by decide +kernel
theorem dX8_plan_130 : decode cX8_plan 130 = .ok (.iload_n 3, 1) := by decide +kernel
theorem dX8_plan_131 : decode cX8_plan 131 = .ok (.ifCond .lt 9, 3) := by decide +kernel
theorem dX8_plan_140 : decode cX8_plan 140 = .ok (.iload 5, 2) := by decide +kernel
theorem dX8_plan_142 : decode cX8_plan 142 = .ok (.istore_n 3, 1) := by decide +kernel
theorem dX8_plan_143 : decode cX8_plan 143 = .ok (.iconst 0, 1) := by decide +kernel
theorem dX8_plan_144 : decode cX8_plan 144 = .ok (.istore 6, 2) := by decide +kernel
theorem dX8_plan_146 : decode cX8_plan 146 = .ok (.iload 6, 2) := by decide +kernel
theorem dX8_plan_148 : decode cX8_plan 148 = .ok (.aload_n 0, 1) := by decide +kernel
theorem dX8_plan_149 : decode cX8_plan 149 = .ok (.getfield 292, 3) := by decide +kernel
theorem dX8_plan_152 : decode cX8_plan 152 = .ok (.if_icmp .ge 23, 3) := by decide +kernel
theorem dX8_plan_175 : decode cX8_plan 175 = .ok (.aload_n 0, 1) := by decide +kernel
theorem dX8_plan_176 : decode cX8_plan 176 = .ok (.invokevirtual 307, 3) := by decide +kernel
theorem dX8_plan_179 : decode cX8_plan 179 = .ok (.istore 4, 2) := by decide +kernel
theorem dX8_plan_181 : decode cX8_plan 181 = .ok (.goto (-63), 3) := by decide +kernel
theorem dX8_plan_184 : decode cX8_plan 184 = .ok (.iload_n 3, 1) := by decide +kernel
theorem dX8_plan_185 : decode cX8_plan 185 = .ok (.ireturn, 1) := by decide +kernel
theorem dX8_planned_0 : decode cX8_planned 0 = .ok (.iload_n 1, 1) := by decide +kernel
theorem dX8_planned_1 : decode cX8_planned 1 = .ok (.i2l, 1) := by decide +kernel
theorem dX8_planned_2 : decode cX8_planned 2 = .ok (.lconst 0, 1) := by decide +kernel
theorem dX8_planned_3 : decode cX8_planned 3 = .ok (.aload_n 0, 1) := by decide +kernel
theorem dX8_planned_4 : decode cX8_planned 4 = .ok (.getfield 301, 3) := by decide +kernel
theorem dX8_planned_7 : decode cX8_planned 7 = .ok (.iconst 1, 1) := by decide +kernel
theorem dX8_planned_8 : decode cX8_planned 8 = .ok (.isub, 1) := by decide +kernel
theorem dX8_planned_9 : decode cX8_planned 9 = .ok (.i2l, 1) := by decide +kernel
theorem dX8_planned_10 : decode cX8_planned 10 = .ok (.invokestatic 118, 3) := by decide +kernel
theorem dX8_planned_13 : decode cX8_planned 13 = .ok (.ifCond .eq 12, 3) := by decide +kernel
theorem dX8_planned_25 : decode cX8_planned 25 = .ok (.iconst (-1), 1) := by decide +kernel
theorem dX8_planned_26 : decode cX8_planned 26 = .ok (.ireturn, 1) := by decide +kernel
theorem dX8_about_0 : decode cX8_about 0 = .ok (.iload_n 1, 1) := by decide +kernel
theorem dX8_about_1 : decode cX8_about 1 = .ok (.tableswitch 69 0 5 #[39, 44, 49, 54, 59, 64], 39) := by decide +kernel
theorem dX8_about_40 : decode cX8_about 40 = .ok (.aload_n 0, 1) := by decide +kernel
theorem dX8_about_41 : decode cX8_about 41 = .ok (.getfield 115, 3) := by decide +kernel
theorem dX8_about_44 : decode cX8_about 44 = .ok (.ireturn, 1) := by decide +kernel
theorem dX8_about_45 : decode cX8_about 45 = .ok (.aload_n 0, 1) := by decide +kernel
theorem dX8_about_46 : decode cX8_about 46 = .ok (.getfield 122, 3) := by decide +kernel
theorem dX8_about_49 : decode cX8_about 49 = .ok (.ireturn, 1) := by decide +kernel
theorem dX8_about_50 : decode cX8_about 50 = .ok (.aload_n 0, 1) := by decide +kernel
theorem dX8_about_51 : decode cX8_about 51 = .ok (.getfield 223, 3) := by decide +kernel
theorem dX8_about_54 : decode cX8_about 54 = .ok (.ireturn, 1) := by decide +kernel
theorem dX8_about_55 : decode cX8_about 55 = .ok (.aload_n 0, 1) := by decide +kernel
theorem dX8_about_56 : decode cX8_about 56 = .ok (.getfield 230, 3) := by decide +kernel
theorem dX8_about_59 : decode cX8_about 59 = .ok (.ireturn, 1) := by decide +kernel
theorem dX8_about_60 : decode cX8_about 60 = .ok (.aload_n 0, 1) := by decide +kernel
theorem dX8_about_61 : decode cX8_about 61 = .ok (.getfield 254, 3) := by decide +kernel
theorem dX8_about_64 : decode cX8_about 64 = .ok (.ireturn, 1) := by decide +kernel
theorem dX8_about_65 : decode cX8_about 65 = .ok (.aload_n 0, 1) := by decide +kernel
theorem dX8_about_66 : decode cX8_about 66 = .ok (.getfield 141, 3) := by decide +kernel
theorem dX8_about_69 : decode cX8_about 69 = .ok (.ireturn, 1) := by decide +kernel
theorem dX8_about_70 : decode cX8_about 70 = .ok (.iload_n 1, 1) := by decide +kernel
theorem dX8_about_71 : decode cX8_about 71 = .ok (.i2l, 1) := by decide +kernel
theorem dX8_about_72 : decode cX8_about 72 = .ok (.ldc2_w 311, 3) := by decide +kernel
theorem dX8_about_75 : decode cX8_about 75 = .ok (.ldc2_w 313, 3) := by decide +kernel
theorem dX8_about_78 : decode cX8_about 78 = .ok (.invokestatic 118, 3) := by decide +kernel
theorem dX8_about_81 : decode cX8_about 81 = .ok (.ifCond .eq 15, 3) := by decide +kernel
theorem dX8_about_84 : decode cX8_about 84 = .ok (.aload_n 0, 1) := by decide +kernel
theorem dX8_about_85 : decode cX8_about 85 = .ok (.getfield 55, 3) := by decide +kernel
theorem dX8_about_88 : decode cX8_about 88 = .ok (.iload_n 1, 1) := by decide +kernel
theorem dX8_about_89 : decode cX8_about 89 = .ok (.bipush 20, 2) := by decide +kernel
theorem dX8_about_91 : decode cX8_about 91 = .ok (.isub, 1) := by decide +kernel
theorem dX8_about_92 : decode cX8_about 92 = .ok (.iaload, 1) := by decide +kernel
theorem dX8_about_93 : decode cX8_about 93 = .ok (.goto 4, 3) := by decide +kernel
theorem dX8_about_96 : decode cX8_about 96 = .ok (.iconst (-1), 1) := by decide +kernel
theorem dX8_about_97 : decode cX8_about 97 = .ok (.ireturn, 1) := by decide +kernel
set_option maxHeartbeats 4000000 in
set_option maxRecDepth 100000 in
theorem m_isHouse (l : Launch) (dC : Nat → ClassId) (dI : Nat → Nat → Nat) (b : Nat → Nat) (p0 : Int32) (sz : Nat) : Met l yX8_isHouse (zz_w yX8_isHouse cX8_isHouse 2 (some .boolean)) ({ frames := 1, cells := 0, slots := 0, locals := 25 }) (va_Pc [.ref (b 0), .int p0] (zz_B (dC, dI) sz [(b 0, .inr (8, [.ref (b 1), .int 0, .int 0, .int 0, .int 0, .int 0, .int 0, .int 0, .int (-1), .int (-1), .ref (b 11), .ref (b 12), .ref (b 13), .int 0, .int 0, .ref (b 16), .ref (b 17), .ref (b 18), .ref (b 19), .ref (b 20), .ref (b 21), .ref (b 22), .ref (b 23), .ref (b 24), .int 0, .ref (b 26), .ref (b 27), .ref (b 28), .ref (b 29), .ref (b 30), .ref (b 31), .ref (b 32), .int 0, .int 0, .ref (b 35), .ref (b 36), .ref (b 37), .ref (b 38), .ref (b 39), .ref (b 40), .int 0, .ref (b 42), .ref (b 43), .ref (b 44), .int 0, .ref (b 46), .ref (b 47), .int 0, .ref (b 49)]))] [])) (va_Qi (fun (r : Int32) (_ : Unit) => r = 0) (fun _ _ => True) (va_A [] sz)) 0 0 (va_A [] sz) := by
  refine Met.ofW (cc := cX8_isHouse) (maxL := 2) (ret := (some .boolean)) (by decide) rfl ?_
  intro p e s m args below meth c s₁ B hml hv
  obtain ⟨rfl, hsz, hP, hK, hD0, hN⟩ := hv
  have hx := B.exec
  have hb := B.bytes
  have hr := B.returns
  have hts := atoms_spec (ws := zz_w yX8_isHouse cX8_isHouse 2 (some .boolean)) B.pre
  have hw : ∀ w ∈ zz_all, w.before _ s = true := fun w h => hts w (List.mem_cons_of_mem _ h)
  have hown : s.vm.findClass RX8 = some m.cls := findClass_of_methodNamed B.named
  have hlocks := B.notSynchronized
  subst hsz
  have hD := hD0
  generalize hAe : va_A [] s.heap.size = A
  have hA : ∀ q : Nat, s.heap.size ≤ q → A q := fun q h => by rw [← hAe]; exact Or.inr h
  have hS : va_S A s.heap s.heap [] := va_S.rf
  have hP : va_P (dC, dI) vwCl [(b 0, .inr (8, [.ref (b 1), .int 0, .int 0, .int 0, .int 0, .int 0, .int 0, .int 0, .int (-1), .int (-1), .ref (b 11), .ref (b 12), .ref (b 13), .int 0, .int 0, .ref (b 16), .ref (b 17), .ref (b 18), .ref (b 19), .ref (b 20), .ref (b 21), .ref (b 22), .ref (b 23), .ref (b 24), .int 0, .ref (b 26), .ref (b 27), .ref (b 28), .ref (b 29), .ref (b 30), .ref (b 31), .ref (b 32), .int 0, .int 0, .ref (b 35), .ref (b 36), .ref (b 37), .ref (b 38), .ref (b 39), .ref (b 40), .int 0, .ref (b 42), .ref (b 43), .ref (b 44), .int 0, .ref (b 46), .ref (b 47), .int 0, .ref (b 49)]))] s.heap := hP
  have hl := lv_entry ([.ref (b 0), .int p0]) (n := 2) (Nat.le_of_ble_eq_true rfl)
  rw [lg_entry_eq]
  generalize (lg_sl ([.ref (b 0), .int p0]) ++ List.replicate (2 - (lg_sl ([.ref (b 0), .int p0])).length) Slot.unset).toArray = ls at hl ⊢
  have hl : lv_has ls 2 [(0, .ref (b 0)), (1, .int p0)] := hl
  refine lv_iload_n hx hb dX8_isHouse_0 rfl (lv_at hl 1 rfl) ?_
  refine lv_i2l (v := Int32.toInt64 p0) hx hb dX8_isHouse_1 rfl ?_
  refine lv_lconst (v := Int32.toInt64 0) hx hb dX8_isHouse_2 (by decide) ?_
  refine lv_aload_n hx hb dX8_isHouse_3 rfl (lv_at hl 0 rfl) ?_
  refine va_get (D := (dC, dI)) (ci := 8) (v := .int 0) (C := RX8) (T := TX8) (N := 49) hx hb hw zz_inX8 hown hK hP 0 rfl rfl 14 (by decide) (hw _ tw_93) (fun _ h9 => h9) rfl dX8_isHouse_4 ?_
  refine lv_iconst (v := 1) hx hb dX8_isHouse_7 (by decide) ?_
  refine lv_isub hx hb dX8_isHouse_8 ?_
  refine zz_seti (-1) (by decide) ?_
  refine lv_i2l (v := Int32.toInt64 (-1)) hx hb dX8_isHouse_9 rfl ?_
  have hPc := hP.sub (ws' := []) [] rfl
  have hDc := hD.sub (ws' := []) [] (by decide) rfl
  have hKc := hK.sub (tys' := []) [] rfl
  have hFc := zz_free0 hS hA
  refine va_calli (va_runS (As := [.long (Int32.toInt64 p0), .long (Int32.toInt64 0), .long (Int32.toInt64 (-1))]) (rest := []) ⟨hx, hb, hml, hown, hw⟩ (k_in l dC dI p0 0 (-1) s.heap.size) ⟨callB_of 3 hw (zz_good tw_94) rfl rfl rfl (hw _ tw_95) (hw _ tw_96) (by decide +kernel) ⟨Nat.le_of_ble_eq_true rfl, Nat.le_of_ble_eq_true rfl⟩, (hw _ tw_97)⟩ ⟨zz_blind, zz_pre hPc hKc hDc hN⟩ rfl rfl hl.1 rfl (lv_room (Nat.le_of_ble_eq_true rfl)) dX8_isHouse_10 ⟨Nat.le_of_ble_eq_true rfl, Nat.le_of_ble_eq_true rfl⟩) hS (fun q _ h => hFc q h) hFc (fun r_1 u_1 t H1 locs ht hvm e_1 hB hz1 hk1 hS => ?_)
  try dsimp only at e_1
  have hP := zz_keep hP hk1
  clear hk1 hB ht hvm
  generalize H1 = H at hP hS ⊢
  have hP : va_P (dC, dI) vwCl [(b 0, .inr (8, [.ref (b 1), .int 0, .int 0, .int 0, .int 0, .int 0, .int 0, .int 0, .int (-1), .int (-1), .ref (b 11), .ref (b 12), .ref (b 13), .int 0, .int 0, .ref (b 16), .ref (b 17), .ref (b 18), .ref (b 19), .ref (b 20), .ref (b 21), .ref (b 22), .ref (b 23), .ref (b 24), .int 0, .ref (b 26), .ref (b 27), .ref (b 28), .ref (b 29), .ref (b 30), .ref (b 31), .ref (b 32), .int 0, .int 0, .ref (b 35), .ref (b 36), .ref (b 37), .ref (b 38), .ref (b 39), .ref (b 40), .int 0, .ref (b 42), .ref (b 43), .ref (b 44), .int 0, .ref (b 46), .ref (b 47), .int 0, .ref (b 49)]))] H := hP
  have hD : va_D (fun _ => True) [(b 0, .inr (8, [.ref (b 1), .int 0, .int 0, .int 0, .int 0, .int 0, .int 0, .int 0, .int (-1), .int (-1), .ref (b 11), .ref (b 12), .ref (b 13), .int 0, .int 0, .ref (b 16), .ref (b 17), .ref (b 18), .ref (b 19), .ref (b 20), .ref (b 21), .ref (b 22), .ref (b 23), .ref (b 24), .int 0, .ref (b 26), .ref (b 27), .ref (b 28), .ref (b 29), .ref (b 30), .ref (b 31), .ref (b 32), .int 0, .int 0, .ref (b 35), .ref (b 36), .ref (b 37), .ref (b 38), .ref (b 39), .ref (b 40), .int 0, .ref (b 42), .ref (b 43), .ref (b 44), .int 0, .ref (b 46), .ref (b 47), .int 0, .ref (b 49)]))] := hD
  refine zz_seti 0 (e_1.trans (zz_empty _)) ?_
  exact W.zret (v := 0) hx hb hr (rfl) (fun t ht hW => ⟨⟨0, (), rfl, rfl, trivial⟩, hS.F ht⟩) hS.2.2 dX8_isHouse_13

set_option maxHeartbeats 4000000 in
set_option maxRecDepth 100000 in
theorem m_isField (l : Launch) (dC : Nat → ClassId) (dI : Nat → Nat → Nat) (b : Nat → Nat) (p0 : Int32) (sz : Nat) : Met l yX8_isField (zz_w yX8_isField cX8_isField 2 (some .boolean)) ({ frames := 1, cells := 0, slots := 0, locals := 25 }) (va_Pc [.ref (b 0), .int p0] (zz_B (dC, dI) sz [(b 0, .inr (8, [.ref (b 1), .int 0, .int 0, .int 0, .int 0, .int 0, .int 0, .int 0, .int (-1), .int (-1), .ref (b 11), .ref (b 12), .ref (b 13), .int 0, .int 0, .ref (b 16), .ref (b 17), .ref (b 18), .ref (b 19), .ref (b 20), .ref (b 21), .ref (b 22), .ref (b 23), .ref (b 24), .int 0, .ref (b 26), .ref (b 27), .ref (b 28), .ref (b 29), .ref (b 30), .ref (b 31), .ref (b 32), .int 0, .int 0, .ref (b 35), .ref (b 36), .ref (b 37), .ref (b 38), .ref (b 39), .ref (b 40), .int 0, .ref (b 42), .ref (b 43), .ref (b 44), .int 0, .ref (b 46), .ref (b 47), .int 0, .ref (b 49)]))] [])) (va_Qi (fun (r : Int32) (_ : Unit) => r = 0) (fun _ _ => True) (va_A [] sz)) 0 0 (va_A [] sz) := by
  refine Met.ofW (cc := cX8_isField) (maxL := 2) (ret := (some .boolean)) (by decide) rfl ?_
  intro p e s m args below meth c s₁ B hml hv
  obtain ⟨rfl, hsz, hP, hK, hD0, hN⟩ := hv
  have hx := B.exec
  have hb := B.bytes
  have hr := B.returns
  have hts := atoms_spec (ws := zz_w yX8_isField cX8_isField 2 (some .boolean)) B.pre
  have hw : ∀ w ∈ zz_all, w.before _ s = true := fun w h => hts w (List.mem_cons_of_mem _ h)
  have hown : s.vm.findClass RX8 = some m.cls := findClass_of_methodNamed B.named
  have hlocks := B.notSynchronized
  subst hsz
  have hD := hD0
  generalize hAe : va_A [] s.heap.size = A
  have hA : ∀ q : Nat, s.heap.size ≤ q → A q := fun q h => by rw [← hAe]; exact Or.inr h
  have hS : va_S A s.heap s.heap [] := va_S.rf
  have hP : va_P (dC, dI) vwCl [(b 0, .inr (8, [.ref (b 1), .int 0, .int 0, .int 0, .int 0, .int 0, .int 0, .int 0, .int (-1), .int (-1), .ref (b 11), .ref (b 12), .ref (b 13), .int 0, .int 0, .ref (b 16), .ref (b 17), .ref (b 18), .ref (b 19), .ref (b 20), .ref (b 21), .ref (b 22), .ref (b 23), .ref (b 24), .int 0, .ref (b 26), .ref (b 27), .ref (b 28), .ref (b 29), .ref (b 30), .ref (b 31), .ref (b 32), .int 0, .int 0, .ref (b 35), .ref (b 36), .ref (b 37), .ref (b 38), .ref (b 39), .ref (b 40), .int 0, .ref (b 42), .ref (b 43), .ref (b 44), .int 0, .ref (b 46), .ref (b 47), .int 0, .ref (b 49)]))] s.heap := hP
  have hl := lv_entry ([.ref (b 0), .int p0]) (n := 2) (Nat.le_of_ble_eq_true rfl)
  rw [lg_entry_eq]
  generalize (lg_sl ([.ref (b 0), .int p0]) ++ List.replicate (2 - (lg_sl ([.ref (b 0), .int p0])).length) Slot.unset).toArray = ls at hl ⊢
  have hl : lv_has ls 2 [(0, .ref (b 0)), (1, .int p0)] := hl
  refine lv_iload_n hx hb dX8_isField_0 rfl (lv_at hl 1 rfl) ?_
  refine lv_i2l (v := Int32.toInt64 p0) hx hb dX8_isField_1 rfl ?_
  refine lv_lconst (v := Int32.toInt64 0) hx hb dX8_isField_2 (by decide) ?_
  refine lv_aload_n hx hb dX8_isField_3 rfl (lv_at hl 0 rfl) ?_
  refine va_get (D := (dC, dI)) (ci := 8) (v := .int 0) (C := RX8) (T := TX8) (N := 49) hx hb hw zz_inX8 hown hK hP 0 rfl rfl 24 (by decide) (hw _ tw_98) (fun _ h9 => h9) rfl dX8_isField_4 ?_
  refine lv_iconst (v := 1) hx hb dX8_isField_7 (by decide) ?_
  refine lv_isub hx hb dX8_isField_8 ?_
  refine zz_seti (-1) (by decide) ?_
  refine lv_i2l (v := Int32.toInt64 (-1)) hx hb dX8_isField_9 rfl ?_
  have hPc := hP.sub (ws' := []) [] rfl
  have hDc := hD.sub (ws' := []) [] (by decide) rfl
  have hKc := hK.sub (tys' := []) [] rfl
  have hFc := zz_free0 hS hA
  refine va_calli (va_runS (As := [.long (Int32.toInt64 p0), .long (Int32.toInt64 0), .long (Int32.toInt64 (-1))]) (rest := []) ⟨hx, hb, hml, hown, hw⟩ (k_in l dC dI p0 0 (-1) s.heap.size) ⟨callB_of 3 hw (zz_good tw_94) rfl rfl rfl (hw _ tw_95) (hw _ tw_96) (by decide +kernel) ⟨Nat.le_of_ble_eq_true rfl, Nat.le_of_ble_eq_true rfl⟩, (hw _ tw_97)⟩ ⟨zz_blind, zz_pre hPc hKc hDc hN⟩ rfl rfl hl.1 rfl (lv_room (Nat.le_of_ble_eq_true rfl)) dX8_isField_10 ⟨Nat.le_of_ble_eq_true rfl, Nat.le_of_ble_eq_true rfl⟩) hS (fun q _ h => hFc q h) hFc (fun r_1 u_1 t H1 locs ht hvm e_1 hB hz1 hk1 hS => ?_)
  try dsimp only at e_1
  have hP := zz_keep hP hk1
  clear hk1 hB ht hvm
  generalize H1 = H at hP hS ⊢
  have hP : va_P (dC, dI) vwCl [(b 0, .inr (8, [.ref (b 1), .int 0, .int 0, .int 0, .int 0, .int 0, .int 0, .int 0, .int (-1), .int (-1), .ref (b 11), .ref (b 12), .ref (b 13), .int 0, .int 0, .ref (b 16), .ref (b 17), .ref (b 18), .ref (b 19), .ref (b 20), .ref (b 21), .ref (b 22), .ref (b 23), .ref (b 24), .int 0, .ref (b 26), .ref (b 27), .ref (b 28), .ref (b 29), .ref (b 30), .ref (b 31), .ref (b 32), .int 0, .int 0, .ref (b 35), .ref (b 36), .ref (b 37), .ref (b 38), .ref (b 39), .ref (b 40), .int 0, .ref (b 42), .ref (b 43), .ref (b 44), .int 0, .ref (b 46), .ref (b 47), .int 0, .ref (b 49)]))] H := hP
  have hD : va_D (fun _ => True) [(b 0, .inr (8, [.ref (b 1), .int 0, .int 0, .int 0, .int 0, .int 0, .int 0, .int 0, .int (-1), .int (-1), .ref (b 11), .ref (b 12), .ref (b 13), .int 0, .int 0, .ref (b 16), .ref (b 17), .ref (b 18), .ref (b 19), .ref (b 20), .ref (b 21), .ref (b 22), .ref (b 23), .ref (b 24), .int 0, .ref (b 26), .ref (b 27), .ref (b 28), .ref (b 29), .ref (b 30), .ref (b 31), .ref (b 32), .int 0, .int 0, .ref (b 35), .ref (b 36), .ref (b 37), .ref (b 38), .ref (b 39), .ref (b 40), .int 0, .ref (b 42), .ref (b 43), .ref (b 44), .int 0, .ref (b 46), .ref (b 47), .int 0, .ref (b 49)]))] := hD
  refine zz_seti 0 (e_1.trans (zz_empty _)) ?_
  exact W.zret (v := 0) hx hb hr (rfl) (fun t ht hW => ⟨⟨0, (), rfl, rfl, trivial⟩, hS.F ht⟩) hS.2.2 dX8_isField_13

set_option maxHeartbeats 4000000 in
set_option maxRecDepth 100000 in
theorem m_canWork (l : Launch) (dC : Nat → ClassId) (dI : Nat → Nat → Nat) (b : Nat → Nat) (p0 : Int32) (p1 : Int32) (sz : Nat) : Met l yX8_canWork (zz_w yX8_canWork cX8_canWork 3 (some .boolean)) ({ frames := 2, cells := 0, slots := 0, locals := 46 }) (va_Pc [.ref (b 0), .int p0, .int p1] (zz_B (dC, dI) sz [(b 0, .inr (8, [.ref (b 1), .int 0, .int 0, .int 0, .int 0, .int 0, .int 0, .int 0, .int (-1), .int (-1), .ref (b 11), .ref (b 12), .ref (b 13), .int 0, .int 0, .ref (b 16), .ref (b 17), .ref (b 18), .ref (b 19), .ref (b 20), .ref (b 21), .ref (b 22), .ref (b 23), .ref (b 24), .int 0, .ref (b 26), .ref (b 27), .ref (b 28), .ref (b 29), .ref (b 30), .ref (b 31), .ref (b 32), .int 0, .int 0, .ref (b 35), .ref (b 36), .ref (b 37), .ref (b 38), .ref (b 39), .ref (b 40), .int 0, .ref (b 42), .ref (b 43), .ref (b 44), .int 0, .ref (b 46), .ref (b 47), .int 0, .ref (b 49)]))] [])) (va_Qi (fun (r : Int32) (_ : Unit) => r = 0) (fun _ _ => True) (va_A [] sz)) 0 0 (va_A [] sz) := by
  refine Met.ofW (cc := cX8_canWork) (maxL := 3) (ret := (some .boolean)) (by decide) rfl ?_
  intro p e s m args below meth c s₁ B hml hv
  obtain ⟨rfl, hsz, hP, hK, hD0, hN⟩ := hv
  have hx := B.exec
  have hb := B.bytes
  have hr := B.returns
  have hts := atoms_spec (ws := zz_w yX8_canWork cX8_canWork 3 (some .boolean)) B.pre
  have hw : ∀ w ∈ zz_all, w.before _ s = true := fun w h => hts w (List.mem_cons_of_mem _ h)
  have hown : s.vm.findClass RX8 = some m.cls := findClass_of_methodNamed B.named
  have hlocks := B.notSynchronized
  subst hsz
  have hD := hD0
  generalize hAe : va_A [] s.heap.size = A
  have hA : ∀ q : Nat, s.heap.size ≤ q → A q := fun q h => by rw [← hAe]; exact Or.inr h
  have hS : va_S A s.heap s.heap [] := va_S.rf
  have hP : va_P (dC, dI) vwCl [(b 0, .inr (8, [.ref (b 1), .int 0, .int 0, .int 0, .int 0, .int 0, .int 0, .int 0, .int (-1), .int (-1), .ref (b 11), .ref (b 12), .ref (b 13), .int 0, .int 0, .ref (b 16), .ref (b 17), .ref (b 18), .ref (b 19), .ref (b 20), .ref (b 21), .ref (b 22), .ref (b 23), .ref (b 24), .int 0, .ref (b 26), .ref (b 27), .ref (b 28), .ref (b 29), .ref (b 30), .ref (b 31), .ref (b 32), .int 0, .int 0, .ref (b 35), .ref (b 36), .ref (b 37), .ref (b 38), .ref (b 39), .ref (b 40), .int 0, .ref (b 42), .ref (b 43), .ref (b 44), .int 0, .ref (b 46), .ref (b 47), .int 0, .ref (b 49)]))] s.heap := hP
  have hl := lv_entry ([.ref (b 0), .int p0, .int p1]) (n := 3) (Nat.le_of_ble_eq_true rfl)
  rw [lg_entry_eq]
  generalize (lg_sl ([.ref (b 0), .int p0, .int p1]) ++ List.replicate (3 - (lg_sl ([.ref (b 0), .int p0, .int p1])).length) Slot.unset).toArray = ls at hl ⊢
  have hl : lv_has ls 3 [(0, .ref (b 0)), (1, .int p0), (2, .int p1)] := hl
  refine lv_aload_n hx hb dX8_canWork_0 rfl (lv_at hl 0 rfl) ?_
  refine lv_iload_n hx hb dX8_canWork_1 rfl (lv_at hl 1 rfl) ?_
  have hPc := hP.sub (ws' := [(b 0, .inr (8, [.ref (b 1), .int 0, .int 0, .int 0, .int 0, .int 0, .int 0, .int 0, .int (-1), .int (-1), .ref (b 11), .ref (b 12), .ref (b 13), .int 0, .int 0, .ref (b 16), .ref (b 17), .ref (b 18), .ref (b 19), .ref (b 20), .ref (b 21), .ref (b 22), .ref (b 23), .ref (b 24), .int 0, .ref (b 26), .ref (b 27), .ref (b 28), .ref (b 29), .ref (b 30), .ref (b 31), .ref (b 32), .int 0, .int 0, .ref (b 35), .ref (b 36), .ref (b 37), .ref (b 38), .ref (b 39), .ref (b 40), .int 0, .ref (b 42), .ref (b 43), .ref (b 44), .int 0, .ref (b 46), .ref (b 47), .int 0, .ref (b 49)]))]) [0] rfl
  have hDc := hD.sub (ws' := [(b 0, .inr (8, [.ref (b 1), .int 0, .int 0, .int 0, .int 0, .int 0, .int 0, .int 0, .int (-1), .int (-1), .ref (b 11), .ref (b 12), .ref (b 13), .int 0, .int 0, .ref (b 16), .ref (b 17), .ref (b 18), .ref (b 19), .ref (b 20), .ref (b 21), .ref (b 22), .ref (b 23), .ref (b 24), .int 0, .ref (b 26), .ref (b 27), .ref (b 28), .ref (b 29), .ref (b 30), .ref (b 31), .ref (b 32), .int 0, .int 0, .ref (b 35), .ref (b 36), .ref (b 37), .ref (b 38), .ref (b 39), .ref (b 40), .int 0, .ref (b 42), .ref (b 43), .ref (b 44), .int 0, .ref (b 46), .ref (b 47), .int 0, .ref (b 49)]))]) [0] (by decide) rfl
  have hKc := hK.sub (tys' := []) [] rfl
  have hFc := zz_free0 hS hA
  refine va_calli (va_runV (As := [.int p0]) (rest := []) ⟨hx, hb, hml, hown, hw⟩ (m_isField l dC dI b p0 s.heap.size) ⟨callB_of 1 hw (zz_good tw_99) rfl rfl rfl (hw _ tw_95) (hw _ tw_100) (by decide +kernel) ⟨Nat.le_of_ble_eq_true rfl, Nat.le_of_ble_eq_true rfl⟩, (hw _ tw_101), (hw _ tw_102)⟩ ⟨zz_blind, va_recv hKc hPc (ci := 8) (q0 := 0) rfl rfl, zz_pre hPc hKc hDc hN⟩ rfl rfl hl.1 rfl (lv_room (Nat.le_of_ble_eq_true rfl)) dX8_canWork_2 ⟨Nat.le_of_ble_eq_true rfl, Nat.le_of_ble_eq_true rfl⟩) hS (fun q _ h => hFc q h) hFc (fun r_1 u_1 t H1 locs ht hvm e_1 hB hz1 hk1 hS => ?_)
  try dsimp only at e_1
  have hP := zz_keep hP hk1
  clear hk1 hB ht hvm
  generalize H1 = H at hP hS ⊢
  have hP : va_P (dC, dI) vwCl [(b 0, .inr (8, [.ref (b 1), .int 0, .int 0, .int 0, .int 0, .int 0, .int 0, .int 0, .int (-1), .int (-1), .ref (b 11), .ref (b 12), .ref (b 13), .int 0, .int 0, .ref (b 16), .ref (b 17), .ref (b 18), .ref (b 19), .ref (b 20), .ref (b 21), .ref (b 22), .ref (b 23), .ref (b 24), .int 0, .ref (b 26), .ref (b 27), .ref (b 28), .ref (b 29), .ref (b 30), .ref (b 31), .ref (b 32), .int 0, .int 0, .ref (b 35), .ref (b 36), .ref (b 37), .ref (b 38), .ref (b 39), .ref (b 40), .int 0, .ref (b 42), .ref (b 43), .ref (b 44), .int 0, .ref (b 46), .ref (b 47), .int 0, .ref (b 49)]))] H := hP
  have hD : va_D (fun _ => True) [(b 0, .inr (8, [.ref (b 1), .int 0, .int 0, .int 0, .int 0, .int 0, .int 0, .int 0, .int (-1), .int (-1), .ref (b 11), .ref (b 12), .ref (b 13), .int 0, .int 0, .ref (b 16), .ref (b 17), .ref (b 18), .ref (b 19), .ref (b 20), .ref (b 21), .ref (b 22), .ref (b 23), .ref (b 24), .int 0, .ref (b 26), .ref (b 27), .ref (b 28), .ref (b 29), .ref (b 30), .ref (b 31), .ref (b 32), .int 0, .int 0, .ref (b 35), .ref (b 36), .ref (b 37), .ref (b 38), .ref (b 39), .ref (b 40), .int 0, .ref (b 42), .ref (b 43), .ref (b 44), .int 0, .ref (b 46), .ref (b 47), .int 0, .ref (b 49)]))] := hD
  refine zz_seti 0 e_1 ?_
  refine lv_if_eq (tgt := 40) hx hb dX8_canWork_5 (by decide) (fun _ => ?_) (fun c_9 => absurd c_9 (by decide))
  refine lv_iconst (v := 0) hx hb dX8_canWork_40 (by decide) ?_
  exact W.zret (v := 0) hx hb hr (rfl) (fun t ht hW => ⟨⟨0, (), rfl, rfl, trivial⟩, hS.F ht⟩) hS.2.2 dX8_canWork_41

set_option maxHeartbeats 4000000 in
set_option maxRecDepth 100000 in
theorem m_house (l : Launch) (dC : Nat → ClassId) (dI : Nat → Nat → Nat) (b : Nat → Nat) (cI : ClassId) (cZ : ClassId) (p0 : Int32) (p1 : Int32) (sz : Nat) : Met l yX8_house (zz_w yX8_house cX8_house 3 (some .int)) ({ frames := 1, cells := 0, slots := 0, locals := 25 }) (va_Pc [.ref (b 0), .int p0, .int p1] (zz_B (dC, dI) sz [(b 0, .inr (8, [.ref (b 1), .int 0, .int 0, .int 0, .int 0, .int 0, .int 0, .int 0, .int (-1), .int (-1), .ref (b 11), .ref (b 12), .ref (b 13), .int 0, .int 0, .ref (b 16), .ref (b 17), .ref (b 18), .ref (b 19), .ref (b 20), .ref (b 21), .ref (b 22), .ref (b 23), .ref (b 24), .int 0, .ref (b 26), .ref (b 27), .ref (b 28), .ref (b 29), .ref (b 30), .ref (b 31), .ref (b 32), .int 0, .int 0, .ref (b 35), .ref (b 36), .ref (b 37), .ref (b 38), .ref (b 39), .ref (b 40), .int 0, .ref (b 42), .ref (b 43), .ref (b 44), .int 0, .ref (b 46), .ref (b 47), .int 0, .ref (b 49)])), (b 16, .inl (cI, 8, .inl (fun _ => (0 : Int32)))), (b 17, .inl (cZ, 8, .inl (fun _ => (0 : Int32))))] [(cI, .int), (cZ, .boolean)])) (va_Qi (fun (r : Int32) (_ : Unit) => r = an_house p0) (fun _ _ => True) (va_A [(b 0, .inr (8, [.ref (b 1), .int 0, .int 0, .int 0, .int 0, .int 0, .int 0, .int 0, .int (-1), .int (-1), .ref (b 11), .ref (b 12), .ref (b 13), .int 0, .int 0, .ref (b 16), .ref (b 17), .ref (b 18), .ref (b 19), .ref (b 20), .ref (b 21), .ref (b 22), .ref (b 23), .ref (b 24), .int 0, .ref (b 26), .ref (b 27), .ref (b 28), .ref (b 29), .ref (b 30), .ref (b 31), .ref (b 32), .int 0, .int 0, .ref (b 35), .ref (b 36), .ref (b 37), .ref (b 38), .ref (b 39), .ref (b 40), .int 0, .ref (b 42), .ref (b 43), .ref (b 44), .int 0, .ref (b 46), .ref (b 47), .int 0, .ref (b 49)])), (b 16, .inl (cI, 8, .inl (fun _ => (0 : Int32)))), (b 17, .inl (cZ, 8, .inl (fun _ => (0 : Int32))))] sz)) 0 0 (va_A [(b 0, .inr (8, [.ref (b 1), .int 0, .int 0, .int 0, .int 0, .int 0, .int 0, .int 0, .int (-1), .int (-1), .ref (b 11), .ref (b 12), .ref (b 13), .int 0, .int 0, .ref (b 16), .ref (b 17), .ref (b 18), .ref (b 19), .ref (b 20), .ref (b 21), .ref (b 22), .ref (b 23), .ref (b 24), .int 0, .ref (b 26), .ref (b 27), .ref (b 28), .ref (b 29), .ref (b 30), .ref (b 31), .ref (b 32), .int 0, .int 0, .ref (b 35), .ref (b 36), .ref (b 37), .ref (b 38), .ref (b 39), .ref (b 40), .int 0, .ref (b 42), .ref (b 43), .ref (b 44), .int 0, .ref (b 46), .ref (b 47), .int 0, .ref (b 49)])), (b 16, .inl (cI, 8, .inl (fun _ => (0 : Int32)))), (b 17, .inl (cZ, 8, .inl (fun _ => (0 : Int32))))] sz) := by
  refine Met.ofW (cc := cX8_house) (maxL := 3) (ret := (some .int)) (by decide) rfl ?_
  intro p e s m args below meth c s₁ B hml hv
  obtain ⟨rfl, hsz, hP, hK, hD0, hN⟩ := hv
  have hx := B.exec
  have hb := B.bytes
  have hr := B.returns
  have hts := atoms_spec (ws := zz_w yX8_house cX8_house 3 (some .int)) B.pre
  have hw : ∀ w ∈ zz_all, w.before _ s = true := fun w h => hts w (List.mem_cons_of_mem _ h)
  have hown : s.vm.findClass RX8 = some m.cls := findClass_of_methodNamed B.named
  have hlocks := B.notSynchronized
  subst hsz
  have hD := hD0.self (sz := s.heap.size)
  generalize hAe : va_A [(b 0, .inr (8, [.ref (b 1), .int 0, .int 0, .int 0, .int 0, .int 0, .int 0, .int 0, .int (-1), .int (-1), .ref (b 11), .ref (b 12), .ref (b 13), .int 0, .int 0, .ref (b 16), .ref (b 17), .ref (b 18), .ref (b 19), .ref (b 20), .ref (b 21), .ref (b 22), .ref (b 23), .ref (b 24), .int 0, .ref (b 26), .ref (b 27), .ref (b 28), .ref (b 29), .ref (b 30), .ref (b 31), .ref (b 32), .int 0, .int 0, .ref (b 35), .ref (b 36), .ref (b 37), .ref (b 38), .ref (b 39), .ref (b 40), .int 0, .ref (b 42), .ref (b 43), .ref (b 44), .int 0, .ref (b 46), .ref (b 47), .int 0, .ref (b 49)])), (b 16, .inl (cI, 8, .inl (fun _ => (0 : Int32)))), (b 17, .inl (cZ, 8, .inl (fun _ => (0 : Int32))))] s.heap.size = A at hD ⊢
  have hA : ∀ q : Nat, s.heap.size ≤ q → A q := fun q h => by rw [← hAe]; exact Or.inr h
  have hS : va_S A s.heap s.heap [] := va_S.rf
  have hP : va_P (dC, dI) vwCl [(b 0, .inr (8, [.ref (b 1), .int 0, .int 0, .int 0, .int 0, .int 0, .int 0, .int 0, .int (-1), .int (-1), .ref (b 11), .ref (b 12), .ref (b 13), .int 0, .int 0, .ref (b 16), .ref (b 17), .ref (b 18), .ref (b 19), .ref (b 20), .ref (b 21), .ref (b 22), .ref (b 23), .ref (b 24), .int 0, .ref (b 26), .ref (b 27), .ref (b 28), .ref (b 29), .ref (b 30), .ref (b 31), .ref (b 32), .int 0, .int 0, .ref (b 35), .ref (b 36), .ref (b 37), .ref (b 38), .ref (b 39), .ref (b 40), .int 0, .ref (b 42), .ref (b 43), .ref (b 44), .int 0, .ref (b 46), .ref (b 47), .int 0, .ref (b 49)])), (b 16, .inl (cI, 8, .inl (fun _ => (0 : Int32)))), (b 17, .inl (cZ, 8, .inl (fun _ => (0 : Int32))))] s.heap := hP
  have hl := lv_entry ([.ref (b 0), .int p0, .int p1]) (n := 3) (Nat.le_of_ble_eq_true rfl)
  rw [lg_entry_eq]
  generalize (lg_sl ([.ref (b 0), .int p0, .int p1]) ++ List.replicate (3 - (lg_sl ([.ref (b 0), .int p0, .int p1])).length) Slot.unset).toArray = ls at hl ⊢
  have hl : lv_has ls 3 [(0, .ref (b 0)), (1, .int p0), (2, .int p1)] := hl
  refine lv_iload_n hx hb dX8_house_0 rfl (lv_at hl 1 rfl) ?_
  refine lv_i2l (v := Int32.toInt64 p0) hx hb dX8_house_1 rfl ?_
  refine lv_lconst (v := Int32.toInt64 1) hx hb dX8_house_2 (by decide) ?_
  refine lv_ldc2 (v := 9) hx hb hown (hw _ tw_103) dX8_house_3 ?_
  refine zz_setl (Int32.toInt64 9) (by decide) ?_
  have hPc := hP.sub (ws' := []) [] rfl
  have hDc := hD.sub (ws' := []) [] (by decide) rfl
  have hKc := hK.sub (tys' := []) [] rfl
  have hFc := zz_free0 hS hA
  refine va_calli (va_runS (As := [.long (Int32.toInt64 p0), .long (Int32.toInt64 1), .long (Int32.toInt64 9)]) (rest := []) ⟨hx, hb, hml, hown, hw⟩ (k_in l dC dI p0 1 9 s.heap.size) ⟨callB_of 3 hw (zz_good tw_94) rfl rfl rfl (hw _ tw_95) (hw _ tw_96) (by decide +kernel) ⟨Nat.le_of_ble_eq_true rfl, Nat.le_of_ble_eq_true rfl⟩, (hw _ tw_97)⟩ ⟨zz_blind, zz_pre hPc hKc hDc hN⟩ rfl rfl hl.1 rfl (lv_room (Nat.le_of_ble_eq_true rfl)) dX8_house_6 ⟨Nat.le_of_ble_eq_true rfl, Nat.le_of_ble_eq_true rfl⟩) hS (fun q _ h => hFc q h) hFc (fun r_1 u_1 t H1 locs ht hvm e_1 hB hz1 hk1 hS => ?_)
  try dsimp only at e_1
  have hP := zz_keep hP hk1
  clear hk1 hB ht hvm
  generalize H1 = H at hP hS ⊢
  have hP : va_P (dC, dI) vwCl [(b 0, .inr (8, [.ref (b 1), .int 0, .int 0, .int 0, .int 0, .int 0, .int 0, .int 0, .int (-1), .int (-1), .ref (b 11), .ref (b 12), .ref (b 13), .int 0, .int 0, .ref (b 16), .ref (b 17), .ref (b 18), .ref (b 19), .ref (b 20), .ref (b 21), .ref (b 22), .ref (b 23), .ref (b 24), .int 0, .ref (b 26), .ref (b 27), .ref (b 28), .ref (b 29), .ref (b 30), .ref (b 31), .ref (b 32), .int 0, .int 0, .ref (b 35), .ref (b 36), .ref (b 37), .ref (b 38), .ref (b 39), .ref (b 40), .int 0, .ref (b 42), .ref (b 43), .ref (b 44), .int 0, .ref (b 46), .ref (b 47), .int 0, .ref (b 49)])), (b 16, .inl (cI, 8, .inl (fun _ => (0 : Int32)))), (b 17, .inl (cZ, 8, .inl (fun _ => (0 : Int32))))] H := hP
  have hD : va_D A [(b 0, .inr (8, [.ref (b 1), .int 0, .int 0, .int 0, .int 0, .int 0, .int 0, .int 0, .int (-1), .int (-1), .ref (b 11), .ref (b 12), .ref (b 13), .int 0, .int 0, .ref (b 16), .ref (b 17), .ref (b 18), .ref (b 19), .ref (b 20), .ref (b 21), .ref (b 22), .ref (b 23), .ref (b 24), .int 0, .ref (b 26), .ref (b 27), .ref (b 28), .ref (b 29), .ref (b 30), .ref (b 31), .ref (b 32), .int 0, .int 0, .ref (b 35), .ref (b 36), .ref (b 37), .ref (b 38), .ref (b 39), .ref (b 40), .int 0, .ref (b 42), .ref (b 43), .ref (b 44), .int 0, .ref (b 46), .ref (b 47), .int 0, .ref (b 49)])), (b 16, .inl (cI, 8, .inl (fun _ => (0 : Int32)))), (b 17, .inl (cZ, 8, .inl (fun _ => (0 : Int32))))] := hD
  refine lv_if_eq (tgt := 21) hx hb dX8_house_9 (by decide) (fun c_2 => ?_) (fun c_2 => ?_)
  · refine lv_iconst (v := (-1)) hx hb dX8_house_21 (by decide) ?_
    exact W.iret (v := (-1)) hx hb hr (fun t ht hW => ⟨⟨(-1), (), rfl, (by have zc_2 := c_2; rw [e_1, zz_in0, Int32.le_iff_toInt_le, Int32.le_iff_toInt_le] at zc_2; (try rw [show (1 : Int32).toInt = 1 from by decide] at zc_2); (try rw [show (9 : Int32).toInt = 9 from by decide] at zc_2); unfold an_house; first | exact (if_pos (by omega)).symm | exact (if_neg (by omega)).symm), trivial⟩, hS.F ht⟩) hS.2.2 dX8_house_22
  · refine lv_aload_n hx hb dX8_house_12 rfl (lv_at hl 0 rfl) ?_
    refine va_get (D := (dC, dI)) (ci := 8) (v := .int 0) (C := RX8) (T := TX8) (N := 49) hx hb hw zz_inX8 hown hK hP 0 rfl rfl 14 (by decide) (hw _ tw_93) (fun _ h9 => h9) rfl dX8_house_13 ?_
    refine lv_bipush (v := 8) hx hb dX8_house_16 (by decide) ?_
    refine lv_icmp_ne (tgt := 23) hx hb dX8_house_18 (by decide) (fun _ => ?_) (fun c_9 => absurd c_9 (by decide))
    refine lv_aload_n hx hb dX8_house_23 rfl (lv_at hl 0 rfl) ?_
    refine va_get (D := (dC, dI)) (ci := 8) (v := .ref (b 16)) (C := RX8) (T := TX8) (N := 49) hx hb hw zz_inX8 hown hK hP 0 rfl rfl 15 (by decide) (hw _ tw_104) (fun _ h9 => h9) rfl dX8_house_24 ?_
    refine lv_aload_n hx hb dX8_house_27 rfl (lv_at hl 0 rfl) ?_
    refine va_get (D := (dC, dI)) (ci := 8) (v := .int 0) (C := RX8) (T := TX8) (N := 49) hx hb hw zz_inX8 hown hK hP 0 rfl rfl 14 (by decide) (hw _ tw_93) (fun _ h9 => h9) rfl dX8_house_28 ?_
    refine lv_iload_n hx hb dX8_house_31 rfl (lv_at hl 1 rfl) ?_
    refine va_iast hx hb hK hP hD hS 1 0 rfl rfl (zz_vin (by decide)) dX8_house_32 (fun H locs hP hD hS => ?_)
    have hP : va_P (dC, dI) vwCl [(b 0, .inr (8, [.ref (b 1), .int 0, .int 0, .int 0, .int 0, .int 0, .int 0, .int 0, .int (-1), .int (-1), .ref (b 11), .ref (b 12), .ref (b 13), .int 0, .int 0, .ref (b 16), .ref (b 17), .ref (b 18), .ref (b 19), .ref (b 20), .ref (b 21), .ref (b 22), .ref (b 23), .ref (b 24), .int 0, .ref (b 26), .ref (b 27), .ref (b 28), .ref (b 29), .ref (b 30), .ref (b 31), .ref (b 32), .int 0, .int 0, .ref (b 35), .ref (b 36), .ref (b 37), .ref (b 38), .ref (b 39), .ref (b 40), .int 0, .ref (b 42), .ref (b 43), .ref (b 44), .int 0, .ref (b 46), .ref (b 47), .int 0, .ref (b 49)])), (b 16, .inl (cI, 8, .inl (upd (fun _ => (0 : Int32)) (Int32.toNatClampNeg 0) p0))), (b 17, .inl (cZ, 8, .inl (fun _ => (0 : Int32))))] H := hP
    have hD : va_D A [(b 0, .inr (8, [.ref (b 1), .int 0, .int 0, .int 0, .int 0, .int 0, .int 0, .int 0, .int (-1), .int (-1), .ref (b 11), .ref (b 12), .ref (b 13), .int 0, .int 0, .ref (b 16), .ref (b 17), .ref (b 18), .ref (b 19), .ref (b 20), .ref (b 21), .ref (b 22), .ref (b 23), .ref (b 24), .int 0, .ref (b 26), .ref (b 27), .ref (b 28), .ref (b 29), .ref (b 30), .ref (b 31), .ref (b 32), .int 0, .int 0, .ref (b 35), .ref (b 36), .ref (b 37), .ref (b 38), .ref (b 39), .ref (b 40), .int 0, .ref (b 42), .ref (b 43), .ref (b 44), .int 0, .ref (b 46), .ref (b 47), .int 0, .ref (b 49)])), (b 16, .inl (cI, 8, .inl (upd (fun _ => (0 : Int32)) (Int32.toNatClampNeg 0) p0))), (b 17, .inl (cZ, 8, .inl (fun _ => (0 : Int32))))] := hD
    refine lv_aload_n hx hb dX8_house_33 rfl (lv_at hl 0 rfl) ?_
    refine va_get (D := (dC, dI)) (ci := 8) (v := .ref (b 17)) (C := RX8) (T := TX8) (N := 49) hx hb hw zz_inX8 hown hK hP 0 rfl rfl 16 (by decide) (hw _ tw_105) (fun _ h9 => h9) rfl dX8_house_34 ?_
    refine lv_aload_n hx hb dX8_house_37 rfl (lv_at hl 0 rfl) ?_
    refine va_get (D := (dC, dI)) (ci := 8) (v := .int 0) (C := RX8) (T := TX8) (N := 49) hx hb hw zz_inX8 hown hK hP 0 rfl rfl 14 (by decide) (hw _ tw_93) (fun _ h9 => h9) rfl dX8_house_38 ?_
    refine lv_iload_n hx hb dX8_house_41 rfl (lv_at hl 2 rfl) ?_
    refine va_zast hx hb hK hP hD hS 2 1 rfl rfl (zz_vin (by decide)) dX8_house_42 (fun H locs hP hD hS => ?_)
    have hP : va_P (dC, dI) vwCl [(b 0, .inr (8, [.ref (b 1), .int 0, .int 0, .int 0, .int 0, .int 0, .int 0, .int 0, .int (-1), .int (-1), .ref (b 11), .ref (b 12), .ref (b 13), .int 0, .int 0, .ref (b 16), .ref (b 17), .ref (b 18), .ref (b 19), .ref (b 20), .ref (b 21), .ref (b 22), .ref (b 23), .ref (b 24), .int 0, .ref (b 26), .ref (b 27), .ref (b 28), .ref (b 29), .ref (b 30), .ref (b 31), .ref (b 32), .int 0, .int 0, .ref (b 35), .ref (b 36), .ref (b 37), .ref (b 38), .ref (b 39), .ref (b 40), .int 0, .ref (b 42), .ref (b 43), .ref (b 44), .int 0, .ref (b 46), .ref (b 47), .int 0, .ref (b 49)])), (b 16, .inl (cI, 8, .inl (upd (fun _ => (0 : Int32)) (Int32.toNatClampNeg 0) p0))), (b 17, .inl (cZ, 8, .inl (upd (fun _ => (0 : Int32)) (Int32.toNatClampNeg 0) (vp_nar .boolean p1))))] H := hP
    have hD : va_D A [(b 0, .inr (8, [.ref (b 1), .int 0, .int 0, .int 0, .int 0, .int 0, .int 0, .int 0, .int (-1), .int (-1), .ref (b 11), .ref (b 12), .ref (b 13), .int 0, .int 0, .ref (b 16), .ref (b 17), .ref (b 18), .ref (b 19), .ref (b 20), .ref (b 21), .ref (b 22), .ref (b 23), .ref (b 24), .int 0, .ref (b 26), .ref (b 27), .ref (b 28), .ref (b 29), .ref (b 30), .ref (b 31), .ref (b 32), .int 0, .int 0, .ref (b 35), .ref (b 36), .ref (b 37), .ref (b 38), .ref (b 39), .ref (b 40), .int 0, .ref (b 42), .ref (b 43), .ref (b 44), .int 0, .ref (b 46), .ref (b 47), .int 0, .ref (b 49)])), (b 16, .inl (cI, 8, .inl (upd (fun _ => (0 : Int32)) (Int32.toNatClampNeg 0) p0))), (b 17, .inl (cZ, 8, .inl (upd (fun _ => (0 : Int32)) (Int32.toNatClampNeg 0) (vp_nar .boolean p1))))] := hD
    refine lv_aload_n hx hb dX8_house_43 rfl (lv_at hl 0 rfl) ?_
    refine lv_dup hx hb dX8_house_44 rfl ?_
    refine va_get (D := (dC, dI)) (ci := 8) (v := .int 0) (C := RX8) (T := TX8) (N := 49) hx hb hw zz_inX8 hown hK hP 0 rfl rfl 14 (by decide) (hw _ tw_93) (fun _ h9 => h9) rfl dX8_house_45 ?_
    refine lv_iconst (v := 1) hx hb dX8_house_48 (by decide) ?_
    refine lv_iadd hx hb dX8_house_49 ?_
    refine zz_seti 1 (by decide) ?_
    refine va_put (D := (dC, dI)) (ci := 8) (v := .int 1) (ty := .int) (C := RX8) (T := TX8) (N := 49) hx hb hw zz_inX8 tyX8 tyX8_ok nmX8 hown hK hP hD hS 0 rfl rfl 14 (by decide) (hw _ tw_93) (fun _ h9 => h9) rfl (by decide +kernel) rfl rfl (Nat.le_of_ble_eq_true rfl) dX8_house_50 (fun H locs hP hD hS => ?_)
    have hP : va_P (dC, dI) vwCl [(b 0, .inr (8, [.ref (b 1), .int 0, .int 0, .int 0, .int 0, .int 0, .int 0, .int 0, .int (-1), .int (-1), .ref (b 11), .ref (b 12), .ref (b 13), .int 0, .int 1, .ref (b 16), .ref (b 17), .ref (b 18), .ref (b 19), .ref (b 20), .ref (b 21), .ref (b 22), .ref (b 23), .ref (b 24), .int 0, .ref (b 26), .ref (b 27), .ref (b 28), .ref (b 29), .ref (b 30), .ref (b 31), .ref (b 32), .int 0, .int 0, .ref (b 35), .ref (b 36), .ref (b 37), .ref (b 38), .ref (b 39), .ref (b 40), .int 0, .ref (b 42), .ref (b 43), .ref (b 44), .int 0, .ref (b 46), .ref (b 47), .int 0, .ref (b 49)])), (b 16, .inl (cI, 8, .inl (upd (fun _ => (0 : Int32)) (Int32.toNatClampNeg 0) p0))), (b 17, .inl (cZ, 8, .inl (upd (fun _ => (0 : Int32)) (Int32.toNatClampNeg 0) (vp_nar .boolean p1))))] H := hP
    have hD : va_D A [(b 0, .inr (8, [.ref (b 1), .int 0, .int 0, .int 0, .int 0, .int 0, .int 0, .int 0, .int (-1), .int (-1), .ref (b 11), .ref (b 12), .ref (b 13), .int 0, .int 1, .ref (b 16), .ref (b 17), .ref (b 18), .ref (b 19), .ref (b 20), .ref (b 21), .ref (b 22), .ref (b 23), .ref (b 24), .int 0, .ref (b 26), .ref (b 27), .ref (b 28), .ref (b 29), .ref (b 30), .ref (b 31), .ref (b 32), .int 0, .int 0, .ref (b 35), .ref (b 36), .ref (b 37), .ref (b 38), .ref (b 39), .ref (b 40), .int 0, .ref (b 42), .ref (b 43), .ref (b 44), .int 0, .ref (b 46), .ref (b 47), .int 0, .ref (b 49)])), (b 16, .inl (cI, 8, .inl (upd (fun _ => (0 : Int32)) (Int32.toNatClampNeg 0) p0))), (b 17, .inl (cZ, 8, .inl (upd (fun _ => (0 : Int32)) (Int32.toNatClampNeg 0) (vp_nar .boolean p1))))] := hD
    refine lv_aload_n hx hb dX8_house_53 rfl (lv_at hl 0 rfl) ?_
    refine va_get (D := (dC, dI)) (ci := 8) (v := .int 1) (C := RX8) (T := TX8) (N := 49) hx hb hw zz_inX8 hown hK hP 0 rfl rfl 14 (by decide) (hw _ tw_93) (fun _ h9 => h9) rfl dX8_house_54 ?_
    refine lv_iconst (v := 1) hx hb dX8_house_57 (by decide) ?_
    refine lv_isub hx hb dX8_house_58 ?_
    refine zz_seti 0 (by decide) ?_
    exact W.iret (v := 0) hx hb hr (fun t ht hW => ⟨⟨0, (), rfl, (by have zc_2 := c_2; rw [e_1, zz_in0, Int32.le_iff_toInt_le, Int32.le_iff_toInt_le] at zc_2; (try rw [show (1 : Int32).toInt = 1 from by decide] at zc_2); (try rw [show (9 : Int32).toInt = 9 from by decide] at zc_2); unfold an_house; first | exact (if_pos (by omega)).symm | exact (if_neg (by omega)).symm), trivial⟩, hS.F ht⟩) hS.2.2 dX8_house_59

set_option maxHeartbeats 4000000 in
set_option maxRecDepth 100000 in
theorem m_field (l : Launch) (dC : Nat → ClassId) (dI : Nat → Nat → Nat) (b : Nat → Nat) (p0 : Int32) (p1 : Int32) (p2 : Int32) (p3 : Int32) (p4 : Int32) (sz : Nat) : Met l yX8_field (zz_w yX8_field cX8_field 6 (some .int)) ({ frames := 2, cells := 0, slots := 0, locals := 46 }) (va_Pc [.ref (b 0), .int p0, .int p1, .int p2, .int p3, .int p4] (zz_B (dC, dI) sz [(b 0, .inr (8, [.ref (b 1), .int 0, .int 0, .int 0, .int 0, .int 0, .int 0, .int 0, .int (-1), .int (-1), .ref (b 11), .ref (b 12), .ref (b 13), .int 0, .int 0, .ref (b 16), .ref (b 17), .ref (b 18), .ref (b 19), .ref (b 20), .ref (b 21), .ref (b 22), .ref (b 23), .ref (b 24), .int 0, .ref (b 26), .ref (b 27), .ref (b 28), .ref (b 29), .ref (b 30), .ref (b 31), .ref (b 32), .int 0, .int 0, .ref (b 35), .ref (b 36), .ref (b 37), .ref (b 38), .ref (b 39), .ref (b 40), .int 0, .ref (b 42), .ref (b 43), .ref (b 44), .int 0, .ref (b 46), .ref (b 47), .int 0, .ref (b 49)]))] [])) (va_Qi (fun (r : Int32) (_ : Unit) => r = -1) (fun _ _ => True) (va_A [] sz)) 0 0 (va_A [] sz) := by
  refine Met.ofW (cc := cX8_field) (maxL := 6) (ret := (some .int)) (by decide) rfl ?_
  intro p e s m args below meth c s₁ B hml hv
  obtain ⟨rfl, hsz, hP, hK, hD0, hN⟩ := hv
  have hx := B.exec
  have hb := B.bytes
  have hr := B.returns
  have hts := atoms_spec (ws := zz_w yX8_field cX8_field 6 (some .int)) B.pre
  have hw : ∀ w ∈ zz_all, w.before _ s = true := fun w h => hts w (List.mem_cons_of_mem _ h)
  have hown : s.vm.findClass RX8 = some m.cls := findClass_of_methodNamed B.named
  have hlocks := B.notSynchronized
  subst hsz
  have hD := hD0
  generalize hAe : va_A [] s.heap.size = A
  have hA : ∀ q : Nat, s.heap.size ≤ q → A q := fun q h => by rw [← hAe]; exact Or.inr h
  have hS : va_S A s.heap s.heap [] := va_S.rf
  have hP : va_P (dC, dI) vwCl [(b 0, .inr (8, [.ref (b 1), .int 0, .int 0, .int 0, .int 0, .int 0, .int 0, .int 0, .int (-1), .int (-1), .ref (b 11), .ref (b 12), .ref (b 13), .int 0, .int 0, .ref (b 16), .ref (b 17), .ref (b 18), .ref (b 19), .ref (b 20), .ref (b 21), .ref (b 22), .ref (b 23), .ref (b 24), .int 0, .ref (b 26), .ref (b 27), .ref (b 28), .ref (b 29), .ref (b 30), .ref (b 31), .ref (b 32), .int 0, .int 0, .ref (b 35), .ref (b 36), .ref (b 37), .ref (b 38), .ref (b 39), .ref (b 40), .int 0, .ref (b 42), .ref (b 43), .ref (b 44), .int 0, .ref (b 46), .ref (b 47), .int 0, .ref (b 49)]))] s.heap := hP
  have hl := lv_entry ([.ref (b 0), .int p0, .int p1, .int p2, .int p3, .int p4]) (n := 6) (Nat.le_of_ble_eq_true rfl)
  rw [lg_entry_eq]
  generalize (lg_sl ([.ref (b 0), .int p0, .int p1, .int p2, .int p3, .int p4]) ++ List.replicate (6 - (lg_sl ([.ref (b 0), .int p0, .int p1, .int p2, .int p3, .int p4])).length) Slot.unset).toArray = ls at hl ⊢
  have hl : lv_has ls 6 [(0, .ref (b 0)), (1, .int p0), (2, .int p1), (3, .int p2), (4, .int p3), (5, .int p4)] := hl
  refine lv_aload_n hx hb dX8_field_0 rfl (lv_at hl 0 rfl) ?_
  refine lv_iload_n hx hb dX8_field_1 rfl (lv_at hl 1 rfl) ?_
  have hPc := hP.sub (ws' := [(b 0, .inr (8, [.ref (b 1), .int 0, .int 0, .int 0, .int 0, .int 0, .int 0, .int 0, .int (-1), .int (-1), .ref (b 11), .ref (b 12), .ref (b 13), .int 0, .int 0, .ref (b 16), .ref (b 17), .ref (b 18), .ref (b 19), .ref (b 20), .ref (b 21), .ref (b 22), .ref (b 23), .ref (b 24), .int 0, .ref (b 26), .ref (b 27), .ref (b 28), .ref (b 29), .ref (b 30), .ref (b 31), .ref (b 32), .int 0, .int 0, .ref (b 35), .ref (b 36), .ref (b 37), .ref (b 38), .ref (b 39), .ref (b 40), .int 0, .ref (b 42), .ref (b 43), .ref (b 44), .int 0, .ref (b 46), .ref (b 47), .int 0, .ref (b 49)]))]) [0] rfl
  have hDc := hD.sub (ws' := [(b 0, .inr (8, [.ref (b 1), .int 0, .int 0, .int 0, .int 0, .int 0, .int 0, .int 0, .int (-1), .int (-1), .ref (b 11), .ref (b 12), .ref (b 13), .int 0, .int 0, .ref (b 16), .ref (b 17), .ref (b 18), .ref (b 19), .ref (b 20), .ref (b 21), .ref (b 22), .ref (b 23), .ref (b 24), .int 0, .ref (b 26), .ref (b 27), .ref (b 28), .ref (b 29), .ref (b 30), .ref (b 31), .ref (b 32), .int 0, .int 0, .ref (b 35), .ref (b 36), .ref (b 37), .ref (b 38), .ref (b 39), .ref (b 40), .int 0, .ref (b 42), .ref (b 43), .ref (b 44), .int 0, .ref (b 46), .ref (b 47), .int 0, .ref (b 49)]))]) [0] (by decide) rfl
  have hKc := hK.sub (tys' := []) [] rfl
  have hFc := zz_free0 hS hA
  refine va_calli (va_runV (As := [.int p0]) (rest := []) ⟨hx, hb, hml, hown, hw⟩ (m_isHouse l dC dI b p0 s.heap.size) ⟨callB_of 1 hw (zz_good tw_106) rfl rfl rfl (hw _ tw_95) (hw _ tw_107) (by decide +kernel) ⟨Nat.le_of_ble_eq_true rfl, Nat.le_of_ble_eq_true rfl⟩, (hw _ tw_108), (hw _ tw_109)⟩ ⟨zz_blind, va_recv hKc hPc (ci := 8) (q0 := 0) rfl rfl, zz_pre hPc hKc hDc hN⟩ rfl rfl hl.1 rfl (lv_room (Nat.le_of_ble_eq_true rfl)) dX8_field_2 ⟨Nat.le_of_ble_eq_true rfl, Nat.le_of_ble_eq_true rfl⟩) hS (fun q _ h => hFc q h) hFc (fun r_1 u_1 t H1 locs ht hvm e_1 hB hz1 hk1 hS => ?_)
  try dsimp only at e_1
  have hP := zz_keep hP hk1
  clear hk1 hB ht hvm
  generalize H1 = H at hP hS ⊢
  have hP : va_P (dC, dI) vwCl [(b 0, .inr (8, [.ref (b 1), .int 0, .int 0, .int 0, .int 0, .int 0, .int 0, .int 0, .int (-1), .int (-1), .ref (b 11), .ref (b 12), .ref (b 13), .int 0, .int 0, .ref (b 16), .ref (b 17), .ref (b 18), .ref (b 19), .ref (b 20), .ref (b 21), .ref (b 22), .ref (b 23), .ref (b 24), .int 0, .ref (b 26), .ref (b 27), .ref (b 28), .ref (b 29), .ref (b 30), .ref (b 31), .ref (b 32), .int 0, .int 0, .ref (b 35), .ref (b 36), .ref (b 37), .ref (b 38), .ref (b 39), .ref (b 40), .int 0, .ref (b 42), .ref (b 43), .ref (b 44), .int 0, .ref (b 46), .ref (b 47), .int 0, .ref (b 49)]))] H := hP
  have hD : va_D (fun _ => True) [(b 0, .inr (8, [.ref (b 1), .int 0, .int 0, .int 0, .int 0, .int 0, .int 0, .int 0, .int (-1), .int (-1), .ref (b 11), .ref (b 12), .ref (b 13), .int 0, .int 0, .ref (b 16), .ref (b 17), .ref (b 18), .ref (b 19), .ref (b 20), .ref (b 21), .ref (b 22), .ref (b 23), .ref (b 24), .int 0, .ref (b 26), .ref (b 27), .ref (b 28), .ref (b 29), .ref (b 30), .ref (b 31), .ref (b 32), .int 0, .int 0, .ref (b 35), .ref (b 36), .ref (b 37), .ref (b 38), .ref (b 39), .ref (b 40), .int 0, .ref (b 42), .ref (b 43), .ref (b 44), .int 0, .ref (b 46), .ref (b 47), .int 0, .ref (b 49)]))] := hD
  refine zz_seti 0 e_1 ?_
  refine lv_if_eq (tgt := 67) hx hb dX8_field_5 (by decide) (fun _ => ?_) (fun c_9 => absurd c_9 (by decide))
  refine lv_iconst (v := (-1)) hx hb dX8_field_67 (by decide) ?_
  exact W.iret (v := (-1)) hx hb hr (fun t ht hW => ⟨⟨(-1), (), rfl, rfl, trivial⟩, hS.F ht⟩) hS.2.2 dX8_field_68

set_option maxHeartbeats 4000000 in
set_option maxRecDepth 100000 in
theorem m_loss (l : Launch) (dC : Nat → ClassId) (dI : Nat → Nat → Nat) (b : Nat → Nat) (cI : ClassId) (p0 : Int32) (p1 : Int32) (sz : Nat) : Met l yX8_loss (zz_w yX8_loss cX8_loss 3 (some .boolean)) ({ frames := 1, cells := 0, slots := 0, locals := 25 }) (va_Pc [.ref (b 0), .int p0, .int p1] (zz_B (dC, dI) sz [(b 0, .inr (8, [.ref (b 1), .int 0, .int 0, .int 0, .int 0, .int 0, .int 0, .int 0, .int (-1), .int (-1), .ref (b 11), .ref (b 12), .ref (b 13), .int 0, .int 0, .ref (b 16), .ref (b 17), .ref (b 18), .ref (b 19), .ref (b 20), .ref (b 21), .ref (b 22), .ref (b 23), .ref (b 24), .int 0, .ref (b 26), .ref (b 27), .ref (b 28), .ref (b 29), .ref (b 30), .ref (b 31), .ref (b 32), .int 0, .int 0, .ref (b 35), .ref (b 36), .ref (b 37), .ref (b 38), .ref (b 39), .ref (b 40), .int 0, .ref (b 42), .ref (b 43), .ref (b 44), .int 0, .ref (b 46), .ref (b 47), .int 0, .ref (b 49)])), (b 24, .inl (cI, 10, .inl (fun _ => (0 : Int32))))] [(cI, .int)])) (va_Qi (fun (r : Int32) (_ : Unit) => r = an_loss p0 p1) (fun _ _ => True) (va_A [(b 0, .inr (8, [.ref (b 1), .int 0, .int 0, .int 0, .int 0, .int 0, .int 0, .int 0, .int (-1), .int (-1), .ref (b 11), .ref (b 12), .ref (b 13), .int 0, .int 0, .ref (b 16), .ref (b 17), .ref (b 18), .ref (b 19), .ref (b 20), .ref (b 21), .ref (b 22), .ref (b 23), .ref (b 24), .int 0, .ref (b 26), .ref (b 27), .ref (b 28), .ref (b 29), .ref (b 30), .ref (b 31), .ref (b 32), .int 0, .int 0, .ref (b 35), .ref (b 36), .ref (b 37), .ref (b 38), .ref (b 39), .ref (b 40), .int 0, .ref (b 42), .ref (b 43), .ref (b 44), .int 0, .ref (b 46), .ref (b 47), .int 0, .ref (b 49)])), (b 24, .inl (cI, 10, .inl (fun _ => (0 : Int32))))] sz)) 0 0 (va_A [(b 0, .inr (8, [.ref (b 1), .int 0, .int 0, .int 0, .int 0, .int 0, .int 0, .int 0, .int (-1), .int (-1), .ref (b 11), .ref (b 12), .ref (b 13), .int 0, .int 0, .ref (b 16), .ref (b 17), .ref (b 18), .ref (b 19), .ref (b 20), .ref (b 21), .ref (b 22), .ref (b 23), .ref (b 24), .int 0, .ref (b 26), .ref (b 27), .ref (b 28), .ref (b 29), .ref (b 30), .ref (b 31), .ref (b 32), .int 0, .int 0, .ref (b 35), .ref (b 36), .ref (b 37), .ref (b 38), .ref (b 39), .ref (b 40), .int 0, .ref (b 42), .ref (b 43), .ref (b 44), .int 0, .ref (b 46), .ref (b 47), .int 0, .ref (b 49)])), (b 24, .inl (cI, 10, .inl (fun _ => (0 : Int32))))] sz) := by
  refine Met.ofW (cc := cX8_loss) (maxL := 3) (ret := (some .boolean)) (by decide) rfl ?_
  intro p e s m args below meth c s₁ B hml hv
  obtain ⟨rfl, hsz, hP, hK, hD0, hN⟩ := hv
  have hx := B.exec
  have hb := B.bytes
  have hr := B.returns
  have hts := atoms_spec (ws := zz_w yX8_loss cX8_loss 3 (some .boolean)) B.pre
  have hw : ∀ w ∈ zz_all, w.before _ s = true := fun w h => hts w (List.mem_cons_of_mem _ h)
  have hown : s.vm.findClass RX8 = some m.cls := findClass_of_methodNamed B.named
  have hlocks := B.notSynchronized
  subst hsz
  have hD := hD0.self (sz := s.heap.size)
  generalize hAe : va_A [(b 0, .inr (8, [.ref (b 1), .int 0, .int 0, .int 0, .int 0, .int 0, .int 0, .int 0, .int (-1), .int (-1), .ref (b 11), .ref (b 12), .ref (b 13), .int 0, .int 0, .ref (b 16), .ref (b 17), .ref (b 18), .ref (b 19), .ref (b 20), .ref (b 21), .ref (b 22), .ref (b 23), .ref (b 24), .int 0, .ref (b 26), .ref (b 27), .ref (b 28), .ref (b 29), .ref (b 30), .ref (b 31), .ref (b 32), .int 0, .int 0, .ref (b 35), .ref (b 36), .ref (b 37), .ref (b 38), .ref (b 39), .ref (b 40), .int 0, .ref (b 42), .ref (b 43), .ref (b 44), .int 0, .ref (b 46), .ref (b 47), .int 0, .ref (b 49)])), (b 24, .inl (cI, 10, .inl (fun _ => (0 : Int32))))] s.heap.size = A at hD ⊢
  have hA : ∀ q : Nat, s.heap.size ≤ q → A q := fun q h => by rw [← hAe]; exact Or.inr h
  have hS : va_S A s.heap s.heap [] := va_S.rf
  have hP : va_P (dC, dI) vwCl [(b 0, .inr (8, [.ref (b 1), .int 0, .int 0, .int 0, .int 0, .int 0, .int 0, .int 0, .int (-1), .int (-1), .ref (b 11), .ref (b 12), .ref (b 13), .int 0, .int 0, .ref (b 16), .ref (b 17), .ref (b 18), .ref (b 19), .ref (b 20), .ref (b 21), .ref (b 22), .ref (b 23), .ref (b 24), .int 0, .ref (b 26), .ref (b 27), .ref (b 28), .ref (b 29), .ref (b 30), .ref (b 31), .ref (b 32), .int 0, .int 0, .ref (b 35), .ref (b 36), .ref (b 37), .ref (b 38), .ref (b 39), .ref (b 40), .int 0, .ref (b 42), .ref (b 43), .ref (b 44), .int 0, .ref (b 46), .ref (b 47), .int 0, .ref (b 49)])), (b 24, .inl (cI, 10, .inl (fun _ => (0 : Int32))))] s.heap := hP
  have hl := lv_entry ([.ref (b 0), .int p0, .int p1]) (n := 3) (Nat.le_of_ble_eq_true rfl)
  rw [lg_entry_eq]
  generalize (lg_sl ([.ref (b 0), .int p0, .int p1]) ++ List.replicate (3 - (lg_sl ([.ref (b 0), .int p0, .int p1])).length) Slot.unset).toArray = ls at hl ⊢
  have hl : lv_has ls 3 [(0, .ref (b 0)), (1, .int p0), (2, .int p1)] := hl
  refine lv_iload_n hx hb dX8_loss_0 rfl (lv_at hl 1 rfl) ?_
  refine lv_i2l (v := Int32.toInt64 p0) hx hb dX8_loss_1 rfl ?_
  refine lv_lconst (v := Int32.toInt64 0) hx hb dX8_loss_2 (by decide) ?_
  refine lv_ldc2 (v := 9) hx hb hown (hw _ tw_103) dX8_loss_3 ?_
  refine zz_setl (Int32.toInt64 9) (by decide) ?_
  have hPc := hP.sub (ws' := []) [] rfl
  have hDc := hD.sub (ws' := []) [] (by decide) rfl
  have hKc := hK.sub (tys' := []) [] rfl
  have hFc := zz_free0 hS hA
  refine va_calli (va_runS (As := [.long (Int32.toInt64 p0), .long (Int32.toInt64 0), .long (Int32.toInt64 9)]) (rest := []) ⟨hx, hb, hml, hown, hw⟩ (k_in l dC dI p0 0 9 s.heap.size) ⟨callB_of 3 hw (zz_good tw_94) rfl rfl rfl (hw _ tw_95) (hw _ tw_96) (by decide +kernel) ⟨Nat.le_of_ble_eq_true rfl, Nat.le_of_ble_eq_true rfl⟩, (hw _ tw_97)⟩ ⟨zz_blind, zz_pre hPc hKc hDc hN⟩ rfl rfl hl.1 rfl (lv_room (Nat.le_of_ble_eq_true rfl)) dX8_loss_6 ⟨Nat.le_of_ble_eq_true rfl, Nat.le_of_ble_eq_true rfl⟩) hS (fun q _ h => hFc q h) hFc (fun r_1 u_1 t H1 locs ht hvm e_1 hB hz1 hk1 hS => ?_)
  try dsimp only at e_1
  have hP := zz_keep hP hk1
  clear hk1 hB ht hvm
  generalize H1 = H at hP hS ⊢
  have hP : va_P (dC, dI) vwCl [(b 0, .inr (8, [.ref (b 1), .int 0, .int 0, .int 0, .int 0, .int 0, .int 0, .int 0, .int (-1), .int (-1), .ref (b 11), .ref (b 12), .ref (b 13), .int 0, .int 0, .ref (b 16), .ref (b 17), .ref (b 18), .ref (b 19), .ref (b 20), .ref (b 21), .ref (b 22), .ref (b 23), .ref (b 24), .int 0, .ref (b 26), .ref (b 27), .ref (b 28), .ref (b 29), .ref (b 30), .ref (b 31), .ref (b 32), .int 0, .int 0, .ref (b 35), .ref (b 36), .ref (b 37), .ref (b 38), .ref (b 39), .ref (b 40), .int 0, .ref (b 42), .ref (b 43), .ref (b 44), .int 0, .ref (b 46), .ref (b 47), .int 0, .ref (b 49)])), (b 24, .inl (cI, 10, .inl (fun _ => (0 : Int32))))] H := hP
  have hD : va_D A [(b 0, .inr (8, [.ref (b 1), .int 0, .int 0, .int 0, .int 0, .int 0, .int 0, .int 0, .int (-1), .int (-1), .ref (b 11), .ref (b 12), .ref (b 13), .int 0, .int 0, .ref (b 16), .ref (b 17), .ref (b 18), .ref (b 19), .ref (b 20), .ref (b 21), .ref (b 22), .ref (b 23), .ref (b 24), .int 0, .ref (b 26), .ref (b 27), .ref (b 28), .ref (b 29), .ref (b 30), .ref (b 31), .ref (b 32), .int 0, .int 0, .ref (b 35), .ref (b 36), .ref (b 37), .ref (b 38), .ref (b 39), .ref (b 40), .int 0, .ref (b 42), .ref (b 43), .ref (b 44), .int 0, .ref (b 46), .ref (b 47), .int 0, .ref (b 49)])), (b 24, .inl (cI, 10, .inl (fun _ => (0 : Int32))))] := hD
  refine lv_if_eq (tgt := 24) hx hb dX8_loss_9 (by decide) (fun c_2 => ?_) (fun c_2 => ?_)
  · refine lv_iconst (v := 0) hx hb dX8_loss_24 (by decide) ?_
    exact W.zret (v := 0) hx hb hr (rfl) (fun t ht hW => ⟨⟨0, (), rfl, (by have zc_2 := c_2; rw [e_1, zz_in0, Int32.le_iff_toInt_le, Int32.le_iff_toInt_le] at zc_2; (try rw [show (0 : Int32).toInt = 0 from by decide] at zc_2); (try rw [show (9 : Int32).toInt = 9 from by decide] at zc_2); unfold an_loss; first | exact (if_pos (by omega)).symm | exact (if_neg (by omega)).symm), trivial⟩, hS.F ht⟩) hS.2.2 dX8_loss_25
  · refine lv_iload_n hx hb dX8_loss_12 rfl (lv_at hl 2 rfl) ?_
    refine lv_i2l (v := Int32.toInt64 p1) hx hb dX8_loss_13 rfl ?_
    refine lv_lconst (v := Int32.toInt64 0) hx hb dX8_loss_14 (by decide) ?_
    refine lv_ldc2 (v := 100) hx hb hown (hw _ tw_110) dX8_loss_15 ?_
    refine zz_setl (Int32.toInt64 100) (by decide) ?_
    have hPc := hP.sub (ws' := []) [] rfl
    have hDc := hD.sub (ws' := []) [] (by decide) rfl
    have hKc := hK.sub (tys' := []) [] rfl
    have hFc := zz_free0 hS hA
    refine va_calli (va_runS (As := [.long (Int32.toInt64 p1), .long (Int32.toInt64 0), .long (Int32.toInt64 100)]) (rest := []) ⟨hx, hb, hml, hown, hw⟩ (k_in l dC dI p1 0 100 H.size) ⟨callB_of 3 hw (zz_good tw_94) rfl rfl rfl (hw _ tw_95) (hw _ tw_96) (by decide +kernel) ⟨Nat.le_of_ble_eq_true rfl, Nat.le_of_ble_eq_true rfl⟩, (hw _ tw_97)⟩ ⟨zz_blind, zz_pre hPc hKc hDc hN⟩ rfl rfl hl.1 rfl (lv_room (Nat.le_of_ble_eq_true rfl)) dX8_loss_18 ⟨Nat.le_of_ble_eq_true rfl, Nat.le_of_ble_eq_true rfl⟩) hS (fun q _ h => hFc q h) hFc (fun r_3 u_3 t H1 locs ht hvm e_3 hB hz1 hk1 hS => ?_)
    try dsimp only at e_3
    have hP := zz_keep hP hk1
    clear hk1 hB ht hvm
    generalize H1 = H at hP hS ⊢
    have hP : va_P (dC, dI) vwCl [(b 0, .inr (8, [.ref (b 1), .int 0, .int 0, .int 0, .int 0, .int 0, .int 0, .int 0, .int (-1), .int (-1), .ref (b 11), .ref (b 12), .ref (b 13), .int 0, .int 0, .ref (b 16), .ref (b 17), .ref (b 18), .ref (b 19), .ref (b 20), .ref (b 21), .ref (b 22), .ref (b 23), .ref (b 24), .int 0, .ref (b 26), .ref (b 27), .ref (b 28), .ref (b 29), .ref (b 30), .ref (b 31), .ref (b 32), .int 0, .int 0, .ref (b 35), .ref (b 36), .ref (b 37), .ref (b 38), .ref (b 39), .ref (b 40), .int 0, .ref (b 42), .ref (b 43), .ref (b 44), .int 0, .ref (b 46), .ref (b 47), .int 0, .ref (b 49)])), (b 24, .inl (cI, 10, .inl (fun _ => (0 : Int32))))] H := hP
    have hD : va_D A [(b 0, .inr (8, [.ref (b 1), .int 0, .int 0, .int 0, .int 0, .int 0, .int 0, .int 0, .int (-1), .int (-1), .ref (b 11), .ref (b 12), .ref (b 13), .int 0, .int 0, .ref (b 16), .ref (b 17), .ref (b 18), .ref (b 19), .ref (b 20), .ref (b 21), .ref (b 22), .ref (b 23), .ref (b 24), .int 0, .ref (b 26), .ref (b 27), .ref (b 28), .ref (b 29), .ref (b 30), .ref (b 31), .ref (b 32), .int 0, .int 0, .ref (b 35), .ref (b 36), .ref (b 37), .ref (b 38), .ref (b 39), .ref (b 40), .int 0, .ref (b 42), .ref (b 43), .ref (b 44), .int 0, .ref (b 46), .ref (b 47), .int 0, .ref (b 49)])), (b 24, .inl (cI, 10, .inl (fun _ => (0 : Int32))))] := hD
    refine lv_if_ne (tgt := 26) hx hb dX8_loss_21 (by decide) (fun c_4 => ?_) (fun c_4 => ?_)
    · refine lv_aload_n hx hb dX8_loss_26 rfl (lv_at hl 0 rfl) ?_
      refine va_get (D := (dC, dI)) (ci := 8) (v := .ref (b 24)) (C := RX8) (T := TX8) (N := 49) hx hb hw zz_inX8 hown hK hP 0 rfl rfl 23 (by decide) (hw _ tw_111) (fun _ h9 => h9) rfl dX8_loss_27 ?_
      refine lv_iload_n hx hb dX8_loss_30 rfl (lv_at hl 1 rfl) ?_
      refine lv_iload_n hx hb dX8_loss_31 rfl (lv_at hl 2 rfl) ?_
      refine va_iast hx hb hK hP hD hS 1 0 rfl rfl (vp_in_iff.mpr (by have zc_2 := c_2; rw [e_1, zz_in0, Int32.le_iff_toInt_le, Int32.le_iff_toInt_le] at zc_2; (try rw [show (0 : Int32).toInt = 0 from by decide] at zc_2); (try rw [show (9 : Int32).toInt = 9 from by decide] at zc_2); have zc_4 := c_4; rw [e_3, zz_in0, Int32.le_iff_toInt_le, Int32.le_iff_toInt_le] at zc_4; (try rw [show (0 : Int32).toInt = 0 from by decide] at zc_4); (try rw [show (100 : Int32).toInt = 100 from by decide] at zc_4); constructor <;> omega)) dX8_loss_32 (fun H locs hP hD hS => ?_)
      have hP : va_P (dC, dI) vwCl [(b 0, .inr (8, [.ref (b 1), .int 0, .int 0, .int 0, .int 0, .int 0, .int 0, .int 0, .int (-1), .int (-1), .ref (b 11), .ref (b 12), .ref (b 13), .int 0, .int 0, .ref (b 16), .ref (b 17), .ref (b 18), .ref (b 19), .ref (b 20), .ref (b 21), .ref (b 22), .ref (b 23), .ref (b 24), .int 0, .ref (b 26), .ref (b 27), .ref (b 28), .ref (b 29), .ref (b 30), .ref (b 31), .ref (b 32), .int 0, .int 0, .ref (b 35), .ref (b 36), .ref (b 37), .ref (b 38), .ref (b 39), .ref (b 40), .int 0, .ref (b 42), .ref (b 43), .ref (b 44), .int 0, .ref (b 46), .ref (b 47), .int 0, .ref (b 49)])), (b 24, .inl (cI, 10, .inl (upd (fun _ => (0 : Int32)) (Int32.toNatClampNeg p0) p1)))] H := hP
      have hD : va_D A [(b 0, .inr (8, [.ref (b 1), .int 0, .int 0, .int 0, .int 0, .int 0, .int 0, .int 0, .int (-1), .int (-1), .ref (b 11), .ref (b 12), .ref (b 13), .int 0, .int 0, .ref (b 16), .ref (b 17), .ref (b 18), .ref (b 19), .ref (b 20), .ref (b 21), .ref (b 22), .ref (b 23), .ref (b 24), .int 0, .ref (b 26), .ref (b 27), .ref (b 28), .ref (b 29), .ref (b 30), .ref (b 31), .ref (b 32), .int 0, .int 0, .ref (b 35), .ref (b 36), .ref (b 37), .ref (b 38), .ref (b 39), .ref (b 40), .int 0, .ref (b 42), .ref (b 43), .ref (b 44), .int 0, .ref (b 46), .ref (b 47), .int 0, .ref (b 49)])), (b 24, .inl (cI, 10, .inl (upd (fun _ => (0 : Int32)) (Int32.toNatClampNeg p0) p1)))] := hD
      refine lv_iconst (v := 1) hx hb dX8_loss_33 (by decide) ?_
      exact W.zret (v := 1) hx hb hr (rfl) (fun t ht hW => ⟨⟨1, (), rfl, (by have zc_2 := c_2; rw [e_1, zz_in0, Int32.le_iff_toInt_le, Int32.le_iff_toInt_le] at zc_2; (try rw [show (0 : Int32).toInt = 0 from by decide] at zc_2); (try rw [show (9 : Int32).toInt = 9 from by decide] at zc_2); have zc_4 := c_4; rw [e_3, zz_in0, Int32.le_iff_toInt_le, Int32.le_iff_toInt_le] at zc_4; (try rw [show (0 : Int32).toInt = 0 from by decide] at zc_4); (try rw [show (100 : Int32).toInt = 100 from by decide] at zc_4); unfold an_loss; first | exact (if_pos (by omega)).symm | exact (if_neg (by omega)).symm), trivial⟩, hS.F ht⟩) hS.2.2 dX8_loss_34
    · refine lv_iconst (v := 0) hx hb dX8_loss_24 (by decide) ?_
      exact W.zret (v := 0) hx hb hr (rfl) (fun t ht hW => ⟨⟨0, (), rfl, (by have zc_2 := c_2; rw [e_1, zz_in0, Int32.le_iff_toInt_le, Int32.le_iff_toInt_le] at zc_2; (try rw [show (0 : Int32).toInt = 0 from by decide] at zc_2); (try rw [show (9 : Int32).toInt = 9 from by decide] at zc_2); have zc_4 := c_4; rw [e_3, zz_in0, Int32.le_iff_toInt_le, Int32.le_iff_toInt_le] at zc_4; (try rw [show (0 : Int32).toInt = 0 from by decide] at zc_4); (try rw [show (100 : Int32).toInt = 100 from by decide] at zc_4); unfold an_loss; first | exact (if_pos (by omega)).symm | exact (if_neg (by omega)).symm), trivial⟩, hS.F ht⟩) hS.2.2 dX8_loss_25

set_option maxHeartbeats 4000000 in
set_option maxRecDepth 100000 in
theorem m_put0 (l : Launch) (dC : Nat → ClassId) (dI : Nat → Nat → Nat) (b : Nat → Nat) (cB : ClassId) (f : Nat → Int32) (p0 : Int32) (sz : Nat) : Met l yX8_put (zz_w yX8_put cX8_put 2 none) ({ frames := 0, cells := 0, slots := 0, locals := 0 }) (va_Pc [.ref (b 0), .int p0] (zz_B (dC, dI) sz [(b 0, .inr (8, [.ref (b 1), .int 0, .int 0, .int 0, .int 0, .int 0, .int 0, .int 0, .int (-1), .int (-1), .ref (b 11), .ref (b 12), .ref (b 13), .int 0, .int 0, .ref (b 16), .ref (b 17), .ref (b 18), .ref (b 19), .ref (b 20), .ref (b 21), .ref (b 22), .ref (b 23), .ref (b 24), .int 0, .ref (b 26), .ref (b 27), .ref (b 28), .ref (b 29), .ref (b 30), .ref (b 31), .ref (b 32), .int 0, .int 0, .ref (b 35), .ref (b 36), .ref (b 37), .ref (b 38), .ref (b 39), .ref (b 40), .int 0, .ref (b 42), .ref (b 43), .ref (b 44), .int 0, .ref (b 46), .ref (b 47), .int 0, .ref (b 49)])), (b 1, .inl (cB, 200, .inl f))] [(cB, .byte)])) (va_Qv (fun (_ : Nat → Int32) => True) (fun (u0 : Nat → Int32) (t : State) => va_P (dC, dI) vwCl [(b 0, .inr (8, [.ref (b 1), .int 4, .int 0, .int 0, .int 0, .int 0, .int 0, .int 0, .int (-1), .int (-1), .ref (b 11), .ref (b 12), .ref (b 13), .int 0, .int 0, .ref (b 16), .ref (b 17), .ref (b 18), .ref (b 19), .ref (b 20), .ref (b 21), .ref (b 22), .ref (b 23), .ref (b 24), .int 0, .ref (b 26), .ref (b 27), .ref (b 28), .ref (b 29), .ref (b 30), .ref (b 31), .ref (b 32), .int 0, .int 0, .ref (b 35), .ref (b 36), .ref (b 37), .ref (b 38), .ref (b 39), .ref (b 40), .int 0, .ref (b 42), .ref (b 43), .ref (b 44), .int 0, .ref (b 46), .ref (b 47), .int 0, .ref (b 49)])), (b 1, .inl (cB, 200, .inl u0))] t.heap ∧ va_K (dC, dI) vwCl [(cB, .byte)] t ∧ va_D (va_A [(b 0, .inr (8, [.ref (b 1), .int 0, .int 0, .int 0, .int 0, .int 0, .int 0, .int 0, .int (-1), .int (-1), .ref (b 11), .ref (b 12), .ref (b 13), .int 0, .int 0, .ref (b 16), .ref (b 17), .ref (b 18), .ref (b 19), .ref (b 20), .ref (b 21), .ref (b 22), .ref (b 23), .ref (b 24), .int 0, .ref (b 26), .ref (b 27), .ref (b 28), .ref (b 29), .ref (b 30), .ref (b 31), .ref (b 32), .int 0, .int 0, .ref (b 35), .ref (b 36), .ref (b 37), .ref (b 38), .ref (b 39), .ref (b 40), .int 0, .ref (b 42), .ref (b 43), .ref (b 44), .int 0, .ref (b 46), .ref (b 47), .int 0, .ref (b 49)])), (b 1, .inl (cB, 200, .inl f))] sz) [(b 0, .inr (8, [.ref (b 1), .int 4, .int 0, .int 0, .int 0, .int 0, .int 0, .int 0, .int (-1), .int (-1), .ref (b 11), .ref (b 12), .ref (b 13), .int 0, .int 0, .ref (b 16), .ref (b 17), .ref (b 18), .ref (b 19), .ref (b 20), .ref (b 21), .ref (b 22), .ref (b 23), .ref (b 24), .int 0, .ref (b 26), .ref (b 27), .ref (b 28), .ref (b 29), .ref (b 30), .ref (b 31), .ref (b 32), .int 0, .int 0, .ref (b 35), .ref (b 36), .ref (b 37), .ref (b 38), .ref (b 39), .ref (b 40), .int 0, .ref (b 42), .ref (b 43), .ref (b 44), .int 0, .ref (b 46), .ref (b 47), .int 0, .ref (b 49)])), (b 1, .inl (cB, 200, .inl u0))]) (va_A [(b 0, .inr (8, [.ref (b 1), .int 0, .int 0, .int 0, .int 0, .int 0, .int 0, .int 0, .int (-1), .int (-1), .ref (b 11), .ref (b 12), .ref (b 13), .int 0, .int 0, .ref (b 16), .ref (b 17), .ref (b 18), .ref (b 19), .ref (b 20), .ref (b 21), .ref (b 22), .ref (b 23), .ref (b 24), .int 0, .ref (b 26), .ref (b 27), .ref (b 28), .ref (b 29), .ref (b 30), .ref (b 31), .ref (b 32), .int 0, .int 0, .ref (b 35), .ref (b 36), .ref (b 37), .ref (b 38), .ref (b 39), .ref (b 40), .int 0, .ref (b 42), .ref (b 43), .ref (b 44), .int 0, .ref (b 46), .ref (b 47), .int 0, .ref (b 49)])), (b 1, .inl (cB, 200, .inl f))] sz)) 0 0 (va_A [(b 0, .inr (8, [.ref (b 1), .int 0, .int 0, .int 0, .int 0, .int 0, .int 0, .int 0, .int (-1), .int (-1), .ref (b 11), .ref (b 12), .ref (b 13), .int 0, .int 0, .ref (b 16), .ref (b 17), .ref (b 18), .ref (b 19), .ref (b 20), .ref (b 21), .ref (b 22), .ref (b 23), .ref (b 24), .int 0, .ref (b 26), .ref (b 27), .ref (b 28), .ref (b 29), .ref (b 30), .ref (b 31), .ref (b 32), .int 0, .int 0, .ref (b 35), .ref (b 36), .ref (b 37), .ref (b 38), .ref (b 39), .ref (b 40), .int 0, .ref (b 42), .ref (b 43), .ref (b 44), .int 0, .ref (b 46), .ref (b 47), .int 0, .ref (b 49)])), (b 1, .inl (cB, 200, .inl f))] sz) := by
  refine Met.ofW (cc := cX8_put) (maxL := 2) (ret := none) (by decide) rfl ?_
  intro p e s m args below meth c s₁ B hml hv
  obtain ⟨rfl, hsz, hP, hK, hD0, hN⟩ := hv
  have hx := B.exec
  have hb := B.bytes
  have hr := B.returns
  have hts := atoms_spec (ws := zz_w yX8_put cX8_put 2 none) B.pre
  have hw : ∀ w ∈ zz_all, w.before _ s = true := fun w h => hts w (List.mem_cons_of_mem _ h)
  have hown : s.vm.findClass RX8 = some m.cls := findClass_of_methodNamed B.named
  have hlocks := B.notSynchronized
  subst hsz
  have hD := hD0.self (sz := s.heap.size)
  generalize hAe : va_A [(b 0, .inr (8, [.ref (b 1), .int 0, .int 0, .int 0, .int 0, .int 0, .int 0, .int 0, .int (-1), .int (-1), .ref (b 11), .ref (b 12), .ref (b 13), .int 0, .int 0, .ref (b 16), .ref (b 17), .ref (b 18), .ref (b 19), .ref (b 20), .ref (b 21), .ref (b 22), .ref (b 23), .ref (b 24), .int 0, .ref (b 26), .ref (b 27), .ref (b 28), .ref (b 29), .ref (b 30), .ref (b 31), .ref (b 32), .int 0, .int 0, .ref (b 35), .ref (b 36), .ref (b 37), .ref (b 38), .ref (b 39), .ref (b 40), .int 0, .ref (b 42), .ref (b 43), .ref (b 44), .int 0, .ref (b 46), .ref (b 47), .int 0, .ref (b 49)])), (b 1, .inl (cB, 200, .inl f))] s.heap.size = A at hD ⊢
  have hA : ∀ q : Nat, s.heap.size ≤ q → A q := fun q h => by rw [← hAe]; exact Or.inr h
  have hS : va_S A s.heap s.heap [] := va_S.rf
  have hP : va_P (dC, dI) vwCl [(b 0, .inr (8, [.ref (b 1), .int 0, .int 0, .int 0, .int 0, .int 0, .int 0, .int 0, .int (-1), .int (-1), .ref (b 11), .ref (b 12), .ref (b 13), .int 0, .int 0, .ref (b 16), .ref (b 17), .ref (b 18), .ref (b 19), .ref (b 20), .ref (b 21), .ref (b 22), .ref (b 23), .ref (b 24), .int 0, .ref (b 26), .ref (b 27), .ref (b 28), .ref (b 29), .ref (b 30), .ref (b 31), .ref (b 32), .int 0, .int 0, .ref (b 35), .ref (b 36), .ref (b 37), .ref (b 38), .ref (b 39), .ref (b 40), .int 0, .ref (b 42), .ref (b 43), .ref (b 44), .int 0, .ref (b 46), .ref (b 47), .int 0, .ref (b 49)])), (b 1, .inl (cB, 200, .inl f))] s.heap := hP
  have hl := lv_entry ([.ref (b 0), .int p0]) (n := 2) (Nat.le_of_ble_eq_true rfl)
  rw [lg_entry_eq]
  generalize (lg_sl ([.ref (b 0), .int p0]) ++ List.replicate (2 - (lg_sl ([.ref (b 0), .int p0])).length) Slot.unset).toArray = ls at hl ⊢
  have hl : lv_has ls 2 [(0, .ref (b 0)), (1, .int p0)] := hl
  refine lv_aload_n hx hb dX8_put_0 rfl (lv_at hl 0 rfl) ?_
  refine va_get (D := (dC, dI)) (ci := 8) (v := .ref (b 1)) (C := RX8) (T := TX8) (N := 49) hx hb hw zz_inX8 hown hK hP 0 rfl rfl 0 (by decide) (hw _ tw_112) (fun _ h9 => h9) rfl dX8_put_1 ?_
  refine lv_aload_n hx hb dX8_put_4 rfl (lv_at hl 0 rfl) ?_
  refine va_get (D := (dC, dI)) (ci := 8) (v := .int 0) (C := RX8) (T := TX8) (N := 49) hx hb hw zz_inX8 hown hK hP 0 rfl rfl 1 (by decide) (hw _ tw_113) (fun _ h9 => h9) rfl dX8_put_5 ?_
  refine lv_iload_n hx hb dX8_put_8 rfl (lv_at hl 1 rfl) ?_
  refine lv_bipush (v := 24) hx hb dX8_put_9 (by decide) ?_
  refine lv_ishr hx hb dX8_put_11 ?_
  refine lv_i2b (v := (Int8.toInt32 (Int32.toInt8 (p0 >>> (24 &&& 31))))) hx hb dX8_put_12 rfl ?_
  refine va_bast hx hb hK hP hD hS 1 0 rfl rfl (zz_vin (by decide)) dX8_put_13 (fun H locs hP hD hS => ?_)
  have hP : va_P (dC, dI) vwCl [(b 0, .inr (8, [.ref (b 1), .int 0, .int 0, .int 0, .int 0, .int 0, .int 0, .int 0, .int (-1), .int (-1), .ref (b 11), .ref (b 12), .ref (b 13), .int 0, .int 0, .ref (b 16), .ref (b 17), .ref (b 18), .ref (b 19), .ref (b 20), .ref (b 21), .ref (b 22), .ref (b 23), .ref (b 24), .int 0, .ref (b 26), .ref (b 27), .ref (b 28), .ref (b 29), .ref (b 30), .ref (b 31), .ref (b 32), .int 0, .int 0, .ref (b 35), .ref (b 36), .ref (b 37), .ref (b 38), .ref (b 39), .ref (b 40), .int 0, .ref (b 42), .ref (b 43), .ref (b 44), .int 0, .ref (b 46), .ref (b 47), .int 0, .ref (b 49)])), (b 1, .inl (cB, 200, .inl (upd f (Int32.toNatClampNeg 0) (vp_nar .byte (Int8.toInt32 (Int32.toInt8 (p0 >>> (24 &&& 31))))))))] H := hP
  have hD : va_D A [(b 0, .inr (8, [.ref (b 1), .int 0, .int 0, .int 0, .int 0, .int 0, .int 0, .int 0, .int (-1), .int (-1), .ref (b 11), .ref (b 12), .ref (b 13), .int 0, .int 0, .ref (b 16), .ref (b 17), .ref (b 18), .ref (b 19), .ref (b 20), .ref (b 21), .ref (b 22), .ref (b 23), .ref (b 24), .int 0, .ref (b 26), .ref (b 27), .ref (b 28), .ref (b 29), .ref (b 30), .ref (b 31), .ref (b 32), .int 0, .int 0, .ref (b 35), .ref (b 36), .ref (b 37), .ref (b 38), .ref (b 39), .ref (b 40), .int 0, .ref (b 42), .ref (b 43), .ref (b 44), .int 0, .ref (b 46), .ref (b 47), .int 0, .ref (b 49)])), (b 1, .inl (cB, 200, .inl (upd f (Int32.toNatClampNeg 0) (vp_nar .byte (Int8.toInt32 (Int32.toInt8 (p0 >>> (24 &&& 31))))))))] := hD
  refine lv_aload_n hx hb dX8_put_14 rfl (lv_at hl 0 rfl) ?_
  refine va_get (D := (dC, dI)) (ci := 8) (v := .ref (b 1)) (C := RX8) (T := TX8) (N := 49) hx hb hw zz_inX8 hown hK hP 0 rfl rfl 0 (by decide) (hw _ tw_112) (fun _ h9 => h9) rfl dX8_put_15 ?_
  refine lv_aload_n hx hb dX8_put_18 rfl (lv_at hl 0 rfl) ?_
  refine va_get (D := (dC, dI)) (ci := 8) (v := .int 0) (C := RX8) (T := TX8) (N := 49) hx hb hw zz_inX8 hown hK hP 0 rfl rfl 1 (by decide) (hw _ tw_113) (fun _ h9 => h9) rfl dX8_put_19 ?_
  refine lv_iconst (v := 1) hx hb dX8_put_22 (by decide) ?_
  refine lv_iadd hx hb dX8_put_23 ?_
  refine zz_seti 1 (by decide) ?_
  refine lv_iload_n hx hb dX8_put_24 rfl (lv_at hl 1 rfl) ?_
  refine lv_bipush (v := 16) hx hb dX8_put_25 (by decide) ?_
  refine lv_ishr hx hb dX8_put_27 ?_
  refine lv_i2b (v := (Int8.toInt32 (Int32.toInt8 (p0 >>> (16 &&& 31))))) hx hb dX8_put_28 rfl ?_
  refine va_bast hx hb hK hP hD hS 1 0 rfl rfl (zz_vin (by decide)) dX8_put_29 (fun H locs hP hD hS => ?_)
  have hP : va_P (dC, dI) vwCl [(b 0, .inr (8, [.ref (b 1), .int 0, .int 0, .int 0, .int 0, .int 0, .int 0, .int 0, .int (-1), .int (-1), .ref (b 11), .ref (b 12), .ref (b 13), .int 0, .int 0, .ref (b 16), .ref (b 17), .ref (b 18), .ref (b 19), .ref (b 20), .ref (b 21), .ref (b 22), .ref (b 23), .ref (b 24), .int 0, .ref (b 26), .ref (b 27), .ref (b 28), .ref (b 29), .ref (b 30), .ref (b 31), .ref (b 32), .int 0, .int 0, .ref (b 35), .ref (b 36), .ref (b 37), .ref (b 38), .ref (b 39), .ref (b 40), .int 0, .ref (b 42), .ref (b 43), .ref (b 44), .int 0, .ref (b 46), .ref (b 47), .int 0, .ref (b 49)])), (b 1, .inl (cB, 200, .inl (upd (upd f (Int32.toNatClampNeg 0) (vp_nar .byte (Int8.toInt32 (Int32.toInt8 (p0 >>> (24 &&& 31)))))) (Int32.toNatClampNeg 1) (vp_nar .byte (Int8.toInt32 (Int32.toInt8 (p0 >>> (16 &&& 31))))))))] H := hP
  have hD : va_D A [(b 0, .inr (8, [.ref (b 1), .int 0, .int 0, .int 0, .int 0, .int 0, .int 0, .int 0, .int (-1), .int (-1), .ref (b 11), .ref (b 12), .ref (b 13), .int 0, .int 0, .ref (b 16), .ref (b 17), .ref (b 18), .ref (b 19), .ref (b 20), .ref (b 21), .ref (b 22), .ref (b 23), .ref (b 24), .int 0, .ref (b 26), .ref (b 27), .ref (b 28), .ref (b 29), .ref (b 30), .ref (b 31), .ref (b 32), .int 0, .int 0, .ref (b 35), .ref (b 36), .ref (b 37), .ref (b 38), .ref (b 39), .ref (b 40), .int 0, .ref (b 42), .ref (b 43), .ref (b 44), .int 0, .ref (b 46), .ref (b 47), .int 0, .ref (b 49)])), (b 1, .inl (cB, 200, .inl (upd (upd f (Int32.toNatClampNeg 0) (vp_nar .byte (Int8.toInt32 (Int32.toInt8 (p0 >>> (24 &&& 31)))))) (Int32.toNatClampNeg 1) (vp_nar .byte (Int8.toInt32 (Int32.toInt8 (p0 >>> (16 &&& 31))))))))] := hD
  refine lv_aload_n hx hb dX8_put_30 rfl (lv_at hl 0 rfl) ?_
  refine va_get (D := (dC, dI)) (ci := 8) (v := .ref (b 1)) (C := RX8) (T := TX8) (N := 49) hx hb hw zz_inX8 hown hK hP 0 rfl rfl 0 (by decide) (hw _ tw_112) (fun _ h9 => h9) rfl dX8_put_31 ?_
  refine lv_aload_n hx hb dX8_put_34 rfl (lv_at hl 0 rfl) ?_
  refine va_get (D := (dC, dI)) (ci := 8) (v := .int 0) (C := RX8) (T := TX8) (N := 49) hx hb hw zz_inX8 hown hK hP 0 rfl rfl 1 (by decide) (hw _ tw_113) (fun _ h9 => h9) rfl dX8_put_35 ?_
  refine lv_iconst (v := 2) hx hb dX8_put_38 (by decide) ?_
  refine lv_iadd hx hb dX8_put_39 ?_
  refine zz_seti 2 (by decide) ?_
  refine lv_iload_n hx hb dX8_put_40 rfl (lv_at hl 1 rfl) ?_
  refine lv_bipush (v := 8) hx hb dX8_put_41 (by decide) ?_
  refine lv_ishr hx hb dX8_put_43 ?_
  refine lv_i2b (v := (Int8.toInt32 (Int32.toInt8 (p0 >>> (8 &&& 31))))) hx hb dX8_put_44 rfl ?_
  refine va_bast hx hb hK hP hD hS 1 0 rfl rfl (zz_vin (by decide)) dX8_put_45 (fun H locs hP hD hS => ?_)
  have hP : va_P (dC, dI) vwCl [(b 0, .inr (8, [.ref (b 1), .int 0, .int 0, .int 0, .int 0, .int 0, .int 0, .int 0, .int (-1), .int (-1), .ref (b 11), .ref (b 12), .ref (b 13), .int 0, .int 0, .ref (b 16), .ref (b 17), .ref (b 18), .ref (b 19), .ref (b 20), .ref (b 21), .ref (b 22), .ref (b 23), .ref (b 24), .int 0, .ref (b 26), .ref (b 27), .ref (b 28), .ref (b 29), .ref (b 30), .ref (b 31), .ref (b 32), .int 0, .int 0, .ref (b 35), .ref (b 36), .ref (b 37), .ref (b 38), .ref (b 39), .ref (b 40), .int 0, .ref (b 42), .ref (b 43), .ref (b 44), .int 0, .ref (b 46), .ref (b 47), .int 0, .ref (b 49)])), (b 1, .inl (cB, 200, .inl (upd (upd (upd f (Int32.toNatClampNeg 0) (vp_nar .byte (Int8.toInt32 (Int32.toInt8 (p0 >>> (24 &&& 31)))))) (Int32.toNatClampNeg 1) (vp_nar .byte (Int8.toInt32 (Int32.toInt8 (p0 >>> (16 &&& 31)))))) (Int32.toNatClampNeg 2) (vp_nar .byte (Int8.toInt32 (Int32.toInt8 (p0 >>> (8 &&& 31))))))))] H := hP
  have hD : va_D A [(b 0, .inr (8, [.ref (b 1), .int 0, .int 0, .int 0, .int 0, .int 0, .int 0, .int 0, .int (-1), .int (-1), .ref (b 11), .ref (b 12), .ref (b 13), .int 0, .int 0, .ref (b 16), .ref (b 17), .ref (b 18), .ref (b 19), .ref (b 20), .ref (b 21), .ref (b 22), .ref (b 23), .ref (b 24), .int 0, .ref (b 26), .ref (b 27), .ref (b 28), .ref (b 29), .ref (b 30), .ref (b 31), .ref (b 32), .int 0, .int 0, .ref (b 35), .ref (b 36), .ref (b 37), .ref (b 38), .ref (b 39), .ref (b 40), .int 0, .ref (b 42), .ref (b 43), .ref (b 44), .int 0, .ref (b 46), .ref (b 47), .int 0, .ref (b 49)])), (b 1, .inl (cB, 200, .inl (upd (upd (upd f (Int32.toNatClampNeg 0) (vp_nar .byte (Int8.toInt32 (Int32.toInt8 (p0 >>> (24 &&& 31)))))) (Int32.toNatClampNeg 1) (vp_nar .byte (Int8.toInt32 (Int32.toInt8 (p0 >>> (16 &&& 31)))))) (Int32.toNatClampNeg 2) (vp_nar .byte (Int8.toInt32 (Int32.toInt8 (p0 >>> (8 &&& 31))))))))] := hD
  refine lv_aload_n hx hb dX8_put_46 rfl (lv_at hl 0 rfl) ?_
  refine va_get (D := (dC, dI)) (ci := 8) (v := .ref (b 1)) (C := RX8) (T := TX8) (N := 49) hx hb hw zz_inX8 hown hK hP 0 rfl rfl 0 (by decide) (hw _ tw_112) (fun _ h9 => h9) rfl dX8_put_47 ?_
  refine lv_aload_n hx hb dX8_put_50 rfl (lv_at hl 0 rfl) ?_
  refine va_get (D := (dC, dI)) (ci := 8) (v := .int 0) (C := RX8) (T := TX8) (N := 49) hx hb hw zz_inX8 hown hK hP 0 rfl rfl 1 (by decide) (hw _ tw_113) (fun _ h9 => h9) rfl dX8_put_51 ?_
  refine lv_iconst (v := 3) hx hb dX8_put_54 (by decide) ?_
  refine lv_iadd hx hb dX8_put_55 ?_
  refine zz_seti 3 (by decide) ?_
  refine lv_iload_n hx hb dX8_put_56 rfl (lv_at hl 1 rfl) ?_
  refine lv_i2b (v := (Int8.toInt32 (Int32.toInt8 p0))) hx hb dX8_put_57 rfl ?_
  refine va_bast hx hb hK hP hD hS 1 0 rfl rfl (zz_vin (by decide)) dX8_put_58 (fun H locs hP hD hS => ?_)
  have hP : va_P (dC, dI) vwCl [(b 0, .inr (8, [.ref (b 1), .int 0, .int 0, .int 0, .int 0, .int 0, .int 0, .int 0, .int (-1), .int (-1), .ref (b 11), .ref (b 12), .ref (b 13), .int 0, .int 0, .ref (b 16), .ref (b 17), .ref (b 18), .ref (b 19), .ref (b 20), .ref (b 21), .ref (b 22), .ref (b 23), .ref (b 24), .int 0, .ref (b 26), .ref (b 27), .ref (b 28), .ref (b 29), .ref (b 30), .ref (b 31), .ref (b 32), .int 0, .int 0, .ref (b 35), .ref (b 36), .ref (b 37), .ref (b 38), .ref (b 39), .ref (b 40), .int 0, .ref (b 42), .ref (b 43), .ref (b 44), .int 0, .ref (b 46), .ref (b 47), .int 0, .ref (b 49)])), (b 1, .inl (cB, 200, .inl (upd (upd (upd (upd f (Int32.toNatClampNeg 0) (vp_nar .byte (Int8.toInt32 (Int32.toInt8 (p0 >>> (24 &&& 31)))))) (Int32.toNatClampNeg 1) (vp_nar .byte (Int8.toInt32 (Int32.toInt8 (p0 >>> (16 &&& 31)))))) (Int32.toNatClampNeg 2) (vp_nar .byte (Int8.toInt32 (Int32.toInt8 (p0 >>> (8 &&& 31)))))) (Int32.toNatClampNeg 3) (vp_nar .byte (Int8.toInt32 (Int32.toInt8 p0))))))] H := hP
  have hD : va_D A [(b 0, .inr (8, [.ref (b 1), .int 0, .int 0, .int 0, .int 0, .int 0, .int 0, .int 0, .int (-1), .int (-1), .ref (b 11), .ref (b 12), .ref (b 13), .int 0, .int 0, .ref (b 16), .ref (b 17), .ref (b 18), .ref (b 19), .ref (b 20), .ref (b 21), .ref (b 22), .ref (b 23), .ref (b 24), .int 0, .ref (b 26), .ref (b 27), .ref (b 28), .ref (b 29), .ref (b 30), .ref (b 31), .ref (b 32), .int 0, .int 0, .ref (b 35), .ref (b 36), .ref (b 37), .ref (b 38), .ref (b 39), .ref (b 40), .int 0, .ref (b 42), .ref (b 43), .ref (b 44), .int 0, .ref (b 46), .ref (b 47), .int 0, .ref (b 49)])), (b 1, .inl (cB, 200, .inl (upd (upd (upd (upd f (Int32.toNatClampNeg 0) (vp_nar .byte (Int8.toInt32 (Int32.toInt8 (p0 >>> (24 &&& 31)))))) (Int32.toNatClampNeg 1) (vp_nar .byte (Int8.toInt32 (Int32.toInt8 (p0 >>> (16 &&& 31)))))) (Int32.toNatClampNeg 2) (vp_nar .byte (Int8.toInt32 (Int32.toInt8 (p0 >>> (8 &&& 31)))))) (Int32.toNatClampNeg 3) (vp_nar .byte (Int8.toInt32 (Int32.toInt8 p0))))))] := hD
  refine lv_aload_n hx hb dX8_put_59 rfl (lv_at hl 0 rfl) ?_
  refine lv_dup hx hb dX8_put_60 rfl ?_
  refine va_get (D := (dC, dI)) (ci := 8) (v := .int 0) (C := RX8) (T := TX8) (N := 49) hx hb hw zz_inX8 hown hK hP 0 rfl rfl 1 (by decide) (hw _ tw_113) (fun _ h9 => h9) rfl dX8_put_61 ?_
  refine lv_iconst (v := 4) hx hb dX8_put_64 (by decide) ?_
  refine lv_iadd hx hb dX8_put_65 ?_
  refine zz_seti 4 (by decide) ?_
  refine va_put (D := (dC, dI)) (ci := 8) (v := .int 4) (ty := .int) (C := RX8) (T := TX8) (N := 49) hx hb hw zz_inX8 tyX8 tyX8_ok nmX8 hown hK hP hD hS 0 rfl rfl 1 (by decide) (hw _ tw_113) (fun _ h9 => h9) rfl (by decide +kernel) rfl rfl (Nat.le_of_ble_eq_true rfl) dX8_put_66 (fun H locs hP hD hS => ?_)
  have hP : va_P (dC, dI) vwCl [(b 0, .inr (8, [.ref (b 1), .int 4, .int 0, .int 0, .int 0, .int 0, .int 0, .int 0, .int (-1), .int (-1), .ref (b 11), .ref (b 12), .ref (b 13), .int 0, .int 0, .ref (b 16), .ref (b 17), .ref (b 18), .ref (b 19), .ref (b 20), .ref (b 21), .ref (b 22), .ref (b 23), .ref (b 24), .int 0, .ref (b 26), .ref (b 27), .ref (b 28), .ref (b 29), .ref (b 30), .ref (b 31), .ref (b 32), .int 0, .int 0, .ref (b 35), .ref (b 36), .ref (b 37), .ref (b 38), .ref (b 39), .ref (b 40), .int 0, .ref (b 42), .ref (b 43), .ref (b 44), .int 0, .ref (b 46), .ref (b 47), .int 0, .ref (b 49)])), (b 1, .inl (cB, 200, .inl (upd (upd (upd (upd f (Int32.toNatClampNeg 0) (vp_nar .byte (Int8.toInt32 (Int32.toInt8 (p0 >>> (24 &&& 31)))))) (Int32.toNatClampNeg 1) (vp_nar .byte (Int8.toInt32 (Int32.toInt8 (p0 >>> (16 &&& 31)))))) (Int32.toNatClampNeg 2) (vp_nar .byte (Int8.toInt32 (Int32.toInt8 (p0 >>> (8 &&& 31)))))) (Int32.toNatClampNeg 3) (vp_nar .byte (Int8.toInt32 (Int32.toInt8 p0))))))] H := hP
  have hD : va_D A [(b 0, .inr (8, [.ref (b 1), .int 4, .int 0, .int 0, .int 0, .int 0, .int 0, .int 0, .int (-1), .int (-1), .ref (b 11), .ref (b 12), .ref (b 13), .int 0, .int 0, .ref (b 16), .ref (b 17), .ref (b 18), .ref (b 19), .ref (b 20), .ref (b 21), .ref (b 22), .ref (b 23), .ref (b 24), .int 0, .ref (b 26), .ref (b 27), .ref (b 28), .ref (b 29), .ref (b 30), .ref (b 31), .ref (b 32), .int 0, .int 0, .ref (b 35), .ref (b 36), .ref (b 37), .ref (b 38), .ref (b 39), .ref (b 40), .int 0, .ref (b 42), .ref (b 43), .ref (b 44), .int 0, .ref (b 46), .ref (b 47), .int 0, .ref (b 49)])), (b 1, .inl (cB, 200, .inl (upd (upd (upd (upd f (Int32.toNatClampNeg 0) (vp_nar .byte (Int8.toInt32 (Int32.toInt8 (p0 >>> (24 &&& 31)))))) (Int32.toNatClampNeg 1) (vp_nar .byte (Int8.toInt32 (Int32.toInt8 (p0 >>> (16 &&& 31)))))) (Int32.toNatClampNeg 2) (vp_nar .byte (Int8.toInt32 (Int32.toInt8 (p0 >>> (8 &&& 31)))))) (Int32.toNatClampNeg 3) (vp_nar .byte (Int8.toInt32 (Int32.toInt8 p0))))))] := hD
  have hP9 := hP.sub (ws' := [(b 0, .inr (8, [.ref (b 1), .int 4, .int 0, .int 0, .int 0, .int 0, .int 0, .int 0, .int (-1), .int (-1), .ref (b 11), .ref (b 12), .ref (b 13), .int 0, .int 0, .ref (b 16), .ref (b 17), .ref (b 18), .ref (b 19), .ref (b 20), .ref (b 21), .ref (b 22), .ref (b 23), .ref (b 24), .int 0, .ref (b 26), .ref (b 27), .ref (b 28), .ref (b 29), .ref (b 30), .ref (b 31), .ref (b 32), .int 0, .int 0, .ref (b 35), .ref (b 36), .ref (b 37), .ref (b 38), .ref (b 39), .ref (b 40), .int 0, .ref (b 42), .ref (b 43), .ref (b 44), .int 0, .ref (b 46), .ref (b 47), .int 0, .ref (b 49)])), (b 1, .inl (cB, 200, .inl (upd (upd (upd (upd f (Int32.toNatClampNeg 0) (vp_nar .byte (Int8.toInt32 (Int32.toInt8 (p0 >>> (24 &&& 31)))))) (Int32.toNatClampNeg 1) (vp_nar .byte (Int8.toInt32 (Int32.toInt8 (p0 >>> (16 &&& 31)))))) (Int32.toNatClampNeg 2) (vp_nar .byte (Int8.toInt32 (Int32.toInt8 (p0 >>> (8 &&& 31)))))) (Int32.toNatClampNeg 3) (vp_nar .byte (Int8.toInt32 (Int32.toInt8 p0))))))]) [0, 1] rfl
  have hD9 := hD.sub (ws' := [(b 0, .inr (8, [.ref (b 1), .int 4, .int 0, .int 0, .int 0, .int 0, .int 0, .int 0, .int (-1), .int (-1), .ref (b 11), .ref (b 12), .ref (b 13), .int 0, .int 0, .ref (b 16), .ref (b 17), .ref (b 18), .ref (b 19), .ref (b 20), .ref (b 21), .ref (b 22), .ref (b 23), .ref (b 24), .int 0, .ref (b 26), .ref (b 27), .ref (b 28), .ref (b 29), .ref (b 30), .ref (b 31), .ref (b 32), .int 0, .int 0, .ref (b 35), .ref (b 36), .ref (b 37), .ref (b 38), .ref (b 39), .ref (b 40), .int 0, .ref (b 42), .ref (b 43), .ref (b 44), .int 0, .ref (b 46), .ref (b 47), .int 0, .ref (b 49)])), (b 1, .inl (cB, 200, .inl (upd (upd (upd (upd f (Int32.toNatClampNeg 0) (vp_nar .byte (Int8.toInt32 (Int32.toInt8 (p0 >>> (24 &&& 31)))))) (Int32.toNatClampNeg 1) (vp_nar .byte (Int8.toInt32 (Int32.toInt8 (p0 >>> (16 &&& 31)))))) (Int32.toNatClampNeg 2) (vp_nar .byte (Int8.toInt32 (Int32.toInt8 (p0 >>> (8 &&& 31)))))) (Int32.toNatClampNeg 3) (vp_nar .byte (Int8.toInt32 (Int32.toInt8 p0))))))]) [0, 1] (by decide) rfl
  have hK9 := hK.sub (tys' := [(cB, .byte)]) [0] rfl
  exact W.vret hx hb hr (fun t ht hW => ⟨⟨((upd (upd (upd (upd f (Int32.toNatClampNeg 0) (vp_nar .byte (Int8.toInt32 (Int32.toInt8 (p0 >>> (24 &&& 31)))))) (Int32.toNatClampNeg 1) (vp_nar .byte (Int8.toInt32 (Int32.toInt8 (p0 >>> (16 &&& 31)))))) (Int32.toNatClampNeg 2) (vp_nar .byte (Int8.toInt32 (Int32.toInt8 (p0 >>> (8 &&& 31)))))) (Int32.toNatClampNeg 3) (vp_nar .byte (Int8.toInt32 (Int32.toInt8 p0))))), rfl, trivial, by rw [ht]; exact hP9, va_K.moved hW.alike hK9, hD9⟩, hS.F ht⟩) hS.2.2 dX8_put_69

set_option maxHeartbeats 4000000 in
set_option maxRecDepth 100000 in
theorem m_put4 (l : Launch) (dC : Nat → ClassId) (dI : Nat → Nat → Nat) (b : Nat → Nat) (cB : ClassId) (f : Nat → Int32) (p0 : Int32) (sz : Nat) : Met l yX8_put (zz_w yX8_put cX8_put 2 none) ({ frames := 0, cells := 0, slots := 0, locals := 0 }) (va_Pc [.ref (b 0), .int p0] (zz_B (dC, dI) sz [(b 0, .inr (8, [.ref (b 1), .int 4, .int 0, .int 0, .int 0, .int 0, .int 0, .int 0, .int (-1), .int (-1), .ref (b 11), .ref (b 12), .ref (b 13), .int 0, .int 0, .ref (b 16), .ref (b 17), .ref (b 18), .ref (b 19), .ref (b 20), .ref (b 21), .ref (b 22), .ref (b 23), .ref (b 24), .int 0, .ref (b 26), .ref (b 27), .ref (b 28), .ref (b 29), .ref (b 30), .ref (b 31), .ref (b 32), .int 0, .int 0, .ref (b 35), .ref (b 36), .ref (b 37), .ref (b 38), .ref (b 39), .ref (b 40), .int 0, .ref (b 42), .ref (b 43), .ref (b 44), .int 0, .ref (b 46), .ref (b 47), .int 0, .ref (b 49)])), (b 1, .inl (cB, 200, .inl f))] [(cB, .byte)])) (va_Qv (fun (_ : Nat → Int32) => True) (fun (u0 : Nat → Int32) (t : State) => va_P (dC, dI) vwCl [(b 0, .inr (8, [.ref (b 1), .int 8, .int 0, .int 0, .int 0, .int 0, .int 0, .int 0, .int (-1), .int (-1), .ref (b 11), .ref (b 12), .ref (b 13), .int 0, .int 0, .ref (b 16), .ref (b 17), .ref (b 18), .ref (b 19), .ref (b 20), .ref (b 21), .ref (b 22), .ref (b 23), .ref (b 24), .int 0, .ref (b 26), .ref (b 27), .ref (b 28), .ref (b 29), .ref (b 30), .ref (b 31), .ref (b 32), .int 0, .int 0, .ref (b 35), .ref (b 36), .ref (b 37), .ref (b 38), .ref (b 39), .ref (b 40), .int 0, .ref (b 42), .ref (b 43), .ref (b 44), .int 0, .ref (b 46), .ref (b 47), .int 0, .ref (b 49)])), (b 1, .inl (cB, 200, .inl u0))] t.heap ∧ va_K (dC, dI) vwCl [(cB, .byte)] t ∧ va_D (va_A [(b 0, .inr (8, [.ref (b 1), .int 4, .int 0, .int 0, .int 0, .int 0, .int 0, .int 0, .int (-1), .int (-1), .ref (b 11), .ref (b 12), .ref (b 13), .int 0, .int 0, .ref (b 16), .ref (b 17), .ref (b 18), .ref (b 19), .ref (b 20), .ref (b 21), .ref (b 22), .ref (b 23), .ref (b 24), .int 0, .ref (b 26), .ref (b 27), .ref (b 28), .ref (b 29), .ref (b 30), .ref (b 31), .ref (b 32), .int 0, .int 0, .ref (b 35), .ref (b 36), .ref (b 37), .ref (b 38), .ref (b 39), .ref (b 40), .int 0, .ref (b 42), .ref (b 43), .ref (b 44), .int 0, .ref (b 46), .ref (b 47), .int 0, .ref (b 49)])), (b 1, .inl (cB, 200, .inl f))] sz) [(b 0, .inr (8, [.ref (b 1), .int 8, .int 0, .int 0, .int 0, .int 0, .int 0, .int 0, .int (-1), .int (-1), .ref (b 11), .ref (b 12), .ref (b 13), .int 0, .int 0, .ref (b 16), .ref (b 17), .ref (b 18), .ref (b 19), .ref (b 20), .ref (b 21), .ref (b 22), .ref (b 23), .ref (b 24), .int 0, .ref (b 26), .ref (b 27), .ref (b 28), .ref (b 29), .ref (b 30), .ref (b 31), .ref (b 32), .int 0, .int 0, .ref (b 35), .ref (b 36), .ref (b 37), .ref (b 38), .ref (b 39), .ref (b 40), .int 0, .ref (b 42), .ref (b 43), .ref (b 44), .int 0, .ref (b 46), .ref (b 47), .int 0, .ref (b 49)])), (b 1, .inl (cB, 200, .inl u0))]) (va_A [(b 0, .inr (8, [.ref (b 1), .int 4, .int 0, .int 0, .int 0, .int 0, .int 0, .int 0, .int (-1), .int (-1), .ref (b 11), .ref (b 12), .ref (b 13), .int 0, .int 0, .ref (b 16), .ref (b 17), .ref (b 18), .ref (b 19), .ref (b 20), .ref (b 21), .ref (b 22), .ref (b 23), .ref (b 24), .int 0, .ref (b 26), .ref (b 27), .ref (b 28), .ref (b 29), .ref (b 30), .ref (b 31), .ref (b 32), .int 0, .int 0, .ref (b 35), .ref (b 36), .ref (b 37), .ref (b 38), .ref (b 39), .ref (b 40), .int 0, .ref (b 42), .ref (b 43), .ref (b 44), .int 0, .ref (b 46), .ref (b 47), .int 0, .ref (b 49)])), (b 1, .inl (cB, 200, .inl f))] sz)) 0 0 (va_A [(b 0, .inr (8, [.ref (b 1), .int 4, .int 0, .int 0, .int 0, .int 0, .int 0, .int 0, .int (-1), .int (-1), .ref (b 11), .ref (b 12), .ref (b 13), .int 0, .int 0, .ref (b 16), .ref (b 17), .ref (b 18), .ref (b 19), .ref (b 20), .ref (b 21), .ref (b 22), .ref (b 23), .ref (b 24), .int 0, .ref (b 26), .ref (b 27), .ref (b 28), .ref (b 29), .ref (b 30), .ref (b 31), .ref (b 32), .int 0, .int 0, .ref (b 35), .ref (b 36), .ref (b 37), .ref (b 38), .ref (b 39), .ref (b 40), .int 0, .ref (b 42), .ref (b 43), .ref (b 44), .int 0, .ref (b 46), .ref (b 47), .int 0, .ref (b 49)])), (b 1, .inl (cB, 200, .inl f))] sz) := by
  refine Met.ofW (cc := cX8_put) (maxL := 2) (ret := none) (by decide) rfl ?_
  intro p e s m args below meth c s₁ B hml hv
  obtain ⟨rfl, hsz, hP, hK, hD0, hN⟩ := hv
  have hx := B.exec
  have hb := B.bytes
  have hr := B.returns
  have hts := atoms_spec (ws := zz_w yX8_put cX8_put 2 none) B.pre
  have hw : ∀ w ∈ zz_all, w.before _ s = true := fun w h => hts w (List.mem_cons_of_mem _ h)
  have hown : s.vm.findClass RX8 = some m.cls := findClass_of_methodNamed B.named
  have hlocks := B.notSynchronized
  subst hsz
  have hD := hD0.self (sz := s.heap.size)
  generalize hAe : va_A [(b 0, .inr (8, [.ref (b 1), .int 4, .int 0, .int 0, .int 0, .int 0, .int 0, .int 0, .int (-1), .int (-1), .ref (b 11), .ref (b 12), .ref (b 13), .int 0, .int 0, .ref (b 16), .ref (b 17), .ref (b 18), .ref (b 19), .ref (b 20), .ref (b 21), .ref (b 22), .ref (b 23), .ref (b 24), .int 0, .ref (b 26), .ref (b 27), .ref (b 28), .ref (b 29), .ref (b 30), .ref (b 31), .ref (b 32), .int 0, .int 0, .ref (b 35), .ref (b 36), .ref (b 37), .ref (b 38), .ref (b 39), .ref (b 40), .int 0, .ref (b 42), .ref (b 43), .ref (b 44), .int 0, .ref (b 46), .ref (b 47), .int 0, .ref (b 49)])), (b 1, .inl (cB, 200, .inl f))] s.heap.size = A at hD ⊢
  have hA : ∀ q : Nat, s.heap.size ≤ q → A q := fun q h => by rw [← hAe]; exact Or.inr h
  have hS : va_S A s.heap s.heap [] := va_S.rf
  have hP : va_P (dC, dI) vwCl [(b 0, .inr (8, [.ref (b 1), .int 4, .int 0, .int 0, .int 0, .int 0, .int 0, .int 0, .int (-1), .int (-1), .ref (b 11), .ref (b 12), .ref (b 13), .int 0, .int 0, .ref (b 16), .ref (b 17), .ref (b 18), .ref (b 19), .ref (b 20), .ref (b 21), .ref (b 22), .ref (b 23), .ref (b 24), .int 0, .ref (b 26), .ref (b 27), .ref (b 28), .ref (b 29), .ref (b 30), .ref (b 31), .ref (b 32), .int 0, .int 0, .ref (b 35), .ref (b 36), .ref (b 37), .ref (b 38), .ref (b 39), .ref (b 40), .int 0, .ref (b 42), .ref (b 43), .ref (b 44), .int 0, .ref (b 46), .ref (b 47), .int 0, .ref (b 49)])), (b 1, .inl (cB, 200, .inl f))] s.heap := hP
  have hl := lv_entry ([.ref (b 0), .int p0]) (n := 2) (Nat.le_of_ble_eq_true rfl)
  rw [lg_entry_eq]
  generalize (lg_sl ([.ref (b 0), .int p0]) ++ List.replicate (2 - (lg_sl ([.ref (b 0), .int p0])).length) Slot.unset).toArray = ls at hl ⊢
  have hl : lv_has ls 2 [(0, .ref (b 0)), (1, .int p0)] := hl
  refine lv_aload_n hx hb dX8_put_0 rfl (lv_at hl 0 rfl) ?_
  refine va_get (D := (dC, dI)) (ci := 8) (v := .ref (b 1)) (C := RX8) (T := TX8) (N := 49) hx hb hw zz_inX8 hown hK hP 0 rfl rfl 0 (by decide) (hw _ tw_112) (fun _ h9 => h9) rfl dX8_put_1 ?_
  refine lv_aload_n hx hb dX8_put_4 rfl (lv_at hl 0 rfl) ?_
  refine va_get (D := (dC, dI)) (ci := 8) (v := .int 4) (C := RX8) (T := TX8) (N := 49) hx hb hw zz_inX8 hown hK hP 0 rfl rfl 1 (by decide) (hw _ tw_113) (fun _ h9 => h9) rfl dX8_put_5 ?_
  refine lv_iload_n hx hb dX8_put_8 rfl (lv_at hl 1 rfl) ?_
  refine lv_bipush (v := 24) hx hb dX8_put_9 (by decide) ?_
  refine lv_ishr hx hb dX8_put_11 ?_
  refine lv_i2b (v := (Int8.toInt32 (Int32.toInt8 (p0 >>> (24 &&& 31))))) hx hb dX8_put_12 rfl ?_
  refine va_bast hx hb hK hP hD hS 1 0 rfl rfl (zz_vin (by decide)) dX8_put_13 (fun H locs hP hD hS => ?_)
  have hP : va_P (dC, dI) vwCl [(b 0, .inr (8, [.ref (b 1), .int 4, .int 0, .int 0, .int 0, .int 0, .int 0, .int 0, .int (-1), .int (-1), .ref (b 11), .ref (b 12), .ref (b 13), .int 0, .int 0, .ref (b 16), .ref (b 17), .ref (b 18), .ref (b 19), .ref (b 20), .ref (b 21), .ref (b 22), .ref (b 23), .ref (b 24), .int 0, .ref (b 26), .ref (b 27), .ref (b 28), .ref (b 29), .ref (b 30), .ref (b 31), .ref (b 32), .int 0, .int 0, .ref (b 35), .ref (b 36), .ref (b 37), .ref (b 38), .ref (b 39), .ref (b 40), .int 0, .ref (b 42), .ref (b 43), .ref (b 44), .int 0, .ref (b 46), .ref (b 47), .int 0, .ref (b 49)])), (b 1, .inl (cB, 200, .inl (upd f (Int32.toNatClampNeg 4) (vp_nar .byte (Int8.toInt32 (Int32.toInt8 (p0 >>> (24 &&& 31))))))))] H := hP
  have hD : va_D A [(b 0, .inr (8, [.ref (b 1), .int 4, .int 0, .int 0, .int 0, .int 0, .int 0, .int 0, .int (-1), .int (-1), .ref (b 11), .ref (b 12), .ref (b 13), .int 0, .int 0, .ref (b 16), .ref (b 17), .ref (b 18), .ref (b 19), .ref (b 20), .ref (b 21), .ref (b 22), .ref (b 23), .ref (b 24), .int 0, .ref (b 26), .ref (b 27), .ref (b 28), .ref (b 29), .ref (b 30), .ref (b 31), .ref (b 32), .int 0, .int 0, .ref (b 35), .ref (b 36), .ref (b 37), .ref (b 38), .ref (b 39), .ref (b 40), .int 0, .ref (b 42), .ref (b 43), .ref (b 44), .int 0, .ref (b 46), .ref (b 47), .int 0, .ref (b 49)])), (b 1, .inl (cB, 200, .inl (upd f (Int32.toNatClampNeg 4) (vp_nar .byte (Int8.toInt32 (Int32.toInt8 (p0 >>> (24 &&& 31))))))))] := hD
  refine lv_aload_n hx hb dX8_put_14 rfl (lv_at hl 0 rfl) ?_
  refine va_get (D := (dC, dI)) (ci := 8) (v := .ref (b 1)) (C := RX8) (T := TX8) (N := 49) hx hb hw zz_inX8 hown hK hP 0 rfl rfl 0 (by decide) (hw _ tw_112) (fun _ h9 => h9) rfl dX8_put_15 ?_
  refine lv_aload_n hx hb dX8_put_18 rfl (lv_at hl 0 rfl) ?_
  refine va_get (D := (dC, dI)) (ci := 8) (v := .int 4) (C := RX8) (T := TX8) (N := 49) hx hb hw zz_inX8 hown hK hP 0 rfl rfl 1 (by decide) (hw _ tw_113) (fun _ h9 => h9) rfl dX8_put_19 ?_
  refine lv_iconst (v := 1) hx hb dX8_put_22 (by decide) ?_
  refine lv_iadd hx hb dX8_put_23 ?_
  refine zz_seti 5 (by decide) ?_
  refine lv_iload_n hx hb dX8_put_24 rfl (lv_at hl 1 rfl) ?_
  refine lv_bipush (v := 16) hx hb dX8_put_25 (by decide) ?_
  refine lv_ishr hx hb dX8_put_27 ?_
  refine lv_i2b (v := (Int8.toInt32 (Int32.toInt8 (p0 >>> (16 &&& 31))))) hx hb dX8_put_28 rfl ?_
  refine va_bast hx hb hK hP hD hS 1 0 rfl rfl (zz_vin (by decide)) dX8_put_29 (fun H locs hP hD hS => ?_)
  have hP : va_P (dC, dI) vwCl [(b 0, .inr (8, [.ref (b 1), .int 4, .int 0, .int 0, .int 0, .int 0, .int 0, .int 0, .int (-1), .int (-1), .ref (b 11), .ref (b 12), .ref (b 13), .int 0, .int 0, .ref (b 16), .ref (b 17), .ref (b 18), .ref (b 19), .ref (b 20), .ref (b 21), .ref (b 22), .ref (b 23), .ref (b 24), .int 0, .ref (b 26), .ref (b 27), .ref (b 28), .ref (b 29), .ref (b 30), .ref (b 31), .ref (b 32), .int 0, .int 0, .ref (b 35), .ref (b 36), .ref (b 37), .ref (b 38), .ref (b 39), .ref (b 40), .int 0, .ref (b 42), .ref (b 43), .ref (b 44), .int 0, .ref (b 46), .ref (b 47), .int 0, .ref (b 49)])), (b 1, .inl (cB, 200, .inl (upd (upd f (Int32.toNatClampNeg 4) (vp_nar .byte (Int8.toInt32 (Int32.toInt8 (p0 >>> (24 &&& 31)))))) (Int32.toNatClampNeg 5) (vp_nar .byte (Int8.toInt32 (Int32.toInt8 (p0 >>> (16 &&& 31))))))))] H := hP
  have hD : va_D A [(b 0, .inr (8, [.ref (b 1), .int 4, .int 0, .int 0, .int 0, .int 0, .int 0, .int 0, .int (-1), .int (-1), .ref (b 11), .ref (b 12), .ref (b 13), .int 0, .int 0, .ref (b 16), .ref (b 17), .ref (b 18), .ref (b 19), .ref (b 20), .ref (b 21), .ref (b 22), .ref (b 23), .ref (b 24), .int 0, .ref (b 26), .ref (b 27), .ref (b 28), .ref (b 29), .ref (b 30), .ref (b 31), .ref (b 32), .int 0, .int 0, .ref (b 35), .ref (b 36), .ref (b 37), .ref (b 38), .ref (b 39), .ref (b 40), .int 0, .ref (b 42), .ref (b 43), .ref (b 44), .int 0, .ref (b 46), .ref (b 47), .int 0, .ref (b 49)])), (b 1, .inl (cB, 200, .inl (upd (upd f (Int32.toNatClampNeg 4) (vp_nar .byte (Int8.toInt32 (Int32.toInt8 (p0 >>> (24 &&& 31)))))) (Int32.toNatClampNeg 5) (vp_nar .byte (Int8.toInt32 (Int32.toInt8 (p0 >>> (16 &&& 31))))))))] := hD
  refine lv_aload_n hx hb dX8_put_30 rfl (lv_at hl 0 rfl) ?_
  refine va_get (D := (dC, dI)) (ci := 8) (v := .ref (b 1)) (C := RX8) (T := TX8) (N := 49) hx hb hw zz_inX8 hown hK hP 0 rfl rfl 0 (by decide) (hw _ tw_112) (fun _ h9 => h9) rfl dX8_put_31 ?_
  refine lv_aload_n hx hb dX8_put_34 rfl (lv_at hl 0 rfl) ?_
  refine va_get (D := (dC, dI)) (ci := 8) (v := .int 4) (C := RX8) (T := TX8) (N := 49) hx hb hw zz_inX8 hown hK hP 0 rfl rfl 1 (by decide) (hw _ tw_113) (fun _ h9 => h9) rfl dX8_put_35 ?_
  refine lv_iconst (v := 2) hx hb dX8_put_38 (by decide) ?_
  refine lv_iadd hx hb dX8_put_39 ?_
  refine zz_seti 6 (by decide) ?_
  refine lv_iload_n hx hb dX8_put_40 rfl (lv_at hl 1 rfl) ?_
  refine lv_bipush (v := 8) hx hb dX8_put_41 (by decide) ?_
  refine lv_ishr hx hb dX8_put_43 ?_
  refine lv_i2b (v := (Int8.toInt32 (Int32.toInt8 (p0 >>> (8 &&& 31))))) hx hb dX8_put_44 rfl ?_
  refine va_bast hx hb hK hP hD hS 1 0 rfl rfl (zz_vin (by decide)) dX8_put_45 (fun H locs hP hD hS => ?_)
  have hP : va_P (dC, dI) vwCl [(b 0, .inr (8, [.ref (b 1), .int 4, .int 0, .int 0, .int 0, .int 0, .int 0, .int 0, .int (-1), .int (-1), .ref (b 11), .ref (b 12), .ref (b 13), .int 0, .int 0, .ref (b 16), .ref (b 17), .ref (b 18), .ref (b 19), .ref (b 20), .ref (b 21), .ref (b 22), .ref (b 23), .ref (b 24), .int 0, .ref (b 26), .ref (b 27), .ref (b 28), .ref (b 29), .ref (b 30), .ref (b 31), .ref (b 32), .int 0, .int 0, .ref (b 35), .ref (b 36), .ref (b 37), .ref (b 38), .ref (b 39), .ref (b 40), .int 0, .ref (b 42), .ref (b 43), .ref (b 44), .int 0, .ref (b 46), .ref (b 47), .int 0, .ref (b 49)])), (b 1, .inl (cB, 200, .inl (upd (upd (upd f (Int32.toNatClampNeg 4) (vp_nar .byte (Int8.toInt32 (Int32.toInt8 (p0 >>> (24 &&& 31)))))) (Int32.toNatClampNeg 5) (vp_nar .byte (Int8.toInt32 (Int32.toInt8 (p0 >>> (16 &&& 31)))))) (Int32.toNatClampNeg 6) (vp_nar .byte (Int8.toInt32 (Int32.toInt8 (p0 >>> (8 &&& 31))))))))] H := hP
  have hD : va_D A [(b 0, .inr (8, [.ref (b 1), .int 4, .int 0, .int 0, .int 0, .int 0, .int 0, .int 0, .int (-1), .int (-1), .ref (b 11), .ref (b 12), .ref (b 13), .int 0, .int 0, .ref (b 16), .ref (b 17), .ref (b 18), .ref (b 19), .ref (b 20), .ref (b 21), .ref (b 22), .ref (b 23), .ref (b 24), .int 0, .ref (b 26), .ref (b 27), .ref (b 28), .ref (b 29), .ref (b 30), .ref (b 31), .ref (b 32), .int 0, .int 0, .ref (b 35), .ref (b 36), .ref (b 37), .ref (b 38), .ref (b 39), .ref (b 40), .int 0, .ref (b 42), .ref (b 43), .ref (b 44), .int 0, .ref (b 46), .ref (b 47), .int 0, .ref (b 49)])), (b 1, .inl (cB, 200, .inl (upd (upd (upd f (Int32.toNatClampNeg 4) (vp_nar .byte (Int8.toInt32 (Int32.toInt8 (p0 >>> (24 &&& 31)))))) (Int32.toNatClampNeg 5) (vp_nar .byte (Int8.toInt32 (Int32.toInt8 (p0 >>> (16 &&& 31)))))) (Int32.toNatClampNeg 6) (vp_nar .byte (Int8.toInt32 (Int32.toInt8 (p0 >>> (8 &&& 31))))))))] := hD
  refine lv_aload_n hx hb dX8_put_46 rfl (lv_at hl 0 rfl) ?_
  refine va_get (D := (dC, dI)) (ci := 8) (v := .ref (b 1)) (C := RX8) (T := TX8) (N := 49) hx hb hw zz_inX8 hown hK hP 0 rfl rfl 0 (by decide) (hw _ tw_112) (fun _ h9 => h9) rfl dX8_put_47 ?_
  refine lv_aload_n hx hb dX8_put_50 rfl (lv_at hl 0 rfl) ?_
  refine va_get (D := (dC, dI)) (ci := 8) (v := .int 4) (C := RX8) (T := TX8) (N := 49) hx hb hw zz_inX8 hown hK hP 0 rfl rfl 1 (by decide) (hw _ tw_113) (fun _ h9 => h9) rfl dX8_put_51 ?_
  refine lv_iconst (v := 3) hx hb dX8_put_54 (by decide) ?_
  refine lv_iadd hx hb dX8_put_55 ?_
  refine zz_seti 7 (by decide) ?_
  refine lv_iload_n hx hb dX8_put_56 rfl (lv_at hl 1 rfl) ?_
  refine lv_i2b (v := (Int8.toInt32 (Int32.toInt8 p0))) hx hb dX8_put_57 rfl ?_
  refine va_bast hx hb hK hP hD hS 1 0 rfl rfl (zz_vin (by decide)) dX8_put_58 (fun H locs hP hD hS => ?_)
  have hP : va_P (dC, dI) vwCl [(b 0, .inr (8, [.ref (b 1), .int 4, .int 0, .int 0, .int 0, .int 0, .int 0, .int 0, .int (-1), .int (-1), .ref (b 11), .ref (b 12), .ref (b 13), .int 0, .int 0, .ref (b 16), .ref (b 17), .ref (b 18), .ref (b 19), .ref (b 20), .ref (b 21), .ref (b 22), .ref (b 23), .ref (b 24), .int 0, .ref (b 26), .ref (b 27), .ref (b 28), .ref (b 29), .ref (b 30), .ref (b 31), .ref (b 32), .int 0, .int 0, .ref (b 35), .ref (b 36), .ref (b 37), .ref (b 38), .ref (b 39), .ref (b 40), .int 0, .ref (b 42), .ref (b 43), .ref (b 44), .int 0, .ref (b 46), .ref (b 47), .int 0, .ref (b 49)])), (b 1, .inl (cB, 200, .inl (upd (upd (upd (upd f (Int32.toNatClampNeg 4) (vp_nar .byte (Int8.toInt32 (Int32.toInt8 (p0 >>> (24 &&& 31)))))) (Int32.toNatClampNeg 5) (vp_nar .byte (Int8.toInt32 (Int32.toInt8 (p0 >>> (16 &&& 31)))))) (Int32.toNatClampNeg 6) (vp_nar .byte (Int8.toInt32 (Int32.toInt8 (p0 >>> (8 &&& 31)))))) (Int32.toNatClampNeg 7) (vp_nar .byte (Int8.toInt32 (Int32.toInt8 p0))))))] H := hP
  have hD : va_D A [(b 0, .inr (8, [.ref (b 1), .int 4, .int 0, .int 0, .int 0, .int 0, .int 0, .int 0, .int (-1), .int (-1), .ref (b 11), .ref (b 12), .ref (b 13), .int 0, .int 0, .ref (b 16), .ref (b 17), .ref (b 18), .ref (b 19), .ref (b 20), .ref (b 21), .ref (b 22), .ref (b 23), .ref (b 24), .int 0, .ref (b 26), .ref (b 27), .ref (b 28), .ref (b 29), .ref (b 30), .ref (b 31), .ref (b 32), .int 0, .int 0, .ref (b 35), .ref (b 36), .ref (b 37), .ref (b 38), .ref (b 39), .ref (b 40), .int 0, .ref (b 42), .ref (b 43), .ref (b 44), .int 0, .ref (b 46), .ref (b 47), .int 0, .ref (b 49)])), (b 1, .inl (cB, 200, .inl (upd (upd (upd (upd f (Int32.toNatClampNeg 4) (vp_nar .byte (Int8.toInt32 (Int32.toInt8 (p0 >>> (24 &&& 31)))))) (Int32.toNatClampNeg 5) (vp_nar .byte (Int8.toInt32 (Int32.toInt8 (p0 >>> (16 &&& 31)))))) (Int32.toNatClampNeg 6) (vp_nar .byte (Int8.toInt32 (Int32.toInt8 (p0 >>> (8 &&& 31)))))) (Int32.toNatClampNeg 7) (vp_nar .byte (Int8.toInt32 (Int32.toInt8 p0))))))] := hD
  refine lv_aload_n hx hb dX8_put_59 rfl (lv_at hl 0 rfl) ?_
  refine lv_dup hx hb dX8_put_60 rfl ?_
  refine va_get (D := (dC, dI)) (ci := 8) (v := .int 4) (C := RX8) (T := TX8) (N := 49) hx hb hw zz_inX8 hown hK hP 0 rfl rfl 1 (by decide) (hw _ tw_113) (fun _ h9 => h9) rfl dX8_put_61 ?_
  refine lv_iconst (v := 4) hx hb dX8_put_64 (by decide) ?_
  refine lv_iadd hx hb dX8_put_65 ?_
  refine zz_seti 8 (by decide) ?_
  refine va_put (D := (dC, dI)) (ci := 8) (v := .int 8) (ty := .int) (C := RX8) (T := TX8) (N := 49) hx hb hw zz_inX8 tyX8 tyX8_ok nmX8 hown hK hP hD hS 0 rfl rfl 1 (by decide) (hw _ tw_113) (fun _ h9 => h9) rfl (by decide +kernel) rfl rfl (Nat.le_of_ble_eq_true rfl) dX8_put_66 (fun H locs hP hD hS => ?_)
  have hP : va_P (dC, dI) vwCl [(b 0, .inr (8, [.ref (b 1), .int 8, .int 0, .int 0, .int 0, .int 0, .int 0, .int 0, .int (-1), .int (-1), .ref (b 11), .ref (b 12), .ref (b 13), .int 0, .int 0, .ref (b 16), .ref (b 17), .ref (b 18), .ref (b 19), .ref (b 20), .ref (b 21), .ref (b 22), .ref (b 23), .ref (b 24), .int 0, .ref (b 26), .ref (b 27), .ref (b 28), .ref (b 29), .ref (b 30), .ref (b 31), .ref (b 32), .int 0, .int 0, .ref (b 35), .ref (b 36), .ref (b 37), .ref (b 38), .ref (b 39), .ref (b 40), .int 0, .ref (b 42), .ref (b 43), .ref (b 44), .int 0, .ref (b 46), .ref (b 47), .int 0, .ref (b 49)])), (b 1, .inl (cB, 200, .inl (upd (upd (upd (upd f (Int32.toNatClampNeg 4) (vp_nar .byte (Int8.toInt32 (Int32.toInt8 (p0 >>> (24 &&& 31)))))) (Int32.toNatClampNeg 5) (vp_nar .byte (Int8.toInt32 (Int32.toInt8 (p0 >>> (16 &&& 31)))))) (Int32.toNatClampNeg 6) (vp_nar .byte (Int8.toInt32 (Int32.toInt8 (p0 >>> (8 &&& 31)))))) (Int32.toNatClampNeg 7) (vp_nar .byte (Int8.toInt32 (Int32.toInt8 p0))))))] H := hP
  have hD : va_D A [(b 0, .inr (8, [.ref (b 1), .int 8, .int 0, .int 0, .int 0, .int 0, .int 0, .int 0, .int (-1), .int (-1), .ref (b 11), .ref (b 12), .ref (b 13), .int 0, .int 0, .ref (b 16), .ref (b 17), .ref (b 18), .ref (b 19), .ref (b 20), .ref (b 21), .ref (b 22), .ref (b 23), .ref (b 24), .int 0, .ref (b 26), .ref (b 27), .ref (b 28), .ref (b 29), .ref (b 30), .ref (b 31), .ref (b 32), .int 0, .int 0, .ref (b 35), .ref (b 36), .ref (b 37), .ref (b 38), .ref (b 39), .ref (b 40), .int 0, .ref (b 42), .ref (b 43), .ref (b 44), .int 0, .ref (b 46), .ref (b 47), .int 0, .ref (b 49)])), (b 1, .inl (cB, 200, .inl (upd (upd (upd (upd f (Int32.toNatClampNeg 4) (vp_nar .byte (Int8.toInt32 (Int32.toInt8 (p0 >>> (24 &&& 31)))))) (Int32.toNatClampNeg 5) (vp_nar .byte (Int8.toInt32 (Int32.toInt8 (p0 >>> (16 &&& 31)))))) (Int32.toNatClampNeg 6) (vp_nar .byte (Int8.toInt32 (Int32.toInt8 (p0 >>> (8 &&& 31)))))) (Int32.toNatClampNeg 7) (vp_nar .byte (Int8.toInt32 (Int32.toInt8 p0))))))] := hD
  have hP9 := hP.sub (ws' := [(b 0, .inr (8, [.ref (b 1), .int 8, .int 0, .int 0, .int 0, .int 0, .int 0, .int 0, .int (-1), .int (-1), .ref (b 11), .ref (b 12), .ref (b 13), .int 0, .int 0, .ref (b 16), .ref (b 17), .ref (b 18), .ref (b 19), .ref (b 20), .ref (b 21), .ref (b 22), .ref (b 23), .ref (b 24), .int 0, .ref (b 26), .ref (b 27), .ref (b 28), .ref (b 29), .ref (b 30), .ref (b 31), .ref (b 32), .int 0, .int 0, .ref (b 35), .ref (b 36), .ref (b 37), .ref (b 38), .ref (b 39), .ref (b 40), .int 0, .ref (b 42), .ref (b 43), .ref (b 44), .int 0, .ref (b 46), .ref (b 47), .int 0, .ref (b 49)])), (b 1, .inl (cB, 200, .inl (upd (upd (upd (upd f (Int32.toNatClampNeg 4) (vp_nar .byte (Int8.toInt32 (Int32.toInt8 (p0 >>> (24 &&& 31)))))) (Int32.toNatClampNeg 5) (vp_nar .byte (Int8.toInt32 (Int32.toInt8 (p0 >>> (16 &&& 31)))))) (Int32.toNatClampNeg 6) (vp_nar .byte (Int8.toInt32 (Int32.toInt8 (p0 >>> (8 &&& 31)))))) (Int32.toNatClampNeg 7) (vp_nar .byte (Int8.toInt32 (Int32.toInt8 p0))))))]) [0, 1] rfl
  have hD9 := hD.sub (ws' := [(b 0, .inr (8, [.ref (b 1), .int 8, .int 0, .int 0, .int 0, .int 0, .int 0, .int 0, .int (-1), .int (-1), .ref (b 11), .ref (b 12), .ref (b 13), .int 0, .int 0, .ref (b 16), .ref (b 17), .ref (b 18), .ref (b 19), .ref (b 20), .ref (b 21), .ref (b 22), .ref (b 23), .ref (b 24), .int 0, .ref (b 26), .ref (b 27), .ref (b 28), .ref (b 29), .ref (b 30), .ref (b 31), .ref (b 32), .int 0, .int 0, .ref (b 35), .ref (b 36), .ref (b 37), .ref (b 38), .ref (b 39), .ref (b 40), .int 0, .ref (b 42), .ref (b 43), .ref (b 44), .int 0, .ref (b 46), .ref (b 47), .int 0, .ref (b 49)])), (b 1, .inl (cB, 200, .inl (upd (upd (upd (upd f (Int32.toNatClampNeg 4) (vp_nar .byte (Int8.toInt32 (Int32.toInt8 (p0 >>> (24 &&& 31)))))) (Int32.toNatClampNeg 5) (vp_nar .byte (Int8.toInt32 (Int32.toInt8 (p0 >>> (16 &&& 31)))))) (Int32.toNatClampNeg 6) (vp_nar .byte (Int8.toInt32 (Int32.toInt8 (p0 >>> (8 &&& 31)))))) (Int32.toNatClampNeg 7) (vp_nar .byte (Int8.toInt32 (Int32.toInt8 p0))))))]) [0, 1] (by decide) rfl
  have hK9 := hK.sub (tys' := [(cB, .byte)]) [0] rfl
  exact W.vret hx hb hr (fun t ht hW => ⟨⟨((upd (upd (upd (upd f (Int32.toNatClampNeg 4) (vp_nar .byte (Int8.toInt32 (Int32.toInt8 (p0 >>> (24 &&& 31)))))) (Int32.toNatClampNeg 5) (vp_nar .byte (Int8.toInt32 (Int32.toInt8 (p0 >>> (16 &&& 31)))))) (Int32.toNatClampNeg 6) (vp_nar .byte (Int8.toInt32 (Int32.toInt8 (p0 >>> (8 &&& 31)))))) (Int32.toNatClampNeg 7) (vp_nar .byte (Int8.toInt32 (Int32.toInt8 p0))))), rfl, trivial, by rw [ht]; exact hP9, va_K.moved hW.alike hK9, hD9⟩, hS.F ht⟩) hS.2.2 dX8_put_69

set_option maxHeartbeats 4000000 in
set_option maxRecDepth 100000 in
theorem m_put8 (l : Launch) (dC : Nat → ClassId) (dI : Nat → Nat → Nat) (b : Nat → Nat) (cB : ClassId) (f : Nat → Int32) (p0 : Int32) (sz : Nat) : Met l yX8_put (zz_w yX8_put cX8_put 2 none) ({ frames := 0, cells := 0, slots := 0, locals := 0 }) (va_Pc [.ref (b 0), .int p0] (zz_B (dC, dI) sz [(b 0, .inr (8, [.ref (b 1), .int 8, .int 0, .int 0, .int 0, .int 0, .int 0, .int 0, .int (-1), .int (-1), .ref (b 11), .ref (b 12), .ref (b 13), .int 0, .int 0, .ref (b 16), .ref (b 17), .ref (b 18), .ref (b 19), .ref (b 20), .ref (b 21), .ref (b 22), .ref (b 23), .ref (b 24), .int 0, .ref (b 26), .ref (b 27), .ref (b 28), .ref (b 29), .ref (b 30), .ref (b 31), .ref (b 32), .int 0, .int 0, .ref (b 35), .ref (b 36), .ref (b 37), .ref (b 38), .ref (b 39), .ref (b 40), .int 0, .ref (b 42), .ref (b 43), .ref (b 44), .int 0, .ref (b 46), .ref (b 47), .int 0, .ref (b 49)])), (b 1, .inl (cB, 200, .inl f))] [(cB, .byte)])) (va_Qv (fun (_ : Nat → Int32) => True) (fun (u0 : Nat → Int32) (t : State) => va_P (dC, dI) vwCl [(b 0, .inr (8, [.ref (b 1), .int 12, .int 0, .int 0, .int 0, .int 0, .int 0, .int 0, .int (-1), .int (-1), .ref (b 11), .ref (b 12), .ref (b 13), .int 0, .int 0, .ref (b 16), .ref (b 17), .ref (b 18), .ref (b 19), .ref (b 20), .ref (b 21), .ref (b 22), .ref (b 23), .ref (b 24), .int 0, .ref (b 26), .ref (b 27), .ref (b 28), .ref (b 29), .ref (b 30), .ref (b 31), .ref (b 32), .int 0, .int 0, .ref (b 35), .ref (b 36), .ref (b 37), .ref (b 38), .ref (b 39), .ref (b 40), .int 0, .ref (b 42), .ref (b 43), .ref (b 44), .int 0, .ref (b 46), .ref (b 47), .int 0, .ref (b 49)])), (b 1, .inl (cB, 200, .inl u0))] t.heap ∧ va_K (dC, dI) vwCl [(cB, .byte)] t ∧ va_D (va_A [(b 0, .inr (8, [.ref (b 1), .int 8, .int 0, .int 0, .int 0, .int 0, .int 0, .int 0, .int (-1), .int (-1), .ref (b 11), .ref (b 12), .ref (b 13), .int 0, .int 0, .ref (b 16), .ref (b 17), .ref (b 18), .ref (b 19), .ref (b 20), .ref (b 21), .ref (b 22), .ref (b 23), .ref (b 24), .int 0, .ref (b 26), .ref (b 27), .ref (b 28), .ref (b 29), .ref (b 30), .ref (b 31), .ref (b 32), .int 0, .int 0, .ref (b 35), .ref (b 36), .ref (b 37), .ref (b 38), .ref (b 39), .ref (b 40), .int 0, .ref (b 42), .ref (b 43), .ref (b 44), .int 0, .ref (b 46), .ref (b 47), .int 0, .ref (b 49)])), (b 1, .inl (cB, 200, .inl f))] sz) [(b 0, .inr (8, [.ref (b 1), .int 12, .int 0, .int 0, .int 0, .int 0, .int 0, .int 0, .int (-1), .int (-1), .ref (b 11), .ref (b 12), .ref (b 13), .int 0, .int 0, .ref (b 16), .ref (b 17), .ref (b 18), .ref (b 19), .ref (b 20), .ref (b 21), .ref (b 22), .ref (b 23), .ref (b 24), .int 0, .ref (b 26), .ref (b 27), .ref (b 28), .ref (b 29), .ref (b 30), .ref (b 31), .ref (b 32), .int 0, .int 0, .ref (b 35), .ref (b 36), .ref (b 37), .ref (b 38), .ref (b 39), .ref (b 40), .int 0, .ref (b 42), .ref (b 43), .ref (b 44), .int 0, .ref (b 46), .ref (b 47), .int 0, .ref (b 49)])), (b 1, .inl (cB, 200, .inl u0))]) (va_A [(b 0, .inr (8, [.ref (b 1), .int 8, .int 0, .int 0, .int 0, .int 0, .int 0, .int 0, .int (-1), .int (-1), .ref (b 11), .ref (b 12), .ref (b 13), .int 0, .int 0, .ref (b 16), .ref (b 17), .ref (b 18), .ref (b 19), .ref (b 20), .ref (b 21), .ref (b 22), .ref (b 23), .ref (b 24), .int 0, .ref (b 26), .ref (b 27), .ref (b 28), .ref (b 29), .ref (b 30), .ref (b 31), .ref (b 32), .int 0, .int 0, .ref (b 35), .ref (b 36), .ref (b 37), .ref (b 38), .ref (b 39), .ref (b 40), .int 0, .ref (b 42), .ref (b 43), .ref (b 44), .int 0, .ref (b 46), .ref (b 47), .int 0, .ref (b 49)])), (b 1, .inl (cB, 200, .inl f))] sz)) 0 0 (va_A [(b 0, .inr (8, [.ref (b 1), .int 8, .int 0, .int 0, .int 0, .int 0, .int 0, .int 0, .int (-1), .int (-1), .ref (b 11), .ref (b 12), .ref (b 13), .int 0, .int 0, .ref (b 16), .ref (b 17), .ref (b 18), .ref (b 19), .ref (b 20), .ref (b 21), .ref (b 22), .ref (b 23), .ref (b 24), .int 0, .ref (b 26), .ref (b 27), .ref (b 28), .ref (b 29), .ref (b 30), .ref (b 31), .ref (b 32), .int 0, .int 0, .ref (b 35), .ref (b 36), .ref (b 37), .ref (b 38), .ref (b 39), .ref (b 40), .int 0, .ref (b 42), .ref (b 43), .ref (b 44), .int 0, .ref (b 46), .ref (b 47), .int 0, .ref (b 49)])), (b 1, .inl (cB, 200, .inl f))] sz) := by
  refine Met.ofW (cc := cX8_put) (maxL := 2) (ret := none) (by decide) rfl ?_
  intro p e s m args below meth c s₁ B hml hv
  obtain ⟨rfl, hsz, hP, hK, hD0, hN⟩ := hv
  have hx := B.exec
  have hb := B.bytes
  have hr := B.returns
  have hts := atoms_spec (ws := zz_w yX8_put cX8_put 2 none) B.pre
  have hw : ∀ w ∈ zz_all, w.before _ s = true := fun w h => hts w (List.mem_cons_of_mem _ h)
  have hown : s.vm.findClass RX8 = some m.cls := findClass_of_methodNamed B.named
  have hlocks := B.notSynchronized
  subst hsz
  have hD := hD0.self (sz := s.heap.size)
  generalize hAe : va_A [(b 0, .inr (8, [.ref (b 1), .int 8, .int 0, .int 0, .int 0, .int 0, .int 0, .int 0, .int (-1), .int (-1), .ref (b 11), .ref (b 12), .ref (b 13), .int 0, .int 0, .ref (b 16), .ref (b 17), .ref (b 18), .ref (b 19), .ref (b 20), .ref (b 21), .ref (b 22), .ref (b 23), .ref (b 24), .int 0, .ref (b 26), .ref (b 27), .ref (b 28), .ref (b 29), .ref (b 30), .ref (b 31), .ref (b 32), .int 0, .int 0, .ref (b 35), .ref (b 36), .ref (b 37), .ref (b 38), .ref (b 39), .ref (b 40), .int 0, .ref (b 42), .ref (b 43), .ref (b 44), .int 0, .ref (b 46), .ref (b 47), .int 0, .ref (b 49)])), (b 1, .inl (cB, 200, .inl f))] s.heap.size = A at hD ⊢
  have hA : ∀ q : Nat, s.heap.size ≤ q → A q := fun q h => by rw [← hAe]; exact Or.inr h
  have hS : va_S A s.heap s.heap [] := va_S.rf
  have hP : va_P (dC, dI) vwCl [(b 0, .inr (8, [.ref (b 1), .int 8, .int 0, .int 0, .int 0, .int 0, .int 0, .int 0, .int (-1), .int (-1), .ref (b 11), .ref (b 12), .ref (b 13), .int 0, .int 0, .ref (b 16), .ref (b 17), .ref (b 18), .ref (b 19), .ref (b 20), .ref (b 21), .ref (b 22), .ref (b 23), .ref (b 24), .int 0, .ref (b 26), .ref (b 27), .ref (b 28), .ref (b 29), .ref (b 30), .ref (b 31), .ref (b 32), .int 0, .int 0, .ref (b 35), .ref (b 36), .ref (b 37), .ref (b 38), .ref (b 39), .ref (b 40), .int 0, .ref (b 42), .ref (b 43), .ref (b 44), .int 0, .ref (b 46), .ref (b 47), .int 0, .ref (b 49)])), (b 1, .inl (cB, 200, .inl f))] s.heap := hP
  have hl := lv_entry ([.ref (b 0), .int p0]) (n := 2) (Nat.le_of_ble_eq_true rfl)
  rw [lg_entry_eq]
  generalize (lg_sl ([.ref (b 0), .int p0]) ++ List.replicate (2 - (lg_sl ([.ref (b 0), .int p0])).length) Slot.unset).toArray = ls at hl ⊢
  have hl : lv_has ls 2 [(0, .ref (b 0)), (1, .int p0)] := hl
  refine lv_aload_n hx hb dX8_put_0 rfl (lv_at hl 0 rfl) ?_
  refine va_get (D := (dC, dI)) (ci := 8) (v := .ref (b 1)) (C := RX8) (T := TX8) (N := 49) hx hb hw zz_inX8 hown hK hP 0 rfl rfl 0 (by decide) (hw _ tw_112) (fun _ h9 => h9) rfl dX8_put_1 ?_
  refine lv_aload_n hx hb dX8_put_4 rfl (lv_at hl 0 rfl) ?_
  refine va_get (D := (dC, dI)) (ci := 8) (v := .int 8) (C := RX8) (T := TX8) (N := 49) hx hb hw zz_inX8 hown hK hP 0 rfl rfl 1 (by decide) (hw _ tw_113) (fun _ h9 => h9) rfl dX8_put_5 ?_
  refine lv_iload_n hx hb dX8_put_8 rfl (lv_at hl 1 rfl) ?_
  refine lv_bipush (v := 24) hx hb dX8_put_9 (by decide) ?_
  refine lv_ishr hx hb dX8_put_11 ?_
  refine lv_i2b (v := (Int8.toInt32 (Int32.toInt8 (p0 >>> (24 &&& 31))))) hx hb dX8_put_12 rfl ?_
  refine va_bast hx hb hK hP hD hS 1 0 rfl rfl (zz_vin (by decide)) dX8_put_13 (fun H locs hP hD hS => ?_)
  have hP : va_P (dC, dI) vwCl [(b 0, .inr (8, [.ref (b 1), .int 8, .int 0, .int 0, .int 0, .int 0, .int 0, .int 0, .int (-1), .int (-1), .ref (b 11), .ref (b 12), .ref (b 13), .int 0, .int 0, .ref (b 16), .ref (b 17), .ref (b 18), .ref (b 19), .ref (b 20), .ref (b 21), .ref (b 22), .ref (b 23), .ref (b 24), .int 0, .ref (b 26), .ref (b 27), .ref (b 28), .ref (b 29), .ref (b 30), .ref (b 31), .ref (b 32), .int 0, .int 0, .ref (b 35), .ref (b 36), .ref (b 37), .ref (b 38), .ref (b 39), .ref (b 40), .int 0, .ref (b 42), .ref (b 43), .ref (b 44), .int 0, .ref (b 46), .ref (b 47), .int 0, .ref (b 49)])), (b 1, .inl (cB, 200, .inl (upd f (Int32.toNatClampNeg 8) (vp_nar .byte (Int8.toInt32 (Int32.toInt8 (p0 >>> (24 &&& 31))))))))] H := hP
  have hD : va_D A [(b 0, .inr (8, [.ref (b 1), .int 8, .int 0, .int 0, .int 0, .int 0, .int 0, .int 0, .int (-1), .int (-1), .ref (b 11), .ref (b 12), .ref (b 13), .int 0, .int 0, .ref (b 16), .ref (b 17), .ref (b 18), .ref (b 19), .ref (b 20), .ref (b 21), .ref (b 22), .ref (b 23), .ref (b 24), .int 0, .ref (b 26), .ref (b 27), .ref (b 28), .ref (b 29), .ref (b 30), .ref (b 31), .ref (b 32), .int 0, .int 0, .ref (b 35), .ref (b 36), .ref (b 37), .ref (b 38), .ref (b 39), .ref (b 40), .int 0, .ref (b 42), .ref (b 43), .ref (b 44), .int 0, .ref (b 46), .ref (b 47), .int 0, .ref (b 49)])), (b 1, .inl (cB, 200, .inl (upd f (Int32.toNatClampNeg 8) (vp_nar .byte (Int8.toInt32 (Int32.toInt8 (p0 >>> (24 &&& 31))))))))] := hD
  refine lv_aload_n hx hb dX8_put_14 rfl (lv_at hl 0 rfl) ?_
  refine va_get (D := (dC, dI)) (ci := 8) (v := .ref (b 1)) (C := RX8) (T := TX8) (N := 49) hx hb hw zz_inX8 hown hK hP 0 rfl rfl 0 (by decide) (hw _ tw_112) (fun _ h9 => h9) rfl dX8_put_15 ?_
  refine lv_aload_n hx hb dX8_put_18 rfl (lv_at hl 0 rfl) ?_
  refine va_get (D := (dC, dI)) (ci := 8) (v := .int 8) (C := RX8) (T := TX8) (N := 49) hx hb hw zz_inX8 hown hK hP 0 rfl rfl 1 (by decide) (hw _ tw_113) (fun _ h9 => h9) rfl dX8_put_19 ?_
  refine lv_iconst (v := 1) hx hb dX8_put_22 (by decide) ?_
  refine lv_iadd hx hb dX8_put_23 ?_
  refine zz_seti 9 (by decide) ?_
  refine lv_iload_n hx hb dX8_put_24 rfl (lv_at hl 1 rfl) ?_
  refine lv_bipush (v := 16) hx hb dX8_put_25 (by decide) ?_
  refine lv_ishr hx hb dX8_put_27 ?_
  refine lv_i2b (v := (Int8.toInt32 (Int32.toInt8 (p0 >>> (16 &&& 31))))) hx hb dX8_put_28 rfl ?_
  refine va_bast hx hb hK hP hD hS 1 0 rfl rfl (zz_vin (by decide)) dX8_put_29 (fun H locs hP hD hS => ?_)
  have hP : va_P (dC, dI) vwCl [(b 0, .inr (8, [.ref (b 1), .int 8, .int 0, .int 0, .int 0, .int 0, .int 0, .int 0, .int (-1), .int (-1), .ref (b 11), .ref (b 12), .ref (b 13), .int 0, .int 0, .ref (b 16), .ref (b 17), .ref (b 18), .ref (b 19), .ref (b 20), .ref (b 21), .ref (b 22), .ref (b 23), .ref (b 24), .int 0, .ref (b 26), .ref (b 27), .ref (b 28), .ref (b 29), .ref (b 30), .ref (b 31), .ref (b 32), .int 0, .int 0, .ref (b 35), .ref (b 36), .ref (b 37), .ref (b 38), .ref (b 39), .ref (b 40), .int 0, .ref (b 42), .ref (b 43), .ref (b 44), .int 0, .ref (b 46), .ref (b 47), .int 0, .ref (b 49)])), (b 1, .inl (cB, 200, .inl (upd (upd f (Int32.toNatClampNeg 8) (vp_nar .byte (Int8.toInt32 (Int32.toInt8 (p0 >>> (24 &&& 31)))))) (Int32.toNatClampNeg 9) (vp_nar .byte (Int8.toInt32 (Int32.toInt8 (p0 >>> (16 &&& 31))))))))] H := hP
  have hD : va_D A [(b 0, .inr (8, [.ref (b 1), .int 8, .int 0, .int 0, .int 0, .int 0, .int 0, .int 0, .int (-1), .int (-1), .ref (b 11), .ref (b 12), .ref (b 13), .int 0, .int 0, .ref (b 16), .ref (b 17), .ref (b 18), .ref (b 19), .ref (b 20), .ref (b 21), .ref (b 22), .ref (b 23), .ref (b 24), .int 0, .ref (b 26), .ref (b 27), .ref (b 28), .ref (b 29), .ref (b 30), .ref (b 31), .ref (b 32), .int 0, .int 0, .ref (b 35), .ref (b 36), .ref (b 37), .ref (b 38), .ref (b 39), .ref (b 40), .int 0, .ref (b 42), .ref (b 43), .ref (b 44), .int 0, .ref (b 46), .ref (b 47), .int 0, .ref (b 49)])), (b 1, .inl (cB, 200, .inl (upd (upd f (Int32.toNatClampNeg 8) (vp_nar .byte (Int8.toInt32 (Int32.toInt8 (p0 >>> (24 &&& 31)))))) (Int32.toNatClampNeg 9) (vp_nar .byte (Int8.toInt32 (Int32.toInt8 (p0 >>> (16 &&& 31))))))))] := hD
  refine lv_aload_n hx hb dX8_put_30 rfl (lv_at hl 0 rfl) ?_
  refine va_get (D := (dC, dI)) (ci := 8) (v := .ref (b 1)) (C := RX8) (T := TX8) (N := 49) hx hb hw zz_inX8 hown hK hP 0 rfl rfl 0 (by decide) (hw _ tw_112) (fun _ h9 => h9) rfl dX8_put_31 ?_
  refine lv_aload_n hx hb dX8_put_34 rfl (lv_at hl 0 rfl) ?_
  refine va_get (D := (dC, dI)) (ci := 8) (v := .int 8) (C := RX8) (T := TX8) (N := 49) hx hb hw zz_inX8 hown hK hP 0 rfl rfl 1 (by decide) (hw _ tw_113) (fun _ h9 => h9) rfl dX8_put_35 ?_
  refine lv_iconst (v := 2) hx hb dX8_put_38 (by decide) ?_
  refine lv_iadd hx hb dX8_put_39 ?_
  refine zz_seti 10 (by decide) ?_
  refine lv_iload_n hx hb dX8_put_40 rfl (lv_at hl 1 rfl) ?_
  refine lv_bipush (v := 8) hx hb dX8_put_41 (by decide) ?_
  refine lv_ishr hx hb dX8_put_43 ?_
  refine lv_i2b (v := (Int8.toInt32 (Int32.toInt8 (p0 >>> (8 &&& 31))))) hx hb dX8_put_44 rfl ?_
  refine va_bast hx hb hK hP hD hS 1 0 rfl rfl (zz_vin (by decide)) dX8_put_45 (fun H locs hP hD hS => ?_)
  have hP : va_P (dC, dI) vwCl [(b 0, .inr (8, [.ref (b 1), .int 8, .int 0, .int 0, .int 0, .int 0, .int 0, .int 0, .int (-1), .int (-1), .ref (b 11), .ref (b 12), .ref (b 13), .int 0, .int 0, .ref (b 16), .ref (b 17), .ref (b 18), .ref (b 19), .ref (b 20), .ref (b 21), .ref (b 22), .ref (b 23), .ref (b 24), .int 0, .ref (b 26), .ref (b 27), .ref (b 28), .ref (b 29), .ref (b 30), .ref (b 31), .ref (b 32), .int 0, .int 0, .ref (b 35), .ref (b 36), .ref (b 37), .ref (b 38), .ref (b 39), .ref (b 40), .int 0, .ref (b 42), .ref (b 43), .ref (b 44), .int 0, .ref (b 46), .ref (b 47), .int 0, .ref (b 49)])), (b 1, .inl (cB, 200, .inl (upd (upd (upd f (Int32.toNatClampNeg 8) (vp_nar .byte (Int8.toInt32 (Int32.toInt8 (p0 >>> (24 &&& 31)))))) (Int32.toNatClampNeg 9) (vp_nar .byte (Int8.toInt32 (Int32.toInt8 (p0 >>> (16 &&& 31)))))) (Int32.toNatClampNeg 10) (vp_nar .byte (Int8.toInt32 (Int32.toInt8 (p0 >>> (8 &&& 31))))))))] H := hP
  have hD : va_D A [(b 0, .inr (8, [.ref (b 1), .int 8, .int 0, .int 0, .int 0, .int 0, .int 0, .int 0, .int (-1), .int (-1), .ref (b 11), .ref (b 12), .ref (b 13), .int 0, .int 0, .ref (b 16), .ref (b 17), .ref (b 18), .ref (b 19), .ref (b 20), .ref (b 21), .ref (b 22), .ref (b 23), .ref (b 24), .int 0, .ref (b 26), .ref (b 27), .ref (b 28), .ref (b 29), .ref (b 30), .ref (b 31), .ref (b 32), .int 0, .int 0, .ref (b 35), .ref (b 36), .ref (b 37), .ref (b 38), .ref (b 39), .ref (b 40), .int 0, .ref (b 42), .ref (b 43), .ref (b 44), .int 0, .ref (b 46), .ref (b 47), .int 0, .ref (b 49)])), (b 1, .inl (cB, 200, .inl (upd (upd (upd f (Int32.toNatClampNeg 8) (vp_nar .byte (Int8.toInt32 (Int32.toInt8 (p0 >>> (24 &&& 31)))))) (Int32.toNatClampNeg 9) (vp_nar .byte (Int8.toInt32 (Int32.toInt8 (p0 >>> (16 &&& 31)))))) (Int32.toNatClampNeg 10) (vp_nar .byte (Int8.toInt32 (Int32.toInt8 (p0 >>> (8 &&& 31))))))))] := hD
  refine lv_aload_n hx hb dX8_put_46 rfl (lv_at hl 0 rfl) ?_
  refine va_get (D := (dC, dI)) (ci := 8) (v := .ref (b 1)) (C := RX8) (T := TX8) (N := 49) hx hb hw zz_inX8 hown hK hP 0 rfl rfl 0 (by decide) (hw _ tw_112) (fun _ h9 => h9) rfl dX8_put_47 ?_
  refine lv_aload_n hx hb dX8_put_50 rfl (lv_at hl 0 rfl) ?_
  refine va_get (D := (dC, dI)) (ci := 8) (v := .int 8) (C := RX8) (T := TX8) (N := 49) hx hb hw zz_inX8 hown hK hP 0 rfl rfl 1 (by decide) (hw _ tw_113) (fun _ h9 => h9) rfl dX8_put_51 ?_
  refine lv_iconst (v := 3) hx hb dX8_put_54 (by decide) ?_
  refine lv_iadd hx hb dX8_put_55 ?_
  refine zz_seti 11 (by decide) ?_
  refine lv_iload_n hx hb dX8_put_56 rfl (lv_at hl 1 rfl) ?_
  refine lv_i2b (v := (Int8.toInt32 (Int32.toInt8 p0))) hx hb dX8_put_57 rfl ?_
  refine va_bast hx hb hK hP hD hS 1 0 rfl rfl (zz_vin (by decide)) dX8_put_58 (fun H locs hP hD hS => ?_)
  have hP : va_P (dC, dI) vwCl [(b 0, .inr (8, [.ref (b 1), .int 8, .int 0, .int 0, .int 0, .int 0, .int 0, .int 0, .int (-1), .int (-1), .ref (b 11), .ref (b 12), .ref (b 13), .int 0, .int 0, .ref (b 16), .ref (b 17), .ref (b 18), .ref (b 19), .ref (b 20), .ref (b 21), .ref (b 22), .ref (b 23), .ref (b 24), .int 0, .ref (b 26), .ref (b 27), .ref (b 28), .ref (b 29), .ref (b 30), .ref (b 31), .ref (b 32), .int 0, .int 0, .ref (b 35), .ref (b 36), .ref (b 37), .ref (b 38), .ref (b 39), .ref (b 40), .int 0, .ref (b 42), .ref (b 43), .ref (b 44), .int 0, .ref (b 46), .ref (b 47), .int 0, .ref (b 49)])), (b 1, .inl (cB, 200, .inl (upd (upd (upd (upd f (Int32.toNatClampNeg 8) (vp_nar .byte (Int8.toInt32 (Int32.toInt8 (p0 >>> (24 &&& 31)))))) (Int32.toNatClampNeg 9) (vp_nar .byte (Int8.toInt32 (Int32.toInt8 (p0 >>> (16 &&& 31)))))) (Int32.toNatClampNeg 10) (vp_nar .byte (Int8.toInt32 (Int32.toInt8 (p0 >>> (8 &&& 31)))))) (Int32.toNatClampNeg 11) (vp_nar .byte (Int8.toInt32 (Int32.toInt8 p0))))))] H := hP
  have hD : va_D A [(b 0, .inr (8, [.ref (b 1), .int 8, .int 0, .int 0, .int 0, .int 0, .int 0, .int 0, .int (-1), .int (-1), .ref (b 11), .ref (b 12), .ref (b 13), .int 0, .int 0, .ref (b 16), .ref (b 17), .ref (b 18), .ref (b 19), .ref (b 20), .ref (b 21), .ref (b 22), .ref (b 23), .ref (b 24), .int 0, .ref (b 26), .ref (b 27), .ref (b 28), .ref (b 29), .ref (b 30), .ref (b 31), .ref (b 32), .int 0, .int 0, .ref (b 35), .ref (b 36), .ref (b 37), .ref (b 38), .ref (b 39), .ref (b 40), .int 0, .ref (b 42), .ref (b 43), .ref (b 44), .int 0, .ref (b 46), .ref (b 47), .int 0, .ref (b 49)])), (b 1, .inl (cB, 200, .inl (upd (upd (upd (upd f (Int32.toNatClampNeg 8) (vp_nar .byte (Int8.toInt32 (Int32.toInt8 (p0 >>> (24 &&& 31)))))) (Int32.toNatClampNeg 9) (vp_nar .byte (Int8.toInt32 (Int32.toInt8 (p0 >>> (16 &&& 31)))))) (Int32.toNatClampNeg 10) (vp_nar .byte (Int8.toInt32 (Int32.toInt8 (p0 >>> (8 &&& 31)))))) (Int32.toNatClampNeg 11) (vp_nar .byte (Int8.toInt32 (Int32.toInt8 p0))))))] := hD
  refine lv_aload_n hx hb dX8_put_59 rfl (lv_at hl 0 rfl) ?_
  refine lv_dup hx hb dX8_put_60 rfl ?_
  refine va_get (D := (dC, dI)) (ci := 8) (v := .int 8) (C := RX8) (T := TX8) (N := 49) hx hb hw zz_inX8 hown hK hP 0 rfl rfl 1 (by decide) (hw _ tw_113) (fun _ h9 => h9) rfl dX8_put_61 ?_
  refine lv_iconst (v := 4) hx hb dX8_put_64 (by decide) ?_
  refine lv_iadd hx hb dX8_put_65 ?_
  refine zz_seti 12 (by decide) ?_
  refine va_put (D := (dC, dI)) (ci := 8) (v := .int 12) (ty := .int) (C := RX8) (T := TX8) (N := 49) hx hb hw zz_inX8 tyX8 tyX8_ok nmX8 hown hK hP hD hS 0 rfl rfl 1 (by decide) (hw _ tw_113) (fun _ h9 => h9) rfl (by decide +kernel) rfl rfl (Nat.le_of_ble_eq_true rfl) dX8_put_66 (fun H locs hP hD hS => ?_)
  have hP : va_P (dC, dI) vwCl [(b 0, .inr (8, [.ref (b 1), .int 12, .int 0, .int 0, .int 0, .int 0, .int 0, .int 0, .int (-1), .int (-1), .ref (b 11), .ref (b 12), .ref (b 13), .int 0, .int 0, .ref (b 16), .ref (b 17), .ref (b 18), .ref (b 19), .ref (b 20), .ref (b 21), .ref (b 22), .ref (b 23), .ref (b 24), .int 0, .ref (b 26), .ref (b 27), .ref (b 28), .ref (b 29), .ref (b 30), .ref (b 31), .ref (b 32), .int 0, .int 0, .ref (b 35), .ref (b 36), .ref (b 37), .ref (b 38), .ref (b 39), .ref (b 40), .int 0, .ref (b 42), .ref (b 43), .ref (b 44), .int 0, .ref (b 46), .ref (b 47), .int 0, .ref (b 49)])), (b 1, .inl (cB, 200, .inl (upd (upd (upd (upd f (Int32.toNatClampNeg 8) (vp_nar .byte (Int8.toInt32 (Int32.toInt8 (p0 >>> (24 &&& 31)))))) (Int32.toNatClampNeg 9) (vp_nar .byte (Int8.toInt32 (Int32.toInt8 (p0 >>> (16 &&& 31)))))) (Int32.toNatClampNeg 10) (vp_nar .byte (Int8.toInt32 (Int32.toInt8 (p0 >>> (8 &&& 31)))))) (Int32.toNatClampNeg 11) (vp_nar .byte (Int8.toInt32 (Int32.toInt8 p0))))))] H := hP
  have hD : va_D A [(b 0, .inr (8, [.ref (b 1), .int 12, .int 0, .int 0, .int 0, .int 0, .int 0, .int 0, .int (-1), .int (-1), .ref (b 11), .ref (b 12), .ref (b 13), .int 0, .int 0, .ref (b 16), .ref (b 17), .ref (b 18), .ref (b 19), .ref (b 20), .ref (b 21), .ref (b 22), .ref (b 23), .ref (b 24), .int 0, .ref (b 26), .ref (b 27), .ref (b 28), .ref (b 29), .ref (b 30), .ref (b 31), .ref (b 32), .int 0, .int 0, .ref (b 35), .ref (b 36), .ref (b 37), .ref (b 38), .ref (b 39), .ref (b 40), .int 0, .ref (b 42), .ref (b 43), .ref (b 44), .int 0, .ref (b 46), .ref (b 47), .int 0, .ref (b 49)])), (b 1, .inl (cB, 200, .inl (upd (upd (upd (upd f (Int32.toNatClampNeg 8) (vp_nar .byte (Int8.toInt32 (Int32.toInt8 (p0 >>> (24 &&& 31)))))) (Int32.toNatClampNeg 9) (vp_nar .byte (Int8.toInt32 (Int32.toInt8 (p0 >>> (16 &&& 31)))))) (Int32.toNatClampNeg 10) (vp_nar .byte (Int8.toInt32 (Int32.toInt8 (p0 >>> (8 &&& 31)))))) (Int32.toNatClampNeg 11) (vp_nar .byte (Int8.toInt32 (Int32.toInt8 p0))))))] := hD
  have hP9 := hP.sub (ws' := [(b 0, .inr (8, [.ref (b 1), .int 12, .int 0, .int 0, .int 0, .int 0, .int 0, .int 0, .int (-1), .int (-1), .ref (b 11), .ref (b 12), .ref (b 13), .int 0, .int 0, .ref (b 16), .ref (b 17), .ref (b 18), .ref (b 19), .ref (b 20), .ref (b 21), .ref (b 22), .ref (b 23), .ref (b 24), .int 0, .ref (b 26), .ref (b 27), .ref (b 28), .ref (b 29), .ref (b 30), .ref (b 31), .ref (b 32), .int 0, .int 0, .ref (b 35), .ref (b 36), .ref (b 37), .ref (b 38), .ref (b 39), .ref (b 40), .int 0, .ref (b 42), .ref (b 43), .ref (b 44), .int 0, .ref (b 46), .ref (b 47), .int 0, .ref (b 49)])), (b 1, .inl (cB, 200, .inl (upd (upd (upd (upd f (Int32.toNatClampNeg 8) (vp_nar .byte (Int8.toInt32 (Int32.toInt8 (p0 >>> (24 &&& 31)))))) (Int32.toNatClampNeg 9) (vp_nar .byte (Int8.toInt32 (Int32.toInt8 (p0 >>> (16 &&& 31)))))) (Int32.toNatClampNeg 10) (vp_nar .byte (Int8.toInt32 (Int32.toInt8 (p0 >>> (8 &&& 31)))))) (Int32.toNatClampNeg 11) (vp_nar .byte (Int8.toInt32 (Int32.toInt8 p0))))))]) [0, 1] rfl
  have hD9 := hD.sub (ws' := [(b 0, .inr (8, [.ref (b 1), .int 12, .int 0, .int 0, .int 0, .int 0, .int 0, .int 0, .int (-1), .int (-1), .ref (b 11), .ref (b 12), .ref (b 13), .int 0, .int 0, .ref (b 16), .ref (b 17), .ref (b 18), .ref (b 19), .ref (b 20), .ref (b 21), .ref (b 22), .ref (b 23), .ref (b 24), .int 0, .ref (b 26), .ref (b 27), .ref (b 28), .ref (b 29), .ref (b 30), .ref (b 31), .ref (b 32), .int 0, .int 0, .ref (b 35), .ref (b 36), .ref (b 37), .ref (b 38), .ref (b 39), .ref (b 40), .int 0, .ref (b 42), .ref (b 43), .ref (b 44), .int 0, .ref (b 46), .ref (b 47), .int 0, .ref (b 49)])), (b 1, .inl (cB, 200, .inl (upd (upd (upd (upd f (Int32.toNatClampNeg 8) (vp_nar .byte (Int8.toInt32 (Int32.toInt8 (p0 >>> (24 &&& 31)))))) (Int32.toNatClampNeg 9) (vp_nar .byte (Int8.toInt32 (Int32.toInt8 (p0 >>> (16 &&& 31)))))) (Int32.toNatClampNeg 10) (vp_nar .byte (Int8.toInt32 (Int32.toInt8 (p0 >>> (8 &&& 31)))))) (Int32.toNatClampNeg 11) (vp_nar .byte (Int8.toInt32 (Int32.toInt8 p0))))))]) [0, 1] (by decide) rfl
  have hK9 := hK.sub (tys' := [(cB, .byte)]) [0] rfl
  exact W.vret hx hb hr (fun t ht hW => ⟨⟨((upd (upd (upd (upd f (Int32.toNatClampNeg 8) (vp_nar .byte (Int8.toInt32 (Int32.toInt8 (p0 >>> (24 &&& 31)))))) (Int32.toNatClampNeg 9) (vp_nar .byte (Int8.toInt32 (Int32.toInt8 (p0 >>> (16 &&& 31)))))) (Int32.toNatClampNeg 10) (vp_nar .byte (Int8.toInt32 (Int32.toInt8 (p0 >>> (8 &&& 31)))))) (Int32.toNatClampNeg 11) (vp_nar .byte (Int8.toInt32 (Int32.toInt8 p0))))), rfl, trivial, by rw [ht]; exact hP9, va_K.moved hW.alike hK9, hD9⟩, hS.F ht⟩) hS.2.2 dX8_put_69

set_option maxHeartbeats 4000000 in
set_option maxRecDepth 100000 in
theorem m_put12 (l : Launch) (dC : Nat → ClassId) (dI : Nat → Nat → Nat) (b : Nat → Nat) (cB : ClassId) (f : Nat → Int32) (p0 : Int32) (sz : Nat) : Met l yX8_put (zz_w yX8_put cX8_put 2 none) ({ frames := 0, cells := 0, slots := 0, locals := 0 }) (va_Pc [.ref (b 0), .int p0] (zz_B (dC, dI) sz [(b 0, .inr (8, [.ref (b 1), .int 12, .int 0, .int 0, .int 0, .int 0, .int 0, .int 0, .int (-1), .int (-1), .ref (b 11), .ref (b 12), .ref (b 13), .int 0, .int 0, .ref (b 16), .ref (b 17), .ref (b 18), .ref (b 19), .ref (b 20), .ref (b 21), .ref (b 22), .ref (b 23), .ref (b 24), .int 0, .ref (b 26), .ref (b 27), .ref (b 28), .ref (b 29), .ref (b 30), .ref (b 31), .ref (b 32), .int 0, .int 0, .ref (b 35), .ref (b 36), .ref (b 37), .ref (b 38), .ref (b 39), .ref (b 40), .int 0, .ref (b 42), .ref (b 43), .ref (b 44), .int 0, .ref (b 46), .ref (b 47), .int 0, .ref (b 49)])), (b 1, .inl (cB, 200, .inl f))] [(cB, .byte)])) (va_Qv (fun (_ : Nat → Int32) => True) (fun (u0 : Nat → Int32) (t : State) => va_P (dC, dI) vwCl [(b 0, .inr (8, [.ref (b 1), .int 16, .int 0, .int 0, .int 0, .int 0, .int 0, .int 0, .int (-1), .int (-1), .ref (b 11), .ref (b 12), .ref (b 13), .int 0, .int 0, .ref (b 16), .ref (b 17), .ref (b 18), .ref (b 19), .ref (b 20), .ref (b 21), .ref (b 22), .ref (b 23), .ref (b 24), .int 0, .ref (b 26), .ref (b 27), .ref (b 28), .ref (b 29), .ref (b 30), .ref (b 31), .ref (b 32), .int 0, .int 0, .ref (b 35), .ref (b 36), .ref (b 37), .ref (b 38), .ref (b 39), .ref (b 40), .int 0, .ref (b 42), .ref (b 43), .ref (b 44), .int 0, .ref (b 46), .ref (b 47), .int 0, .ref (b 49)])), (b 1, .inl (cB, 200, .inl u0))] t.heap ∧ va_K (dC, dI) vwCl [(cB, .byte)] t ∧ va_D (va_A [(b 0, .inr (8, [.ref (b 1), .int 12, .int 0, .int 0, .int 0, .int 0, .int 0, .int 0, .int (-1), .int (-1), .ref (b 11), .ref (b 12), .ref (b 13), .int 0, .int 0, .ref (b 16), .ref (b 17), .ref (b 18), .ref (b 19), .ref (b 20), .ref (b 21), .ref (b 22), .ref (b 23), .ref (b 24), .int 0, .ref (b 26), .ref (b 27), .ref (b 28), .ref (b 29), .ref (b 30), .ref (b 31), .ref (b 32), .int 0, .int 0, .ref (b 35), .ref (b 36), .ref (b 37), .ref (b 38), .ref (b 39), .ref (b 40), .int 0, .ref (b 42), .ref (b 43), .ref (b 44), .int 0, .ref (b 46), .ref (b 47), .int 0, .ref (b 49)])), (b 1, .inl (cB, 200, .inl f))] sz) [(b 0, .inr (8, [.ref (b 1), .int 16, .int 0, .int 0, .int 0, .int 0, .int 0, .int 0, .int (-1), .int (-1), .ref (b 11), .ref (b 12), .ref (b 13), .int 0, .int 0, .ref (b 16), .ref (b 17), .ref (b 18), .ref (b 19), .ref (b 20), .ref (b 21), .ref (b 22), .ref (b 23), .ref (b 24), .int 0, .ref (b 26), .ref (b 27), .ref (b 28), .ref (b 29), .ref (b 30), .ref (b 31), .ref (b 32), .int 0, .int 0, .ref (b 35), .ref (b 36), .ref (b 37), .ref (b 38), .ref (b 39), .ref (b 40), .int 0, .ref (b 42), .ref (b 43), .ref (b 44), .int 0, .ref (b 46), .ref (b 47), .int 0, .ref (b 49)])), (b 1, .inl (cB, 200, .inl u0))]) (va_A [(b 0, .inr (8, [.ref (b 1), .int 12, .int 0, .int 0, .int 0, .int 0, .int 0, .int 0, .int (-1), .int (-1), .ref (b 11), .ref (b 12), .ref (b 13), .int 0, .int 0, .ref (b 16), .ref (b 17), .ref (b 18), .ref (b 19), .ref (b 20), .ref (b 21), .ref (b 22), .ref (b 23), .ref (b 24), .int 0, .ref (b 26), .ref (b 27), .ref (b 28), .ref (b 29), .ref (b 30), .ref (b 31), .ref (b 32), .int 0, .int 0, .ref (b 35), .ref (b 36), .ref (b 37), .ref (b 38), .ref (b 39), .ref (b 40), .int 0, .ref (b 42), .ref (b 43), .ref (b 44), .int 0, .ref (b 46), .ref (b 47), .int 0, .ref (b 49)])), (b 1, .inl (cB, 200, .inl f))] sz)) 0 0 (va_A [(b 0, .inr (8, [.ref (b 1), .int 12, .int 0, .int 0, .int 0, .int 0, .int 0, .int 0, .int (-1), .int (-1), .ref (b 11), .ref (b 12), .ref (b 13), .int 0, .int 0, .ref (b 16), .ref (b 17), .ref (b 18), .ref (b 19), .ref (b 20), .ref (b 21), .ref (b 22), .ref (b 23), .ref (b 24), .int 0, .ref (b 26), .ref (b 27), .ref (b 28), .ref (b 29), .ref (b 30), .ref (b 31), .ref (b 32), .int 0, .int 0, .ref (b 35), .ref (b 36), .ref (b 37), .ref (b 38), .ref (b 39), .ref (b 40), .int 0, .ref (b 42), .ref (b 43), .ref (b 44), .int 0, .ref (b 46), .ref (b 47), .int 0, .ref (b 49)])), (b 1, .inl (cB, 200, .inl f))] sz) := by
  refine Met.ofW (cc := cX8_put) (maxL := 2) (ret := none) (by decide) rfl ?_
  intro p e s m args below meth c s₁ B hml hv
  obtain ⟨rfl, hsz, hP, hK, hD0, hN⟩ := hv
  have hx := B.exec
  have hb := B.bytes
  have hr := B.returns
  have hts := atoms_spec (ws := zz_w yX8_put cX8_put 2 none) B.pre
  have hw : ∀ w ∈ zz_all, w.before _ s = true := fun w h => hts w (List.mem_cons_of_mem _ h)
  have hown : s.vm.findClass RX8 = some m.cls := findClass_of_methodNamed B.named
  have hlocks := B.notSynchronized
  subst hsz
  have hD := hD0.self (sz := s.heap.size)
  generalize hAe : va_A [(b 0, .inr (8, [.ref (b 1), .int 12, .int 0, .int 0, .int 0, .int 0, .int 0, .int 0, .int (-1), .int (-1), .ref (b 11), .ref (b 12), .ref (b 13), .int 0, .int 0, .ref (b 16), .ref (b 17), .ref (b 18), .ref (b 19), .ref (b 20), .ref (b 21), .ref (b 22), .ref (b 23), .ref (b 24), .int 0, .ref (b 26), .ref (b 27), .ref (b 28), .ref (b 29), .ref (b 30), .ref (b 31), .ref (b 32), .int 0, .int 0, .ref (b 35), .ref (b 36), .ref (b 37), .ref (b 38), .ref (b 39), .ref (b 40), .int 0, .ref (b 42), .ref (b 43), .ref (b 44), .int 0, .ref (b 46), .ref (b 47), .int 0, .ref (b 49)])), (b 1, .inl (cB, 200, .inl f))] s.heap.size = A at hD ⊢
  have hA : ∀ q : Nat, s.heap.size ≤ q → A q := fun q h => by rw [← hAe]; exact Or.inr h
  have hS : va_S A s.heap s.heap [] := va_S.rf
  have hP : va_P (dC, dI) vwCl [(b 0, .inr (8, [.ref (b 1), .int 12, .int 0, .int 0, .int 0, .int 0, .int 0, .int 0, .int (-1), .int (-1), .ref (b 11), .ref (b 12), .ref (b 13), .int 0, .int 0, .ref (b 16), .ref (b 17), .ref (b 18), .ref (b 19), .ref (b 20), .ref (b 21), .ref (b 22), .ref (b 23), .ref (b 24), .int 0, .ref (b 26), .ref (b 27), .ref (b 28), .ref (b 29), .ref (b 30), .ref (b 31), .ref (b 32), .int 0, .int 0, .ref (b 35), .ref (b 36), .ref (b 37), .ref (b 38), .ref (b 39), .ref (b 40), .int 0, .ref (b 42), .ref (b 43), .ref (b 44), .int 0, .ref (b 46), .ref (b 47), .int 0, .ref (b 49)])), (b 1, .inl (cB, 200, .inl f))] s.heap := hP
  have hl := lv_entry ([.ref (b 0), .int p0]) (n := 2) (Nat.le_of_ble_eq_true rfl)
  rw [lg_entry_eq]
  generalize (lg_sl ([.ref (b 0), .int p0]) ++ List.replicate (2 - (lg_sl ([.ref (b 0), .int p0])).length) Slot.unset).toArray = ls at hl ⊢
  have hl : lv_has ls 2 [(0, .ref (b 0)), (1, .int p0)] := hl
  refine lv_aload_n hx hb dX8_put_0 rfl (lv_at hl 0 rfl) ?_
  refine va_get (D := (dC, dI)) (ci := 8) (v := .ref (b 1)) (C := RX8) (T := TX8) (N := 49) hx hb hw zz_inX8 hown hK hP 0 rfl rfl 0 (by decide) (hw _ tw_112) (fun _ h9 => h9) rfl dX8_put_1 ?_
  refine lv_aload_n hx hb dX8_put_4 rfl (lv_at hl 0 rfl) ?_
  refine va_get (D := (dC, dI)) (ci := 8) (v := .int 12) (C := RX8) (T := TX8) (N := 49) hx hb hw zz_inX8 hown hK hP 0 rfl rfl 1 (by decide) (hw _ tw_113) (fun _ h9 => h9) rfl dX8_put_5 ?_
  refine lv_iload_n hx hb dX8_put_8 rfl (lv_at hl 1 rfl) ?_
  refine lv_bipush (v := 24) hx hb dX8_put_9 (by decide) ?_
  refine lv_ishr hx hb dX8_put_11 ?_
  refine lv_i2b (v := (Int8.toInt32 (Int32.toInt8 (p0 >>> (24 &&& 31))))) hx hb dX8_put_12 rfl ?_
  refine va_bast hx hb hK hP hD hS 1 0 rfl rfl (zz_vin (by decide)) dX8_put_13 (fun H locs hP hD hS => ?_)
  have hP : va_P (dC, dI) vwCl [(b 0, .inr (8, [.ref (b 1), .int 12, .int 0, .int 0, .int 0, .int 0, .int 0, .int 0, .int (-1), .int (-1), .ref (b 11), .ref (b 12), .ref (b 13), .int 0, .int 0, .ref (b 16), .ref (b 17), .ref (b 18), .ref (b 19), .ref (b 20), .ref (b 21), .ref (b 22), .ref (b 23), .ref (b 24), .int 0, .ref (b 26), .ref (b 27), .ref (b 28), .ref (b 29), .ref (b 30), .ref (b 31), .ref (b 32), .int 0, .int 0, .ref (b 35), .ref (b 36), .ref (b 37), .ref (b 38), .ref (b 39), .ref (b 40), .int 0, .ref (b 42), .ref (b 43), .ref (b 44), .int 0, .ref (b 46), .ref (b 47), .int 0, .ref (b 49)])), (b 1, .inl (cB, 200, .inl (upd f (Int32.toNatClampNeg 12) (vp_nar .byte (Int8.toInt32 (Int32.toInt8 (p0 >>> (24 &&& 31))))))))] H := hP
  have hD : va_D A [(b 0, .inr (8, [.ref (b 1), .int 12, .int 0, .int 0, .int 0, .int 0, .int 0, .int 0, .int (-1), .int (-1), .ref (b 11), .ref (b 12), .ref (b 13), .int 0, .int 0, .ref (b 16), .ref (b 17), .ref (b 18), .ref (b 19), .ref (b 20), .ref (b 21), .ref (b 22), .ref (b 23), .ref (b 24), .int 0, .ref (b 26), .ref (b 27), .ref (b 28), .ref (b 29), .ref (b 30), .ref (b 31), .ref (b 32), .int 0, .int 0, .ref (b 35), .ref (b 36), .ref (b 37), .ref (b 38), .ref (b 39), .ref (b 40), .int 0, .ref (b 42), .ref (b 43), .ref (b 44), .int 0, .ref (b 46), .ref (b 47), .int 0, .ref (b 49)])), (b 1, .inl (cB, 200, .inl (upd f (Int32.toNatClampNeg 12) (vp_nar .byte (Int8.toInt32 (Int32.toInt8 (p0 >>> (24 &&& 31))))))))] := hD
  refine lv_aload_n hx hb dX8_put_14 rfl (lv_at hl 0 rfl) ?_
  refine va_get (D := (dC, dI)) (ci := 8) (v := .ref (b 1)) (C := RX8) (T := TX8) (N := 49) hx hb hw zz_inX8 hown hK hP 0 rfl rfl 0 (by decide) (hw _ tw_112) (fun _ h9 => h9) rfl dX8_put_15 ?_
  refine lv_aload_n hx hb dX8_put_18 rfl (lv_at hl 0 rfl) ?_
  refine va_get (D := (dC, dI)) (ci := 8) (v := .int 12) (C := RX8) (T := TX8) (N := 49) hx hb hw zz_inX8 hown hK hP 0 rfl rfl 1 (by decide) (hw _ tw_113) (fun _ h9 => h9) rfl dX8_put_19 ?_
  refine lv_iconst (v := 1) hx hb dX8_put_22 (by decide) ?_
  refine lv_iadd hx hb dX8_put_23 ?_
  refine zz_seti 13 (by decide) ?_
  refine lv_iload_n hx hb dX8_put_24 rfl (lv_at hl 1 rfl) ?_
  refine lv_bipush (v := 16) hx hb dX8_put_25 (by decide) ?_
  refine lv_ishr hx hb dX8_put_27 ?_
  refine lv_i2b (v := (Int8.toInt32 (Int32.toInt8 (p0 >>> (16 &&& 31))))) hx hb dX8_put_28 rfl ?_
  refine va_bast hx hb hK hP hD hS 1 0 rfl rfl (zz_vin (by decide)) dX8_put_29 (fun H locs hP hD hS => ?_)
  have hP : va_P (dC, dI) vwCl [(b 0, .inr (8, [.ref (b 1), .int 12, .int 0, .int 0, .int 0, .int 0, .int 0, .int 0, .int (-1), .int (-1), .ref (b 11), .ref (b 12), .ref (b 13), .int 0, .int 0, .ref (b 16), .ref (b 17), .ref (b 18), .ref (b 19), .ref (b 20), .ref (b 21), .ref (b 22), .ref (b 23), .ref (b 24), .int 0, .ref (b 26), .ref (b 27), .ref (b 28), .ref (b 29), .ref (b 30), .ref (b 31), .ref (b 32), .int 0, .int 0, .ref (b 35), .ref (b 36), .ref (b 37), .ref (b 38), .ref (b 39), .ref (b 40), .int 0, .ref (b 42), .ref (b 43), .ref (b 44), .int 0, .ref (b 46), .ref (b 47), .int 0, .ref (b 49)])), (b 1, .inl (cB, 200, .inl (upd (upd f (Int32.toNatClampNeg 12) (vp_nar .byte (Int8.toInt32 (Int32.toInt8 (p0 >>> (24 &&& 31)))))) (Int32.toNatClampNeg 13) (vp_nar .byte (Int8.toInt32 (Int32.toInt8 (p0 >>> (16 &&& 31))))))))] H := hP
  have hD : va_D A [(b 0, .inr (8, [.ref (b 1), .int 12, .int 0, .int 0, .int 0, .int 0, .int 0, .int 0, .int (-1), .int (-1), .ref (b 11), .ref (b 12), .ref (b 13), .int 0, .int 0, .ref (b 16), .ref (b 17), .ref (b 18), .ref (b 19), .ref (b 20), .ref (b 21), .ref (b 22), .ref (b 23), .ref (b 24), .int 0, .ref (b 26), .ref (b 27), .ref (b 28), .ref (b 29), .ref (b 30), .ref (b 31), .ref (b 32), .int 0, .int 0, .ref (b 35), .ref (b 36), .ref (b 37), .ref (b 38), .ref (b 39), .ref (b 40), .int 0, .ref (b 42), .ref (b 43), .ref (b 44), .int 0, .ref (b 46), .ref (b 47), .int 0, .ref (b 49)])), (b 1, .inl (cB, 200, .inl (upd (upd f (Int32.toNatClampNeg 12) (vp_nar .byte (Int8.toInt32 (Int32.toInt8 (p0 >>> (24 &&& 31)))))) (Int32.toNatClampNeg 13) (vp_nar .byte (Int8.toInt32 (Int32.toInt8 (p0 >>> (16 &&& 31))))))))] := hD
  refine lv_aload_n hx hb dX8_put_30 rfl (lv_at hl 0 rfl) ?_
  refine va_get (D := (dC, dI)) (ci := 8) (v := .ref (b 1)) (C := RX8) (T := TX8) (N := 49) hx hb hw zz_inX8 hown hK hP 0 rfl rfl 0 (by decide) (hw _ tw_112) (fun _ h9 => h9) rfl dX8_put_31 ?_
  refine lv_aload_n hx hb dX8_put_34 rfl (lv_at hl 0 rfl) ?_
  refine va_get (D := (dC, dI)) (ci := 8) (v := .int 12) (C := RX8) (T := TX8) (N := 49) hx hb hw zz_inX8 hown hK hP 0 rfl rfl 1 (by decide) (hw _ tw_113) (fun _ h9 => h9) rfl dX8_put_35 ?_
  refine lv_iconst (v := 2) hx hb dX8_put_38 (by decide) ?_
  refine lv_iadd hx hb dX8_put_39 ?_
  refine zz_seti 14 (by decide) ?_
  refine lv_iload_n hx hb dX8_put_40 rfl (lv_at hl 1 rfl) ?_
  refine lv_bipush (v := 8) hx hb dX8_put_41 (by decide) ?_
  refine lv_ishr hx hb dX8_put_43 ?_
  refine lv_i2b (v := (Int8.toInt32 (Int32.toInt8 (p0 >>> (8 &&& 31))))) hx hb dX8_put_44 rfl ?_
  refine va_bast hx hb hK hP hD hS 1 0 rfl rfl (zz_vin (by decide)) dX8_put_45 (fun H locs hP hD hS => ?_)
  have hP : va_P (dC, dI) vwCl [(b 0, .inr (8, [.ref (b 1), .int 12, .int 0, .int 0, .int 0, .int 0, .int 0, .int 0, .int (-1), .int (-1), .ref (b 11), .ref (b 12), .ref (b 13), .int 0, .int 0, .ref (b 16), .ref (b 17), .ref (b 18), .ref (b 19), .ref (b 20), .ref (b 21), .ref (b 22), .ref (b 23), .ref (b 24), .int 0, .ref (b 26), .ref (b 27), .ref (b 28), .ref (b 29), .ref (b 30), .ref (b 31), .ref (b 32), .int 0, .int 0, .ref (b 35), .ref (b 36), .ref (b 37), .ref (b 38), .ref (b 39), .ref (b 40), .int 0, .ref (b 42), .ref (b 43), .ref (b 44), .int 0, .ref (b 46), .ref (b 47), .int 0, .ref (b 49)])), (b 1, .inl (cB, 200, .inl (upd (upd (upd f (Int32.toNatClampNeg 12) (vp_nar .byte (Int8.toInt32 (Int32.toInt8 (p0 >>> (24 &&& 31)))))) (Int32.toNatClampNeg 13) (vp_nar .byte (Int8.toInt32 (Int32.toInt8 (p0 >>> (16 &&& 31)))))) (Int32.toNatClampNeg 14) (vp_nar .byte (Int8.toInt32 (Int32.toInt8 (p0 >>> (8 &&& 31))))))))] H := hP
  have hD : va_D A [(b 0, .inr (8, [.ref (b 1), .int 12, .int 0, .int 0, .int 0, .int 0, .int 0, .int 0, .int (-1), .int (-1), .ref (b 11), .ref (b 12), .ref (b 13), .int 0, .int 0, .ref (b 16), .ref (b 17), .ref (b 18), .ref (b 19), .ref (b 20), .ref (b 21), .ref (b 22), .ref (b 23), .ref (b 24), .int 0, .ref (b 26), .ref (b 27), .ref (b 28), .ref (b 29), .ref (b 30), .ref (b 31), .ref (b 32), .int 0, .int 0, .ref (b 35), .ref (b 36), .ref (b 37), .ref (b 38), .ref (b 39), .ref (b 40), .int 0, .ref (b 42), .ref (b 43), .ref (b 44), .int 0, .ref (b 46), .ref (b 47), .int 0, .ref (b 49)])), (b 1, .inl (cB, 200, .inl (upd (upd (upd f (Int32.toNatClampNeg 12) (vp_nar .byte (Int8.toInt32 (Int32.toInt8 (p0 >>> (24 &&& 31)))))) (Int32.toNatClampNeg 13) (vp_nar .byte (Int8.toInt32 (Int32.toInt8 (p0 >>> (16 &&& 31)))))) (Int32.toNatClampNeg 14) (vp_nar .byte (Int8.toInt32 (Int32.toInt8 (p0 >>> (8 &&& 31))))))))] := hD
  refine lv_aload_n hx hb dX8_put_46 rfl (lv_at hl 0 rfl) ?_
  refine va_get (D := (dC, dI)) (ci := 8) (v := .ref (b 1)) (C := RX8) (T := TX8) (N := 49) hx hb hw zz_inX8 hown hK hP 0 rfl rfl 0 (by decide) (hw _ tw_112) (fun _ h9 => h9) rfl dX8_put_47 ?_
  refine lv_aload_n hx hb dX8_put_50 rfl (lv_at hl 0 rfl) ?_
  refine va_get (D := (dC, dI)) (ci := 8) (v := .int 12) (C := RX8) (T := TX8) (N := 49) hx hb hw zz_inX8 hown hK hP 0 rfl rfl 1 (by decide) (hw _ tw_113) (fun _ h9 => h9) rfl dX8_put_51 ?_
  refine lv_iconst (v := 3) hx hb dX8_put_54 (by decide) ?_
  refine lv_iadd hx hb dX8_put_55 ?_
  refine zz_seti 15 (by decide) ?_
  refine lv_iload_n hx hb dX8_put_56 rfl (lv_at hl 1 rfl) ?_
  refine lv_i2b (v := (Int8.toInt32 (Int32.toInt8 p0))) hx hb dX8_put_57 rfl ?_
  refine va_bast hx hb hK hP hD hS 1 0 rfl rfl (zz_vin (by decide)) dX8_put_58 (fun H locs hP hD hS => ?_)
  have hP : va_P (dC, dI) vwCl [(b 0, .inr (8, [.ref (b 1), .int 12, .int 0, .int 0, .int 0, .int 0, .int 0, .int 0, .int (-1), .int (-1), .ref (b 11), .ref (b 12), .ref (b 13), .int 0, .int 0, .ref (b 16), .ref (b 17), .ref (b 18), .ref (b 19), .ref (b 20), .ref (b 21), .ref (b 22), .ref (b 23), .ref (b 24), .int 0, .ref (b 26), .ref (b 27), .ref (b 28), .ref (b 29), .ref (b 30), .ref (b 31), .ref (b 32), .int 0, .int 0, .ref (b 35), .ref (b 36), .ref (b 37), .ref (b 38), .ref (b 39), .ref (b 40), .int 0, .ref (b 42), .ref (b 43), .ref (b 44), .int 0, .ref (b 46), .ref (b 47), .int 0, .ref (b 49)])), (b 1, .inl (cB, 200, .inl (upd (upd (upd (upd f (Int32.toNatClampNeg 12) (vp_nar .byte (Int8.toInt32 (Int32.toInt8 (p0 >>> (24 &&& 31)))))) (Int32.toNatClampNeg 13) (vp_nar .byte (Int8.toInt32 (Int32.toInt8 (p0 >>> (16 &&& 31)))))) (Int32.toNatClampNeg 14) (vp_nar .byte (Int8.toInt32 (Int32.toInt8 (p0 >>> (8 &&& 31)))))) (Int32.toNatClampNeg 15) (vp_nar .byte (Int8.toInt32 (Int32.toInt8 p0))))))] H := hP
  have hD : va_D A [(b 0, .inr (8, [.ref (b 1), .int 12, .int 0, .int 0, .int 0, .int 0, .int 0, .int 0, .int (-1), .int (-1), .ref (b 11), .ref (b 12), .ref (b 13), .int 0, .int 0, .ref (b 16), .ref (b 17), .ref (b 18), .ref (b 19), .ref (b 20), .ref (b 21), .ref (b 22), .ref (b 23), .ref (b 24), .int 0, .ref (b 26), .ref (b 27), .ref (b 28), .ref (b 29), .ref (b 30), .ref (b 31), .ref (b 32), .int 0, .int 0, .ref (b 35), .ref (b 36), .ref (b 37), .ref (b 38), .ref (b 39), .ref (b 40), .int 0, .ref (b 42), .ref (b 43), .ref (b 44), .int 0, .ref (b 46), .ref (b 47), .int 0, .ref (b 49)])), (b 1, .inl (cB, 200, .inl (upd (upd (upd (upd f (Int32.toNatClampNeg 12) (vp_nar .byte (Int8.toInt32 (Int32.toInt8 (p0 >>> (24 &&& 31)))))) (Int32.toNatClampNeg 13) (vp_nar .byte (Int8.toInt32 (Int32.toInt8 (p0 >>> (16 &&& 31)))))) (Int32.toNatClampNeg 14) (vp_nar .byte (Int8.toInt32 (Int32.toInt8 (p0 >>> (8 &&& 31)))))) (Int32.toNatClampNeg 15) (vp_nar .byte (Int8.toInt32 (Int32.toInt8 p0))))))] := hD
  refine lv_aload_n hx hb dX8_put_59 rfl (lv_at hl 0 rfl) ?_
  refine lv_dup hx hb dX8_put_60 rfl ?_
  refine va_get (D := (dC, dI)) (ci := 8) (v := .int 12) (C := RX8) (T := TX8) (N := 49) hx hb hw zz_inX8 hown hK hP 0 rfl rfl 1 (by decide) (hw _ tw_113) (fun _ h9 => h9) rfl dX8_put_61 ?_
  refine lv_iconst (v := 4) hx hb dX8_put_64 (by decide) ?_
  refine lv_iadd hx hb dX8_put_65 ?_
  refine zz_seti 16 (by decide) ?_
  refine va_put (D := (dC, dI)) (ci := 8) (v := .int 16) (ty := .int) (C := RX8) (T := TX8) (N := 49) hx hb hw zz_inX8 tyX8 tyX8_ok nmX8 hown hK hP hD hS 0 rfl rfl 1 (by decide) (hw _ tw_113) (fun _ h9 => h9) rfl (by decide +kernel) rfl rfl (Nat.le_of_ble_eq_true rfl) dX8_put_66 (fun H locs hP hD hS => ?_)
  have hP : va_P (dC, dI) vwCl [(b 0, .inr (8, [.ref (b 1), .int 16, .int 0, .int 0, .int 0, .int 0, .int 0, .int 0, .int (-1), .int (-1), .ref (b 11), .ref (b 12), .ref (b 13), .int 0, .int 0, .ref (b 16), .ref (b 17), .ref (b 18), .ref (b 19), .ref (b 20), .ref (b 21), .ref (b 22), .ref (b 23), .ref (b 24), .int 0, .ref (b 26), .ref (b 27), .ref (b 28), .ref (b 29), .ref (b 30), .ref (b 31), .ref (b 32), .int 0, .int 0, .ref (b 35), .ref (b 36), .ref (b 37), .ref (b 38), .ref (b 39), .ref (b 40), .int 0, .ref (b 42), .ref (b 43), .ref (b 44), .int 0, .ref (b 46), .ref (b 47), .int 0, .ref (b 49)])), (b 1, .inl (cB, 200, .inl (upd (upd (upd (upd f (Int32.toNatClampNeg 12) (vp_nar .byte (Int8.toInt32 (Int32.toInt8 (p0 >>> (24 &&& 31)))))) (Int32.toNatClampNeg 13) (vp_nar .byte (Int8.toInt32 (Int32.toInt8 (p0 >>> (16 &&& 31)))))) (Int32.toNatClampNeg 14) (vp_nar .byte (Int8.toInt32 (Int32.toInt8 (p0 >>> (8 &&& 31)))))) (Int32.toNatClampNeg 15) (vp_nar .byte (Int8.toInt32 (Int32.toInt8 p0))))))] H := hP
  have hD : va_D A [(b 0, .inr (8, [.ref (b 1), .int 16, .int 0, .int 0, .int 0, .int 0, .int 0, .int 0, .int (-1), .int (-1), .ref (b 11), .ref (b 12), .ref (b 13), .int 0, .int 0, .ref (b 16), .ref (b 17), .ref (b 18), .ref (b 19), .ref (b 20), .ref (b 21), .ref (b 22), .ref (b 23), .ref (b 24), .int 0, .ref (b 26), .ref (b 27), .ref (b 28), .ref (b 29), .ref (b 30), .ref (b 31), .ref (b 32), .int 0, .int 0, .ref (b 35), .ref (b 36), .ref (b 37), .ref (b 38), .ref (b 39), .ref (b 40), .int 0, .ref (b 42), .ref (b 43), .ref (b 44), .int 0, .ref (b 46), .ref (b 47), .int 0, .ref (b 49)])), (b 1, .inl (cB, 200, .inl (upd (upd (upd (upd f (Int32.toNatClampNeg 12) (vp_nar .byte (Int8.toInt32 (Int32.toInt8 (p0 >>> (24 &&& 31)))))) (Int32.toNatClampNeg 13) (vp_nar .byte (Int8.toInt32 (Int32.toInt8 (p0 >>> (16 &&& 31)))))) (Int32.toNatClampNeg 14) (vp_nar .byte (Int8.toInt32 (Int32.toInt8 (p0 >>> (8 &&& 31)))))) (Int32.toNatClampNeg 15) (vp_nar .byte (Int8.toInt32 (Int32.toInt8 p0))))))] := hD
  have hP9 := hP.sub (ws' := [(b 0, .inr (8, [.ref (b 1), .int 16, .int 0, .int 0, .int 0, .int 0, .int 0, .int 0, .int (-1), .int (-1), .ref (b 11), .ref (b 12), .ref (b 13), .int 0, .int 0, .ref (b 16), .ref (b 17), .ref (b 18), .ref (b 19), .ref (b 20), .ref (b 21), .ref (b 22), .ref (b 23), .ref (b 24), .int 0, .ref (b 26), .ref (b 27), .ref (b 28), .ref (b 29), .ref (b 30), .ref (b 31), .ref (b 32), .int 0, .int 0, .ref (b 35), .ref (b 36), .ref (b 37), .ref (b 38), .ref (b 39), .ref (b 40), .int 0, .ref (b 42), .ref (b 43), .ref (b 44), .int 0, .ref (b 46), .ref (b 47), .int 0, .ref (b 49)])), (b 1, .inl (cB, 200, .inl (upd (upd (upd (upd f (Int32.toNatClampNeg 12) (vp_nar .byte (Int8.toInt32 (Int32.toInt8 (p0 >>> (24 &&& 31)))))) (Int32.toNatClampNeg 13) (vp_nar .byte (Int8.toInt32 (Int32.toInt8 (p0 >>> (16 &&& 31)))))) (Int32.toNatClampNeg 14) (vp_nar .byte (Int8.toInt32 (Int32.toInt8 (p0 >>> (8 &&& 31)))))) (Int32.toNatClampNeg 15) (vp_nar .byte (Int8.toInt32 (Int32.toInt8 p0))))))]) [0, 1] rfl
  have hD9 := hD.sub (ws' := [(b 0, .inr (8, [.ref (b 1), .int 16, .int 0, .int 0, .int 0, .int 0, .int 0, .int 0, .int (-1), .int (-1), .ref (b 11), .ref (b 12), .ref (b 13), .int 0, .int 0, .ref (b 16), .ref (b 17), .ref (b 18), .ref (b 19), .ref (b 20), .ref (b 21), .ref (b 22), .ref (b 23), .ref (b 24), .int 0, .ref (b 26), .ref (b 27), .ref (b 28), .ref (b 29), .ref (b 30), .ref (b 31), .ref (b 32), .int 0, .int 0, .ref (b 35), .ref (b 36), .ref (b 37), .ref (b 38), .ref (b 39), .ref (b 40), .int 0, .ref (b 42), .ref (b 43), .ref (b 44), .int 0, .ref (b 46), .ref (b 47), .int 0, .ref (b 49)])), (b 1, .inl (cB, 200, .inl (upd (upd (upd (upd f (Int32.toNatClampNeg 12) (vp_nar .byte (Int8.toInt32 (Int32.toInt8 (p0 >>> (24 &&& 31)))))) (Int32.toNatClampNeg 13) (vp_nar .byte (Int8.toInt32 (Int32.toInt8 (p0 >>> (16 &&& 31)))))) (Int32.toNatClampNeg 14) (vp_nar .byte (Int8.toInt32 (Int32.toInt8 (p0 >>> (8 &&& 31)))))) (Int32.toNatClampNeg 15) (vp_nar .byte (Int8.toInt32 (Int32.toInt8 p0))))))]) [0, 1] (by decide) rfl
  have hK9 := hK.sub (tys' := [(cB, .byte)]) [0] rfl
  exact W.vret hx hb hr (fun t ht hW => ⟨⟨((upd (upd (upd (upd f (Int32.toNatClampNeg 12) (vp_nar .byte (Int8.toInt32 (Int32.toInt8 (p0 >>> (24 &&& 31)))))) (Int32.toNatClampNeg 13) (vp_nar .byte (Int8.toInt32 (Int32.toInt8 (p0 >>> (16 &&& 31)))))) (Int32.toNatClampNeg 14) (vp_nar .byte (Int8.toInt32 (Int32.toInt8 (p0 >>> (8 &&& 31)))))) (Int32.toNatClampNeg 15) (vp_nar .byte (Int8.toInt32 (Int32.toInt8 p0))))), rfl, trivial, by rw [ht]; exact hP9, va_K.moved hW.alike hK9, hD9⟩, hS.F ht⟩) hS.2.2 dX8_put_69

set_option maxHeartbeats 4000000 in
set_option maxRecDepth 100000 in
theorem m_put16 (l : Launch) (dC : Nat → ClassId) (dI : Nat → Nat → Nat) (b : Nat → Nat) (cB : ClassId) (f : Nat → Int32) (p0 : Int32) (sz : Nat) : Met l yX8_put (zz_w yX8_put cX8_put 2 none) ({ frames := 0, cells := 0, slots := 0, locals := 0 }) (va_Pc [.ref (b 0), .int p0] (zz_B (dC, dI) sz [(b 0, .inr (8, [.ref (b 1), .int 16, .int 0, .int 0, .int 0, .int 0, .int 0, .int 0, .int (-1), .int (-1), .ref (b 11), .ref (b 12), .ref (b 13), .int 0, .int 0, .ref (b 16), .ref (b 17), .ref (b 18), .ref (b 19), .ref (b 20), .ref (b 21), .ref (b 22), .ref (b 23), .ref (b 24), .int 0, .ref (b 26), .ref (b 27), .ref (b 28), .ref (b 29), .ref (b 30), .ref (b 31), .ref (b 32), .int 0, .int 0, .ref (b 35), .ref (b 36), .ref (b 37), .ref (b 38), .ref (b 39), .ref (b 40), .int 0, .ref (b 42), .ref (b 43), .ref (b 44), .int 0, .ref (b 46), .ref (b 47), .int 0, .ref (b 49)])), (b 1, .inl (cB, 200, .inl f))] [(cB, .byte)])) (va_Qv (fun (_ : Nat → Int32) => True) (fun (u0 : Nat → Int32) (t : State) => va_P (dC, dI) vwCl [(b 0, .inr (8, [.ref (b 1), .int 20, .int 0, .int 0, .int 0, .int 0, .int 0, .int 0, .int (-1), .int (-1), .ref (b 11), .ref (b 12), .ref (b 13), .int 0, .int 0, .ref (b 16), .ref (b 17), .ref (b 18), .ref (b 19), .ref (b 20), .ref (b 21), .ref (b 22), .ref (b 23), .ref (b 24), .int 0, .ref (b 26), .ref (b 27), .ref (b 28), .ref (b 29), .ref (b 30), .ref (b 31), .ref (b 32), .int 0, .int 0, .ref (b 35), .ref (b 36), .ref (b 37), .ref (b 38), .ref (b 39), .ref (b 40), .int 0, .ref (b 42), .ref (b 43), .ref (b 44), .int 0, .ref (b 46), .ref (b 47), .int 0, .ref (b 49)])), (b 1, .inl (cB, 200, .inl u0))] t.heap ∧ va_K (dC, dI) vwCl [(cB, .byte)] t ∧ va_D (va_A [(b 0, .inr (8, [.ref (b 1), .int 16, .int 0, .int 0, .int 0, .int 0, .int 0, .int 0, .int (-1), .int (-1), .ref (b 11), .ref (b 12), .ref (b 13), .int 0, .int 0, .ref (b 16), .ref (b 17), .ref (b 18), .ref (b 19), .ref (b 20), .ref (b 21), .ref (b 22), .ref (b 23), .ref (b 24), .int 0, .ref (b 26), .ref (b 27), .ref (b 28), .ref (b 29), .ref (b 30), .ref (b 31), .ref (b 32), .int 0, .int 0, .ref (b 35), .ref (b 36), .ref (b 37), .ref (b 38), .ref (b 39), .ref (b 40), .int 0, .ref (b 42), .ref (b 43), .ref (b 44), .int 0, .ref (b 46), .ref (b 47), .int 0, .ref (b 49)])), (b 1, .inl (cB, 200, .inl f))] sz) [(b 0, .inr (8, [.ref (b 1), .int 20, .int 0, .int 0, .int 0, .int 0, .int 0, .int 0, .int (-1), .int (-1), .ref (b 11), .ref (b 12), .ref (b 13), .int 0, .int 0, .ref (b 16), .ref (b 17), .ref (b 18), .ref (b 19), .ref (b 20), .ref (b 21), .ref (b 22), .ref (b 23), .ref (b 24), .int 0, .ref (b 26), .ref (b 27), .ref (b 28), .ref (b 29), .ref (b 30), .ref (b 31), .ref (b 32), .int 0, .int 0, .ref (b 35), .ref (b 36), .ref (b 37), .ref (b 38), .ref (b 39), .ref (b 40), .int 0, .ref (b 42), .ref (b 43), .ref (b 44), .int 0, .ref (b 46), .ref (b 47), .int 0, .ref (b 49)])), (b 1, .inl (cB, 200, .inl u0))]) (va_A [(b 0, .inr (8, [.ref (b 1), .int 16, .int 0, .int 0, .int 0, .int 0, .int 0, .int 0, .int (-1), .int (-1), .ref (b 11), .ref (b 12), .ref (b 13), .int 0, .int 0, .ref (b 16), .ref (b 17), .ref (b 18), .ref (b 19), .ref (b 20), .ref (b 21), .ref (b 22), .ref (b 23), .ref (b 24), .int 0, .ref (b 26), .ref (b 27), .ref (b 28), .ref (b 29), .ref (b 30), .ref (b 31), .ref (b 32), .int 0, .int 0, .ref (b 35), .ref (b 36), .ref (b 37), .ref (b 38), .ref (b 39), .ref (b 40), .int 0, .ref (b 42), .ref (b 43), .ref (b 44), .int 0, .ref (b 46), .ref (b 47), .int 0, .ref (b 49)])), (b 1, .inl (cB, 200, .inl f))] sz)) 0 0 (va_A [(b 0, .inr (8, [.ref (b 1), .int 16, .int 0, .int 0, .int 0, .int 0, .int 0, .int 0, .int (-1), .int (-1), .ref (b 11), .ref (b 12), .ref (b 13), .int 0, .int 0, .ref (b 16), .ref (b 17), .ref (b 18), .ref (b 19), .ref (b 20), .ref (b 21), .ref (b 22), .ref (b 23), .ref (b 24), .int 0, .ref (b 26), .ref (b 27), .ref (b 28), .ref (b 29), .ref (b 30), .ref (b 31), .ref (b 32), .int 0, .int 0, .ref (b 35), .ref (b 36), .ref (b 37), .ref (b 38), .ref (b 39), .ref (b 40), .int 0, .ref (b 42), .ref (b 43), .ref (b 44), .int 0, .ref (b 46), .ref (b 47), .int 0, .ref (b 49)])), (b 1, .inl (cB, 200, .inl f))] sz) := by
  refine Met.ofW (cc := cX8_put) (maxL := 2) (ret := none) (by decide) rfl ?_
  intro p e s m args below meth c s₁ B hml hv
  obtain ⟨rfl, hsz, hP, hK, hD0, hN⟩ := hv
  have hx := B.exec
  have hb := B.bytes
  have hr := B.returns
  have hts := atoms_spec (ws := zz_w yX8_put cX8_put 2 none) B.pre
  have hw : ∀ w ∈ zz_all, w.before _ s = true := fun w h => hts w (List.mem_cons_of_mem _ h)
  have hown : s.vm.findClass RX8 = some m.cls := findClass_of_methodNamed B.named
  have hlocks := B.notSynchronized
  subst hsz
  have hD := hD0.self (sz := s.heap.size)
  generalize hAe : va_A [(b 0, .inr (8, [.ref (b 1), .int 16, .int 0, .int 0, .int 0, .int 0, .int 0, .int 0, .int (-1), .int (-1), .ref (b 11), .ref (b 12), .ref (b 13), .int 0, .int 0, .ref (b 16), .ref (b 17), .ref (b 18), .ref (b 19), .ref (b 20), .ref (b 21), .ref (b 22), .ref (b 23), .ref (b 24), .int 0, .ref (b 26), .ref (b 27), .ref (b 28), .ref (b 29), .ref (b 30), .ref (b 31), .ref (b 32), .int 0, .int 0, .ref (b 35), .ref (b 36), .ref (b 37), .ref (b 38), .ref (b 39), .ref (b 40), .int 0, .ref (b 42), .ref (b 43), .ref (b 44), .int 0, .ref (b 46), .ref (b 47), .int 0, .ref (b 49)])), (b 1, .inl (cB, 200, .inl f))] s.heap.size = A at hD ⊢
  have hA : ∀ q : Nat, s.heap.size ≤ q → A q := fun q h => by rw [← hAe]; exact Or.inr h
  have hS : va_S A s.heap s.heap [] := va_S.rf
  have hP : va_P (dC, dI) vwCl [(b 0, .inr (8, [.ref (b 1), .int 16, .int 0, .int 0, .int 0, .int 0, .int 0, .int 0, .int (-1), .int (-1), .ref (b 11), .ref (b 12), .ref (b 13), .int 0, .int 0, .ref (b 16), .ref (b 17), .ref (b 18), .ref (b 19), .ref (b 20), .ref (b 21), .ref (b 22), .ref (b 23), .ref (b 24), .int 0, .ref (b 26), .ref (b 27), .ref (b 28), .ref (b 29), .ref (b 30), .ref (b 31), .ref (b 32), .int 0, .int 0, .ref (b 35), .ref (b 36), .ref (b 37), .ref (b 38), .ref (b 39), .ref (b 40), .int 0, .ref (b 42), .ref (b 43), .ref (b 44), .int 0, .ref (b 46), .ref (b 47), .int 0, .ref (b 49)])), (b 1, .inl (cB, 200, .inl f))] s.heap := hP
  have hl := lv_entry ([.ref (b 0), .int p0]) (n := 2) (Nat.le_of_ble_eq_true rfl)
  rw [lg_entry_eq]
  generalize (lg_sl ([.ref (b 0), .int p0]) ++ List.replicate (2 - (lg_sl ([.ref (b 0), .int p0])).length) Slot.unset).toArray = ls at hl ⊢
  have hl : lv_has ls 2 [(0, .ref (b 0)), (1, .int p0)] := hl
  refine lv_aload_n hx hb dX8_put_0 rfl (lv_at hl 0 rfl) ?_
  refine va_get (D := (dC, dI)) (ci := 8) (v := .ref (b 1)) (C := RX8) (T := TX8) (N := 49) hx hb hw zz_inX8 hown hK hP 0 rfl rfl 0 (by decide) (hw _ tw_112) (fun _ h9 => h9) rfl dX8_put_1 ?_
  refine lv_aload_n hx hb dX8_put_4 rfl (lv_at hl 0 rfl) ?_
  refine va_get (D := (dC, dI)) (ci := 8) (v := .int 16) (C := RX8) (T := TX8) (N := 49) hx hb hw zz_inX8 hown hK hP 0 rfl rfl 1 (by decide) (hw _ tw_113) (fun _ h9 => h9) rfl dX8_put_5 ?_
  refine lv_iload_n hx hb dX8_put_8 rfl (lv_at hl 1 rfl) ?_
  refine lv_bipush (v := 24) hx hb dX8_put_9 (by decide) ?_
  refine lv_ishr hx hb dX8_put_11 ?_
  refine lv_i2b (v := (Int8.toInt32 (Int32.toInt8 (p0 >>> (24 &&& 31))))) hx hb dX8_put_12 rfl ?_
  refine va_bast hx hb hK hP hD hS 1 0 rfl rfl (zz_vin (by decide)) dX8_put_13 (fun H locs hP hD hS => ?_)
  have hP : va_P (dC, dI) vwCl [(b 0, .inr (8, [.ref (b 1), .int 16, .int 0, .int 0, .int 0, .int 0, .int 0, .int 0, .int (-1), .int (-1), .ref (b 11), .ref (b 12), .ref (b 13), .int 0, .int 0, .ref (b 16), .ref (b 17), .ref (b 18), .ref (b 19), .ref (b 20), .ref (b 21), .ref (b 22), .ref (b 23), .ref (b 24), .int 0, .ref (b 26), .ref (b 27), .ref (b 28), .ref (b 29), .ref (b 30), .ref (b 31), .ref (b 32), .int 0, .int 0, .ref (b 35), .ref (b 36), .ref (b 37), .ref (b 38), .ref (b 39), .ref (b 40), .int 0, .ref (b 42), .ref (b 43), .ref (b 44), .int 0, .ref (b 46), .ref (b 47), .int 0, .ref (b 49)])), (b 1, .inl (cB, 200, .inl (upd f (Int32.toNatClampNeg 16) (vp_nar .byte (Int8.toInt32 (Int32.toInt8 (p0 >>> (24 &&& 31))))))))] H := hP
  have hD : va_D A [(b 0, .inr (8, [.ref (b 1), .int 16, .int 0, .int 0, .int 0, .int 0, .int 0, .int 0, .int (-1), .int (-1), .ref (b 11), .ref (b 12), .ref (b 13), .int 0, .int 0, .ref (b 16), .ref (b 17), .ref (b 18), .ref (b 19), .ref (b 20), .ref (b 21), .ref (b 22), .ref (b 23), .ref (b 24), .int 0, .ref (b 26), .ref (b 27), .ref (b 28), .ref (b 29), .ref (b 30), .ref (b 31), .ref (b 32), .int 0, .int 0, .ref (b 35), .ref (b 36), .ref (b 37), .ref (b 38), .ref (b 39), .ref (b 40), .int 0, .ref (b 42), .ref (b 43), .ref (b 44), .int 0, .ref (b 46), .ref (b 47), .int 0, .ref (b 49)])), (b 1, .inl (cB, 200, .inl (upd f (Int32.toNatClampNeg 16) (vp_nar .byte (Int8.toInt32 (Int32.toInt8 (p0 >>> (24 &&& 31))))))))] := hD
  refine lv_aload_n hx hb dX8_put_14 rfl (lv_at hl 0 rfl) ?_
  refine va_get (D := (dC, dI)) (ci := 8) (v := .ref (b 1)) (C := RX8) (T := TX8) (N := 49) hx hb hw zz_inX8 hown hK hP 0 rfl rfl 0 (by decide) (hw _ tw_112) (fun _ h9 => h9) rfl dX8_put_15 ?_
  refine lv_aload_n hx hb dX8_put_18 rfl (lv_at hl 0 rfl) ?_
  refine va_get (D := (dC, dI)) (ci := 8) (v := .int 16) (C := RX8) (T := TX8) (N := 49) hx hb hw zz_inX8 hown hK hP 0 rfl rfl 1 (by decide) (hw _ tw_113) (fun _ h9 => h9) rfl dX8_put_19 ?_
  refine lv_iconst (v := 1) hx hb dX8_put_22 (by decide) ?_
  refine lv_iadd hx hb dX8_put_23 ?_
  refine zz_seti 17 (by decide) ?_
  refine lv_iload_n hx hb dX8_put_24 rfl (lv_at hl 1 rfl) ?_
  refine lv_bipush (v := 16) hx hb dX8_put_25 (by decide) ?_
  refine lv_ishr hx hb dX8_put_27 ?_
  refine lv_i2b (v := (Int8.toInt32 (Int32.toInt8 (p0 >>> (16 &&& 31))))) hx hb dX8_put_28 rfl ?_
  refine va_bast hx hb hK hP hD hS 1 0 rfl rfl (zz_vin (by decide)) dX8_put_29 (fun H locs hP hD hS => ?_)
  have hP : va_P (dC, dI) vwCl [(b 0, .inr (8, [.ref (b 1), .int 16, .int 0, .int 0, .int 0, .int 0, .int 0, .int 0, .int (-1), .int (-1), .ref (b 11), .ref (b 12), .ref (b 13), .int 0, .int 0, .ref (b 16), .ref (b 17), .ref (b 18), .ref (b 19), .ref (b 20), .ref (b 21), .ref (b 22), .ref (b 23), .ref (b 24), .int 0, .ref (b 26), .ref (b 27), .ref (b 28), .ref (b 29), .ref (b 30), .ref (b 31), .ref (b 32), .int 0, .int 0, .ref (b 35), .ref (b 36), .ref (b 37), .ref (b 38), .ref (b 39), .ref (b 40), .int 0, .ref (b 42), .ref (b 43), .ref (b 44), .int 0, .ref (b 46), .ref (b 47), .int 0, .ref (b 49)])), (b 1, .inl (cB, 200, .inl (upd (upd f (Int32.toNatClampNeg 16) (vp_nar .byte (Int8.toInt32 (Int32.toInt8 (p0 >>> (24 &&& 31)))))) (Int32.toNatClampNeg 17) (vp_nar .byte (Int8.toInt32 (Int32.toInt8 (p0 >>> (16 &&& 31))))))))] H := hP
  have hD : va_D A [(b 0, .inr (8, [.ref (b 1), .int 16, .int 0, .int 0, .int 0, .int 0, .int 0, .int 0, .int (-1), .int (-1), .ref (b 11), .ref (b 12), .ref (b 13), .int 0, .int 0, .ref (b 16), .ref (b 17), .ref (b 18), .ref (b 19), .ref (b 20), .ref (b 21), .ref (b 22), .ref (b 23), .ref (b 24), .int 0, .ref (b 26), .ref (b 27), .ref (b 28), .ref (b 29), .ref (b 30), .ref (b 31), .ref (b 32), .int 0, .int 0, .ref (b 35), .ref (b 36), .ref (b 37), .ref (b 38), .ref (b 39), .ref (b 40), .int 0, .ref (b 42), .ref (b 43), .ref (b 44), .int 0, .ref (b 46), .ref (b 47), .int 0, .ref (b 49)])), (b 1, .inl (cB, 200, .inl (upd (upd f (Int32.toNatClampNeg 16) (vp_nar .byte (Int8.toInt32 (Int32.toInt8 (p0 >>> (24 &&& 31)))))) (Int32.toNatClampNeg 17) (vp_nar .byte (Int8.toInt32 (Int32.toInt8 (p0 >>> (16 &&& 31))))))))] := hD
  refine lv_aload_n hx hb dX8_put_30 rfl (lv_at hl 0 rfl) ?_
  refine va_get (D := (dC, dI)) (ci := 8) (v := .ref (b 1)) (C := RX8) (T := TX8) (N := 49) hx hb hw zz_inX8 hown hK hP 0 rfl rfl 0 (by decide) (hw _ tw_112) (fun _ h9 => h9) rfl dX8_put_31 ?_
  refine lv_aload_n hx hb dX8_put_34 rfl (lv_at hl 0 rfl) ?_
  refine va_get (D := (dC, dI)) (ci := 8) (v := .int 16) (C := RX8) (T := TX8) (N := 49) hx hb hw zz_inX8 hown hK hP 0 rfl rfl 1 (by decide) (hw _ tw_113) (fun _ h9 => h9) rfl dX8_put_35 ?_
  refine lv_iconst (v := 2) hx hb dX8_put_38 (by decide) ?_
  refine lv_iadd hx hb dX8_put_39 ?_
  refine zz_seti 18 (by decide) ?_
  refine lv_iload_n hx hb dX8_put_40 rfl (lv_at hl 1 rfl) ?_
  refine lv_bipush (v := 8) hx hb dX8_put_41 (by decide) ?_
  refine lv_ishr hx hb dX8_put_43 ?_
  refine lv_i2b (v := (Int8.toInt32 (Int32.toInt8 (p0 >>> (8 &&& 31))))) hx hb dX8_put_44 rfl ?_
  refine va_bast hx hb hK hP hD hS 1 0 rfl rfl (zz_vin (by decide)) dX8_put_45 (fun H locs hP hD hS => ?_)
  have hP : va_P (dC, dI) vwCl [(b 0, .inr (8, [.ref (b 1), .int 16, .int 0, .int 0, .int 0, .int 0, .int 0, .int 0, .int (-1), .int (-1), .ref (b 11), .ref (b 12), .ref (b 13), .int 0, .int 0, .ref (b 16), .ref (b 17), .ref (b 18), .ref (b 19), .ref (b 20), .ref (b 21), .ref (b 22), .ref (b 23), .ref (b 24), .int 0, .ref (b 26), .ref (b 27), .ref (b 28), .ref (b 29), .ref (b 30), .ref (b 31), .ref (b 32), .int 0, .int 0, .ref (b 35), .ref (b 36), .ref (b 37), .ref (b 38), .ref (b 39), .ref (b 40), .int 0, .ref (b 42), .ref (b 43), .ref (b 44), .int 0, .ref (b 46), .ref (b 47), .int 0, .ref (b 49)])), (b 1, .inl (cB, 200, .inl (upd (upd (upd f (Int32.toNatClampNeg 16) (vp_nar .byte (Int8.toInt32 (Int32.toInt8 (p0 >>> (24 &&& 31)))))) (Int32.toNatClampNeg 17) (vp_nar .byte (Int8.toInt32 (Int32.toInt8 (p0 >>> (16 &&& 31)))))) (Int32.toNatClampNeg 18) (vp_nar .byte (Int8.toInt32 (Int32.toInt8 (p0 >>> (8 &&& 31))))))))] H := hP
  have hD : va_D A [(b 0, .inr (8, [.ref (b 1), .int 16, .int 0, .int 0, .int 0, .int 0, .int 0, .int 0, .int (-1), .int (-1), .ref (b 11), .ref (b 12), .ref (b 13), .int 0, .int 0, .ref (b 16), .ref (b 17), .ref (b 18), .ref (b 19), .ref (b 20), .ref (b 21), .ref (b 22), .ref (b 23), .ref (b 24), .int 0, .ref (b 26), .ref (b 27), .ref (b 28), .ref (b 29), .ref (b 30), .ref (b 31), .ref (b 32), .int 0, .int 0, .ref (b 35), .ref (b 36), .ref (b 37), .ref (b 38), .ref (b 39), .ref (b 40), .int 0, .ref (b 42), .ref (b 43), .ref (b 44), .int 0, .ref (b 46), .ref (b 47), .int 0, .ref (b 49)])), (b 1, .inl (cB, 200, .inl (upd (upd (upd f (Int32.toNatClampNeg 16) (vp_nar .byte (Int8.toInt32 (Int32.toInt8 (p0 >>> (24 &&& 31)))))) (Int32.toNatClampNeg 17) (vp_nar .byte (Int8.toInt32 (Int32.toInt8 (p0 >>> (16 &&& 31)))))) (Int32.toNatClampNeg 18) (vp_nar .byte (Int8.toInt32 (Int32.toInt8 (p0 >>> (8 &&& 31))))))))] := hD
  refine lv_aload_n hx hb dX8_put_46 rfl (lv_at hl 0 rfl) ?_
  refine va_get (D := (dC, dI)) (ci := 8) (v := .ref (b 1)) (C := RX8) (T := TX8) (N := 49) hx hb hw zz_inX8 hown hK hP 0 rfl rfl 0 (by decide) (hw _ tw_112) (fun _ h9 => h9) rfl dX8_put_47 ?_
  refine lv_aload_n hx hb dX8_put_50 rfl (lv_at hl 0 rfl) ?_
  refine va_get (D := (dC, dI)) (ci := 8) (v := .int 16) (C := RX8) (T := TX8) (N := 49) hx hb hw zz_inX8 hown hK hP 0 rfl rfl 1 (by decide) (hw _ tw_113) (fun _ h9 => h9) rfl dX8_put_51 ?_
  refine lv_iconst (v := 3) hx hb dX8_put_54 (by decide) ?_
  refine lv_iadd hx hb dX8_put_55 ?_
  refine zz_seti 19 (by decide) ?_
  refine lv_iload_n hx hb dX8_put_56 rfl (lv_at hl 1 rfl) ?_
  refine lv_i2b (v := (Int8.toInt32 (Int32.toInt8 p0))) hx hb dX8_put_57 rfl ?_
  refine va_bast hx hb hK hP hD hS 1 0 rfl rfl (zz_vin (by decide)) dX8_put_58 (fun H locs hP hD hS => ?_)
  have hP : va_P (dC, dI) vwCl [(b 0, .inr (8, [.ref (b 1), .int 16, .int 0, .int 0, .int 0, .int 0, .int 0, .int 0, .int (-1), .int (-1), .ref (b 11), .ref (b 12), .ref (b 13), .int 0, .int 0, .ref (b 16), .ref (b 17), .ref (b 18), .ref (b 19), .ref (b 20), .ref (b 21), .ref (b 22), .ref (b 23), .ref (b 24), .int 0, .ref (b 26), .ref (b 27), .ref (b 28), .ref (b 29), .ref (b 30), .ref (b 31), .ref (b 32), .int 0, .int 0, .ref (b 35), .ref (b 36), .ref (b 37), .ref (b 38), .ref (b 39), .ref (b 40), .int 0, .ref (b 42), .ref (b 43), .ref (b 44), .int 0, .ref (b 46), .ref (b 47), .int 0, .ref (b 49)])), (b 1, .inl (cB, 200, .inl (upd (upd (upd (upd f (Int32.toNatClampNeg 16) (vp_nar .byte (Int8.toInt32 (Int32.toInt8 (p0 >>> (24 &&& 31)))))) (Int32.toNatClampNeg 17) (vp_nar .byte (Int8.toInt32 (Int32.toInt8 (p0 >>> (16 &&& 31)))))) (Int32.toNatClampNeg 18) (vp_nar .byte (Int8.toInt32 (Int32.toInt8 (p0 >>> (8 &&& 31)))))) (Int32.toNatClampNeg 19) (vp_nar .byte (Int8.toInt32 (Int32.toInt8 p0))))))] H := hP
  have hD : va_D A [(b 0, .inr (8, [.ref (b 1), .int 16, .int 0, .int 0, .int 0, .int 0, .int 0, .int 0, .int (-1), .int (-1), .ref (b 11), .ref (b 12), .ref (b 13), .int 0, .int 0, .ref (b 16), .ref (b 17), .ref (b 18), .ref (b 19), .ref (b 20), .ref (b 21), .ref (b 22), .ref (b 23), .ref (b 24), .int 0, .ref (b 26), .ref (b 27), .ref (b 28), .ref (b 29), .ref (b 30), .ref (b 31), .ref (b 32), .int 0, .int 0, .ref (b 35), .ref (b 36), .ref (b 37), .ref (b 38), .ref (b 39), .ref (b 40), .int 0, .ref (b 42), .ref (b 43), .ref (b 44), .int 0, .ref (b 46), .ref (b 47), .int 0, .ref (b 49)])), (b 1, .inl (cB, 200, .inl (upd (upd (upd (upd f (Int32.toNatClampNeg 16) (vp_nar .byte (Int8.toInt32 (Int32.toInt8 (p0 >>> (24 &&& 31)))))) (Int32.toNatClampNeg 17) (vp_nar .byte (Int8.toInt32 (Int32.toInt8 (p0 >>> (16 &&& 31)))))) (Int32.toNatClampNeg 18) (vp_nar .byte (Int8.toInt32 (Int32.toInt8 (p0 >>> (8 &&& 31)))))) (Int32.toNatClampNeg 19) (vp_nar .byte (Int8.toInt32 (Int32.toInt8 p0))))))] := hD
  refine lv_aload_n hx hb dX8_put_59 rfl (lv_at hl 0 rfl) ?_
  refine lv_dup hx hb dX8_put_60 rfl ?_
  refine va_get (D := (dC, dI)) (ci := 8) (v := .int 16) (C := RX8) (T := TX8) (N := 49) hx hb hw zz_inX8 hown hK hP 0 rfl rfl 1 (by decide) (hw _ tw_113) (fun _ h9 => h9) rfl dX8_put_61 ?_
  refine lv_iconst (v := 4) hx hb dX8_put_64 (by decide) ?_
  refine lv_iadd hx hb dX8_put_65 ?_
  refine zz_seti 20 (by decide) ?_
  refine va_put (D := (dC, dI)) (ci := 8) (v := .int 20) (ty := .int) (C := RX8) (T := TX8) (N := 49) hx hb hw zz_inX8 tyX8 tyX8_ok nmX8 hown hK hP hD hS 0 rfl rfl 1 (by decide) (hw _ tw_113) (fun _ h9 => h9) rfl (by decide +kernel) rfl rfl (Nat.le_of_ble_eq_true rfl) dX8_put_66 (fun H locs hP hD hS => ?_)
  have hP : va_P (dC, dI) vwCl [(b 0, .inr (8, [.ref (b 1), .int 20, .int 0, .int 0, .int 0, .int 0, .int 0, .int 0, .int (-1), .int (-1), .ref (b 11), .ref (b 12), .ref (b 13), .int 0, .int 0, .ref (b 16), .ref (b 17), .ref (b 18), .ref (b 19), .ref (b 20), .ref (b 21), .ref (b 22), .ref (b 23), .ref (b 24), .int 0, .ref (b 26), .ref (b 27), .ref (b 28), .ref (b 29), .ref (b 30), .ref (b 31), .ref (b 32), .int 0, .int 0, .ref (b 35), .ref (b 36), .ref (b 37), .ref (b 38), .ref (b 39), .ref (b 40), .int 0, .ref (b 42), .ref (b 43), .ref (b 44), .int 0, .ref (b 46), .ref (b 47), .int 0, .ref (b 49)])), (b 1, .inl (cB, 200, .inl (upd (upd (upd (upd f (Int32.toNatClampNeg 16) (vp_nar .byte (Int8.toInt32 (Int32.toInt8 (p0 >>> (24 &&& 31)))))) (Int32.toNatClampNeg 17) (vp_nar .byte (Int8.toInt32 (Int32.toInt8 (p0 >>> (16 &&& 31)))))) (Int32.toNatClampNeg 18) (vp_nar .byte (Int8.toInt32 (Int32.toInt8 (p0 >>> (8 &&& 31)))))) (Int32.toNatClampNeg 19) (vp_nar .byte (Int8.toInt32 (Int32.toInt8 p0))))))] H := hP
  have hD : va_D A [(b 0, .inr (8, [.ref (b 1), .int 20, .int 0, .int 0, .int 0, .int 0, .int 0, .int 0, .int (-1), .int (-1), .ref (b 11), .ref (b 12), .ref (b 13), .int 0, .int 0, .ref (b 16), .ref (b 17), .ref (b 18), .ref (b 19), .ref (b 20), .ref (b 21), .ref (b 22), .ref (b 23), .ref (b 24), .int 0, .ref (b 26), .ref (b 27), .ref (b 28), .ref (b 29), .ref (b 30), .ref (b 31), .ref (b 32), .int 0, .int 0, .ref (b 35), .ref (b 36), .ref (b 37), .ref (b 38), .ref (b 39), .ref (b 40), .int 0, .ref (b 42), .ref (b 43), .ref (b 44), .int 0, .ref (b 46), .ref (b 47), .int 0, .ref (b 49)])), (b 1, .inl (cB, 200, .inl (upd (upd (upd (upd f (Int32.toNatClampNeg 16) (vp_nar .byte (Int8.toInt32 (Int32.toInt8 (p0 >>> (24 &&& 31)))))) (Int32.toNatClampNeg 17) (vp_nar .byte (Int8.toInt32 (Int32.toInt8 (p0 >>> (16 &&& 31)))))) (Int32.toNatClampNeg 18) (vp_nar .byte (Int8.toInt32 (Int32.toInt8 (p0 >>> (8 &&& 31)))))) (Int32.toNatClampNeg 19) (vp_nar .byte (Int8.toInt32 (Int32.toInt8 p0))))))] := hD
  have hP9 := hP.sub (ws' := [(b 0, .inr (8, [.ref (b 1), .int 20, .int 0, .int 0, .int 0, .int 0, .int 0, .int 0, .int (-1), .int (-1), .ref (b 11), .ref (b 12), .ref (b 13), .int 0, .int 0, .ref (b 16), .ref (b 17), .ref (b 18), .ref (b 19), .ref (b 20), .ref (b 21), .ref (b 22), .ref (b 23), .ref (b 24), .int 0, .ref (b 26), .ref (b 27), .ref (b 28), .ref (b 29), .ref (b 30), .ref (b 31), .ref (b 32), .int 0, .int 0, .ref (b 35), .ref (b 36), .ref (b 37), .ref (b 38), .ref (b 39), .ref (b 40), .int 0, .ref (b 42), .ref (b 43), .ref (b 44), .int 0, .ref (b 46), .ref (b 47), .int 0, .ref (b 49)])), (b 1, .inl (cB, 200, .inl (upd (upd (upd (upd f (Int32.toNatClampNeg 16) (vp_nar .byte (Int8.toInt32 (Int32.toInt8 (p0 >>> (24 &&& 31)))))) (Int32.toNatClampNeg 17) (vp_nar .byte (Int8.toInt32 (Int32.toInt8 (p0 >>> (16 &&& 31)))))) (Int32.toNatClampNeg 18) (vp_nar .byte (Int8.toInt32 (Int32.toInt8 (p0 >>> (8 &&& 31)))))) (Int32.toNatClampNeg 19) (vp_nar .byte (Int8.toInt32 (Int32.toInt8 p0))))))]) [0, 1] rfl
  have hD9 := hD.sub (ws' := [(b 0, .inr (8, [.ref (b 1), .int 20, .int 0, .int 0, .int 0, .int 0, .int 0, .int 0, .int (-1), .int (-1), .ref (b 11), .ref (b 12), .ref (b 13), .int 0, .int 0, .ref (b 16), .ref (b 17), .ref (b 18), .ref (b 19), .ref (b 20), .ref (b 21), .ref (b 22), .ref (b 23), .ref (b 24), .int 0, .ref (b 26), .ref (b 27), .ref (b 28), .ref (b 29), .ref (b 30), .ref (b 31), .ref (b 32), .int 0, .int 0, .ref (b 35), .ref (b 36), .ref (b 37), .ref (b 38), .ref (b 39), .ref (b 40), .int 0, .ref (b 42), .ref (b 43), .ref (b 44), .int 0, .ref (b 46), .ref (b 47), .int 0, .ref (b 49)])), (b 1, .inl (cB, 200, .inl (upd (upd (upd (upd f (Int32.toNatClampNeg 16) (vp_nar .byte (Int8.toInt32 (Int32.toInt8 (p0 >>> (24 &&& 31)))))) (Int32.toNatClampNeg 17) (vp_nar .byte (Int8.toInt32 (Int32.toInt8 (p0 >>> (16 &&& 31)))))) (Int32.toNatClampNeg 18) (vp_nar .byte (Int8.toInt32 (Int32.toInt8 (p0 >>> (8 &&& 31)))))) (Int32.toNatClampNeg 19) (vp_nar .byte (Int8.toInt32 (Int32.toInt8 p0))))))]) [0, 1] (by decide) rfl
  have hK9 := hK.sub (tys' := [(cB, .byte)]) [0] rfl
  exact W.vret hx hb hr (fun t ht hW => ⟨⟨((upd (upd (upd (upd f (Int32.toNatClampNeg 16) (vp_nar .byte (Int8.toInt32 (Int32.toInt8 (p0 >>> (24 &&& 31)))))) (Int32.toNatClampNeg 17) (vp_nar .byte (Int8.toInt32 (Int32.toInt8 (p0 >>> (16 &&& 31)))))) (Int32.toNatClampNeg 18) (vp_nar .byte (Int8.toInt32 (Int32.toInt8 (p0 >>> (8 &&& 31)))))) (Int32.toNatClampNeg 19) (vp_nar .byte (Int8.toInt32 (Int32.toInt8 p0))))), rfl, trivial, by rw [ht]; exact hP9, va_K.moved hW.alike hK9, hD9⟩, hS.F ht⟩) hS.2.2 dX8_put_69

set_option maxHeartbeats 4000000 in
set_option maxRecDepth 100000 in
theorem m_feed (l : Launch) (dC : Nat → ClassId) (dI : Nat → Nat → Nat) (b : Nat → Nat) (cB : ClassId) (p0 : Int32) (p1 : Int32) (p2 : Int32) (p3 : Int32) (p4 : Int32) (sz : Nat) : Met l yX8_feed (zz_w yX8_feed cX8_feed 6 (some .int)) ({ frames := 1, cells := 0, slots := 0, locals := 21 }) (va_Pc [.ref (b 0), .int p0, .int p1, .int p2, .int p3, .int p4] (zz_B (dC, dI) sz [(b 0, .inr (8, [.ref (b 1), .int 0, .int 0, .int 0, .int 0, .int 0, .int 0, .int 0, .int (-1), .int (-1), .ref (b 11), .ref (b 12), .ref (b 13), .int 0, .int 0, .ref (b 16), .ref (b 17), .ref (b 18), .ref (b 19), .ref (b 20), .ref (b 21), .ref (b 22), .ref (b 23), .ref (b 24), .int 0, .ref (b 26), .ref (b 27), .ref (b 28), .ref (b 29), .ref (b 30), .ref (b 31), .ref (b 32), .int 0, .int 0, .ref (b 35), .ref (b 36), .ref (b 37), .ref (b 38), .ref (b 39), .ref (b 40), .int 0, .ref (b 42), .ref (b 43), .ref (b 44), .int 0, .ref (b 46), .ref (b 47), .int 0, .ref (b 49)])), (b 1, .inl (cB, 200, .inl (fun _ => (0 : Int32))))] [(cB, .byte)])) (va_Qi (fun (r : Int32) (_ : Unit) => r = 20) (fun _ _ => True) (va_A [(b 0, .inr (8, [.ref (b 1), .int 0, .int 0, .int 0, .int 0, .int 0, .int 0, .int 0, .int (-1), .int (-1), .ref (b 11), .ref (b 12), .ref (b 13), .int 0, .int 0, .ref (b 16), .ref (b 17), .ref (b 18), .ref (b 19), .ref (b 20), .ref (b 21), .ref (b 22), .ref (b 23), .ref (b 24), .int 0, .ref (b 26), .ref (b 27), .ref (b 28), .ref (b 29), .ref (b 30), .ref (b 31), .ref (b 32), .int 0, .int 0, .ref (b 35), .ref (b 36), .ref (b 37), .ref (b 38), .ref (b 39), .ref (b 40), .int 0, .ref (b 42), .ref (b 43), .ref (b 44), .int 0, .ref (b 46), .ref (b 47), .int 0, .ref (b 49)])), (b 1, .inl (cB, 200, .inl (fun _ => (0 : Int32))))] sz)) 0 0 (va_A [(b 0, .inr (8, [.ref (b 1), .int 0, .int 0, .int 0, .int 0, .int 0, .int 0, .int 0, .int (-1), .int (-1), .ref (b 11), .ref (b 12), .ref (b 13), .int 0, .int 0, .ref (b 16), .ref (b 17), .ref (b 18), .ref (b 19), .ref (b 20), .ref (b 21), .ref (b 22), .ref (b 23), .ref (b 24), .int 0, .ref (b 26), .ref (b 27), .ref (b 28), .ref (b 29), .ref (b 30), .ref (b 31), .ref (b 32), .int 0, .int 0, .ref (b 35), .ref (b 36), .ref (b 37), .ref (b 38), .ref (b 39), .ref (b 40), .int 0, .ref (b 42), .ref (b 43), .ref (b 44), .int 0, .ref (b 46), .ref (b 47), .int 0, .ref (b 49)])), (b 1, .inl (cB, 200, .inl (fun _ => (0 : Int32))))] sz) := by
  refine Met.ofW (cc := cX8_feed) (maxL := 6) (ret := (some .int)) (by decide) rfl ?_
  intro p e s m args below meth c s₁ B hml hv
  obtain ⟨rfl, hsz, hP, hK, hD0, hN⟩ := hv
  have hx := B.exec
  have hb := B.bytes
  have hr := B.returns
  have hts := atoms_spec (ws := zz_w yX8_feed cX8_feed 6 (some .int)) B.pre
  have hw : ∀ w ∈ zz_all, w.before _ s = true := fun w h => hts w (List.mem_cons_of_mem _ h)
  have hown : s.vm.findClass RX8 = some m.cls := findClass_of_methodNamed B.named
  have hlocks := B.notSynchronized
  subst hsz
  have hD := hD0.self (sz := s.heap.size)
  generalize hAe : va_A [(b 0, .inr (8, [.ref (b 1), .int 0, .int 0, .int 0, .int 0, .int 0, .int 0, .int 0, .int (-1), .int (-1), .ref (b 11), .ref (b 12), .ref (b 13), .int 0, .int 0, .ref (b 16), .ref (b 17), .ref (b 18), .ref (b 19), .ref (b 20), .ref (b 21), .ref (b 22), .ref (b 23), .ref (b 24), .int 0, .ref (b 26), .ref (b 27), .ref (b 28), .ref (b 29), .ref (b 30), .ref (b 31), .ref (b 32), .int 0, .int 0, .ref (b 35), .ref (b 36), .ref (b 37), .ref (b 38), .ref (b 39), .ref (b 40), .int 0, .ref (b 42), .ref (b 43), .ref (b 44), .int 0, .ref (b 46), .ref (b 47), .int 0, .ref (b 49)])), (b 1, .inl (cB, 200, .inl (fun _ => (0 : Int32))))] s.heap.size = A at hD ⊢
  have hA : ∀ q : Nat, s.heap.size ≤ q → A q := fun q h => by rw [← hAe]; exact Or.inr h
  have hS : va_S A s.heap s.heap [] := va_S.rf
  have hP : va_P (dC, dI) vwCl [(b 0, .inr (8, [.ref (b 1), .int 0, .int 0, .int 0, .int 0, .int 0, .int 0, .int 0, .int (-1), .int (-1), .ref (b 11), .ref (b 12), .ref (b 13), .int 0, .int 0, .ref (b 16), .ref (b 17), .ref (b 18), .ref (b 19), .ref (b 20), .ref (b 21), .ref (b 22), .ref (b 23), .ref (b 24), .int 0, .ref (b 26), .ref (b 27), .ref (b 28), .ref (b 29), .ref (b 30), .ref (b 31), .ref (b 32), .int 0, .int 0, .ref (b 35), .ref (b 36), .ref (b 37), .ref (b 38), .ref (b 39), .ref (b 40), .int 0, .ref (b 42), .ref (b 43), .ref (b 44), .int 0, .ref (b 46), .ref (b 47), .int 0, .ref (b 49)])), (b 1, .inl (cB, 200, .inl (fun _ => (0 : Int32))))] s.heap := hP
  have hl := lv_entry ([.ref (b 0), .int p0, .int p1, .int p2, .int p3, .int p4]) (n := 6) (Nat.le_of_ble_eq_true rfl)
  rw [lg_entry_eq]
  generalize (lg_sl ([.ref (b 0), .int p0, .int p1, .int p2, .int p3, .int p4]) ++ List.replicate (6 - (lg_sl ([.ref (b 0), .int p0, .int p1, .int p2, .int p3, .int p4])).length) Slot.unset).toArray = ls at hl ⊢
  have hl : lv_has ls 6 [(0, .ref (b 0)), (1, .int p0), (2, .int p1), (3, .int p2), (4, .int p3), (5, .int p4)] := hl
  refine lv_aload_n hx hb dX8_feed_0 rfl (lv_at hl 0 rfl) ?_
  refine va_get (D := (dC, dI)) (ci := 8) (v := .int 0) (C := RX8) (T := TX8) (N := 49) hx hb hw zz_inX8 hown hK hP 0 rfl rfl 1 (by decide) (hw _ tw_113) (fun _ h9 => h9) rfl dX8_feed_1 ?_
  refine lv_bipush (v := 20) hx hb dX8_feed_4 (by decide) ?_
  refine lv_iadd hx hb dX8_feed_6 ?_
  refine zz_seti 20 (by decide) ?_
  refine lv_sipush (v := 200) hx hb dX8_feed_7 (by decide) ?_
  refine lv_icmp_le (tgt := 15) hx hb dX8_feed_10 (by decide) (fun _ => ?_) (fun c_9 => absurd c_9 (by decide))
  refine lv_aload_n hx hb dX8_feed_15 rfl (lv_at hl 0 rfl) ?_
  refine lv_iload_n hx hb dX8_feed_16 rfl (lv_at hl 1 rfl) ?_
  have hPc := hP.sub (ws' := [(b 0, .inr (8, [.ref (b 1), .int 0, .int 0, .int 0, .int 0, .int 0, .int 0, .int 0, .int (-1), .int (-1), .ref (b 11), .ref (b 12), .ref (b 13), .int 0, .int 0, .ref (b 16), .ref (b 17), .ref (b 18), .ref (b 19), .ref (b 20), .ref (b 21), .ref (b 22), .ref (b 23), .ref (b 24), .int 0, .ref (b 26), .ref (b 27), .ref (b 28), .ref (b 29), .ref (b 30), .ref (b 31), .ref (b 32), .int 0, .int 0, .ref (b 35), .ref (b 36), .ref (b 37), .ref (b 38), .ref (b 39), .ref (b 40), .int 0, .ref (b 42), .ref (b 43), .ref (b 44), .int 0, .ref (b 46), .ref (b 47), .int 0, .ref (b 49)])), (b 1, .inl (cB, 200, .inl (fun _ => (0 : Int32))))]) [0, 1] rfl
  have hDc := hD.sub (ws' := [(b 0, .inr (8, [.ref (b 1), .int 0, .int 0, .int 0, .int 0, .int 0, .int 0, .int 0, .int (-1), .int (-1), .ref (b 11), .ref (b 12), .ref (b 13), .int 0, .int 0, .ref (b 16), .ref (b 17), .ref (b 18), .ref (b 19), .ref (b 20), .ref (b 21), .ref (b 22), .ref (b 23), .ref (b 24), .int 0, .ref (b 26), .ref (b 27), .ref (b 28), .ref (b 29), .ref (b 30), .ref (b 31), .ref (b 32), .int 0, .int 0, .ref (b 35), .ref (b 36), .ref (b 37), .ref (b 38), .ref (b 39), .ref (b 40), .int 0, .ref (b 42), .ref (b 43), .ref (b 44), .int 0, .ref (b 46), .ref (b 47), .int 0, .ref (b 49)])), (b 1, .inl (cB, 200, .inl (fun _ => (0 : Int32))))]) [0, 1] (by decide) rfl
  have hKc := hK.sub (tys' := [(cB, .byte)]) [0] rfl
  have hFc := va_free (wc := [(b 0, .inr (8, [.ref (b 1), .int 0, .int 0, .int 0, .int 0, .int 0, .int 0, .int 0, .int (-1), .int (-1), .ref (b 11), .ref (b 12), .ref (b 13), .int 0, .int 0, .ref (b 16), .ref (b 17), .ref (b 18), .ref (b 19), .ref (b 20), .ref (b 21), .ref (b 22), .ref (b 23), .ref (b 24), .int 0, .ref (b 26), .ref (b 27), .ref (b 28), .ref (b 29), .ref (b 30), .ref (b 31), .ref (b 32), .int 0, .int 0, .ref (b 35), .ref (b 36), .ref (b 37), .ref (b 38), .ref (b 39), .ref (b 40), .int 0, .ref (b 42), .ref (b 43), .ref (b 44), .int 0, .ref (b 46), .ref (b 47), .int 0, .ref (b 49)])), (b 1, .inl (cB, 200, .inl (fun _ => (0 : Int32))))]) hD hS hA [0, 1] rfl
  refine va_callv (va_runV (As := [.int p0]) (rest := []) ⟨hx, hb, hml, hown, hw⟩ (m_put0 l dC dI b cB (fun _ => (0 : Int32)) p0 s.heap.size) ⟨callB_of 1 hw (zz_good tw_114) rfl rfl rfl (hw _ tw_95) (hw _ tw_115) (by decide +kernel) ⟨Nat.le_of_ble_eq_true rfl, Nat.le_of_ble_eq_true rfl⟩, (hw _ tw_116), (hw _ tw_117)⟩ ⟨zz_blind, va_recv hKc hPc (ci := 8) (q0 := 0) rfl rfl, zz_pre hPc hKc hDc hN⟩ rfl rfl hl.1 rfl (lv_room (Nat.le_of_ble_eq_true rfl)) dX8_feed_17 ⟨Nat.le_of_ble_eq_true rfl, Nat.le_of_ble_eq_true rfl⟩) hS (fun q _ h => hFc q h) hFc (fun u_1 t H1 locs ht hvm e_1 hB hz1 hk1 hS => ?_)
  try dsimp only at e_1
  obtain ⟨v_1_0, rfl⟩ : ∃ z, z = u_1 := ⟨_, rfl⟩
  obtain ⟨hP1, hK1, hD1⟩ := hB
  rw [ht] at hP1
  have hK1 := va_K.moved hvm.symm hK1
  try dsimp only at e_1
  obtain ⟨hP, hD⟩ := va_join (wr := []) (w1 := [(b 0, .inr (8, [.ref (b 1), .int 4, .int 0, .int 0, .int 0, .int 0, .int 0, .int 0, .int (-1), .int (-1), .ref (b 11), .ref (b 12), .ref (b 13), .int 0, .int 0, .ref (b 16), .ref (b 17), .ref (b 18), .ref (b 19), .ref (b 20), .ref (b 21), .ref (b 22), .ref (b 23), .ref (b 24), .int 0, .ref (b 26), .ref (b 27), .ref (b 28), .ref (b 29), .ref (b 30), .ref (b 31), .ref (b 32), .int 0, .int 0, .ref (b 35), .ref (b 36), .ref (b 37), .ref (b 38), .ref (b 39), .ref (b 40), .int 0, .ref (b 42), .ref (b 43), .ref (b 44), .int 0, .ref (b 46), .ref (b 47), .int 0, .ref (b 49)])), (b 1, .inl (cB, 200, .inl v_1_0))]) hP hD [0, 1] [] rfl rfl (by decide) (by decide) hk1 hFc hP1 hD1
  clear hk1 ht hvm
  generalize H1 = H at hP hS ⊢
  have hP : va_P (dC, dI) vwCl [(b 0, .inr (8, [.ref (b 1), .int 4, .int 0, .int 0, .int 0, .int 0, .int 0, .int 0, .int (-1), .int (-1), .ref (b 11), .ref (b 12), .ref (b 13), .int 0, .int 0, .ref (b 16), .ref (b 17), .ref (b 18), .ref (b 19), .ref (b 20), .ref (b 21), .ref (b 22), .ref (b 23), .ref (b 24), .int 0, .ref (b 26), .ref (b 27), .ref (b 28), .ref (b 29), .ref (b 30), .ref (b 31), .ref (b 32), .int 0, .int 0, .ref (b 35), .ref (b 36), .ref (b 37), .ref (b 38), .ref (b 39), .ref (b 40), .int 0, .ref (b 42), .ref (b 43), .ref (b 44), .int 0, .ref (b 46), .ref (b 47), .int 0, .ref (b 49)])), (b 1, .inl (cB, 200, .inl v_1_0))] H := hP
  have hD : va_D A [(b 0, .inr (8, [.ref (b 1), .int 4, .int 0, .int 0, .int 0, .int 0, .int 0, .int 0, .int (-1), .int (-1), .ref (b 11), .ref (b 12), .ref (b 13), .int 0, .int 0, .ref (b 16), .ref (b 17), .ref (b 18), .ref (b 19), .ref (b 20), .ref (b 21), .ref (b 22), .ref (b 23), .ref (b 24), .int 0, .ref (b 26), .ref (b 27), .ref (b 28), .ref (b 29), .ref (b 30), .ref (b 31), .ref (b 32), .int 0, .int 0, .ref (b 35), .ref (b 36), .ref (b 37), .ref (b 38), .ref (b 39), .ref (b 40), .int 0, .ref (b 42), .ref (b 43), .ref (b 44), .int 0, .ref (b 46), .ref (b 47), .int 0, .ref (b 49)])), (b 1, .inl (cB, 200, .inl v_1_0))] := hD
  refine lv_aload_n hx hb dX8_feed_20 rfl (lv_at hl 0 rfl) ?_
  refine lv_iload_n hx hb dX8_feed_21 rfl (lv_at hl 2 rfl) ?_
  have hPc := hP.sub (ws' := [(b 0, .inr (8, [.ref (b 1), .int 4, .int 0, .int 0, .int 0, .int 0, .int 0, .int 0, .int (-1), .int (-1), .ref (b 11), .ref (b 12), .ref (b 13), .int 0, .int 0, .ref (b 16), .ref (b 17), .ref (b 18), .ref (b 19), .ref (b 20), .ref (b 21), .ref (b 22), .ref (b 23), .ref (b 24), .int 0, .ref (b 26), .ref (b 27), .ref (b 28), .ref (b 29), .ref (b 30), .ref (b 31), .ref (b 32), .int 0, .int 0, .ref (b 35), .ref (b 36), .ref (b 37), .ref (b 38), .ref (b 39), .ref (b 40), .int 0, .ref (b 42), .ref (b 43), .ref (b 44), .int 0, .ref (b 46), .ref (b 47), .int 0, .ref (b 49)])), (b 1, .inl (cB, 200, .inl v_1_0))]) [0, 1] rfl
  have hDc := hD.sub (ws' := [(b 0, .inr (8, [.ref (b 1), .int 4, .int 0, .int 0, .int 0, .int 0, .int 0, .int 0, .int (-1), .int (-1), .ref (b 11), .ref (b 12), .ref (b 13), .int 0, .int 0, .ref (b 16), .ref (b 17), .ref (b 18), .ref (b 19), .ref (b 20), .ref (b 21), .ref (b 22), .ref (b 23), .ref (b 24), .int 0, .ref (b 26), .ref (b 27), .ref (b 28), .ref (b 29), .ref (b 30), .ref (b 31), .ref (b 32), .int 0, .int 0, .ref (b 35), .ref (b 36), .ref (b 37), .ref (b 38), .ref (b 39), .ref (b 40), .int 0, .ref (b 42), .ref (b 43), .ref (b 44), .int 0, .ref (b 46), .ref (b 47), .int 0, .ref (b 49)])), (b 1, .inl (cB, 200, .inl v_1_0))]) [0, 1] (by decide) rfl
  have hKc := hK.sub (tys' := [(cB, .byte)]) [0] rfl
  have hFc := va_free (wc := [(b 0, .inr (8, [.ref (b 1), .int 4, .int 0, .int 0, .int 0, .int 0, .int 0, .int 0, .int (-1), .int (-1), .ref (b 11), .ref (b 12), .ref (b 13), .int 0, .int 0, .ref (b 16), .ref (b 17), .ref (b 18), .ref (b 19), .ref (b 20), .ref (b 21), .ref (b 22), .ref (b 23), .ref (b 24), .int 0, .ref (b 26), .ref (b 27), .ref (b 28), .ref (b 29), .ref (b 30), .ref (b 31), .ref (b 32), .int 0, .int 0, .ref (b 35), .ref (b 36), .ref (b 37), .ref (b 38), .ref (b 39), .ref (b 40), .int 0, .ref (b 42), .ref (b 43), .ref (b 44), .int 0, .ref (b 46), .ref (b 47), .int 0, .ref (b 49)])), (b 1, .inl (cB, 200, .inl v_1_0))]) hD hS hA [0, 1] rfl
  refine va_callv (va_runV (As := [.int p1]) (rest := []) ⟨hx, hb, hml, hown, hw⟩ (m_put4 l dC dI b cB v_1_0 p1 H.size) ⟨callB_of 1 hw (zz_good tw_114) rfl rfl rfl (hw _ tw_95) (hw _ tw_115) (by decide +kernel) ⟨Nat.le_of_ble_eq_true rfl, Nat.le_of_ble_eq_true rfl⟩, (hw _ tw_116), (hw _ tw_117)⟩ ⟨zz_blind, va_recv hKc hPc (ci := 8) (q0 := 0) rfl rfl, zz_pre hPc hKc hDc hN⟩ rfl rfl hl.1 rfl (lv_room (Nat.le_of_ble_eq_true rfl)) dX8_feed_22 ⟨Nat.le_of_ble_eq_true rfl, Nat.le_of_ble_eq_true rfl⟩) hS (fun q _ h => hFc q h) hFc (fun u_2 t H1 locs ht hvm e_2 hB hz1 hk1 hS => ?_)
  try dsimp only at e_2
  obtain ⟨v_2_0, rfl⟩ : ∃ z, z = u_2 := ⟨_, rfl⟩
  obtain ⟨hP1, hK1, hD1⟩ := hB
  rw [ht] at hP1
  have hK1 := va_K.moved hvm.symm hK1
  try dsimp only at e_2
  obtain ⟨hP, hD⟩ := va_join (wr := []) (w1 := [(b 0, .inr (8, [.ref (b 1), .int 8, .int 0, .int 0, .int 0, .int 0, .int 0, .int 0, .int (-1), .int (-1), .ref (b 11), .ref (b 12), .ref (b 13), .int 0, .int 0, .ref (b 16), .ref (b 17), .ref (b 18), .ref (b 19), .ref (b 20), .ref (b 21), .ref (b 22), .ref (b 23), .ref (b 24), .int 0, .ref (b 26), .ref (b 27), .ref (b 28), .ref (b 29), .ref (b 30), .ref (b 31), .ref (b 32), .int 0, .int 0, .ref (b 35), .ref (b 36), .ref (b 37), .ref (b 38), .ref (b 39), .ref (b 40), .int 0, .ref (b 42), .ref (b 43), .ref (b 44), .int 0, .ref (b 46), .ref (b 47), .int 0, .ref (b 49)])), (b 1, .inl (cB, 200, .inl v_2_0))]) hP hD [0, 1] [] rfl rfl (by decide) (by decide) hk1 hFc hP1 hD1
  clear hk1 ht hvm
  generalize H1 = H at hP hS ⊢
  have hP : va_P (dC, dI) vwCl [(b 0, .inr (8, [.ref (b 1), .int 8, .int 0, .int 0, .int 0, .int 0, .int 0, .int 0, .int (-1), .int (-1), .ref (b 11), .ref (b 12), .ref (b 13), .int 0, .int 0, .ref (b 16), .ref (b 17), .ref (b 18), .ref (b 19), .ref (b 20), .ref (b 21), .ref (b 22), .ref (b 23), .ref (b 24), .int 0, .ref (b 26), .ref (b 27), .ref (b 28), .ref (b 29), .ref (b 30), .ref (b 31), .ref (b 32), .int 0, .int 0, .ref (b 35), .ref (b 36), .ref (b 37), .ref (b 38), .ref (b 39), .ref (b 40), .int 0, .ref (b 42), .ref (b 43), .ref (b 44), .int 0, .ref (b 46), .ref (b 47), .int 0, .ref (b 49)])), (b 1, .inl (cB, 200, .inl v_2_0))] H := hP
  have hD : va_D A [(b 0, .inr (8, [.ref (b 1), .int 8, .int 0, .int 0, .int 0, .int 0, .int 0, .int 0, .int (-1), .int (-1), .ref (b 11), .ref (b 12), .ref (b 13), .int 0, .int 0, .ref (b 16), .ref (b 17), .ref (b 18), .ref (b 19), .ref (b 20), .ref (b 21), .ref (b 22), .ref (b 23), .ref (b 24), .int 0, .ref (b 26), .ref (b 27), .ref (b 28), .ref (b 29), .ref (b 30), .ref (b 31), .ref (b 32), .int 0, .int 0, .ref (b 35), .ref (b 36), .ref (b 37), .ref (b 38), .ref (b 39), .ref (b 40), .int 0, .ref (b 42), .ref (b 43), .ref (b 44), .int 0, .ref (b 46), .ref (b 47), .int 0, .ref (b 49)])), (b 1, .inl (cB, 200, .inl v_2_0))] := hD
  refine lv_aload_n hx hb dX8_feed_25 rfl (lv_at hl 0 rfl) ?_
  refine lv_iload_n hx hb dX8_feed_26 rfl (lv_at hl 3 rfl) ?_
  have hPc := hP.sub (ws' := [(b 0, .inr (8, [.ref (b 1), .int 8, .int 0, .int 0, .int 0, .int 0, .int 0, .int 0, .int (-1), .int (-1), .ref (b 11), .ref (b 12), .ref (b 13), .int 0, .int 0, .ref (b 16), .ref (b 17), .ref (b 18), .ref (b 19), .ref (b 20), .ref (b 21), .ref (b 22), .ref (b 23), .ref (b 24), .int 0, .ref (b 26), .ref (b 27), .ref (b 28), .ref (b 29), .ref (b 30), .ref (b 31), .ref (b 32), .int 0, .int 0, .ref (b 35), .ref (b 36), .ref (b 37), .ref (b 38), .ref (b 39), .ref (b 40), .int 0, .ref (b 42), .ref (b 43), .ref (b 44), .int 0, .ref (b 46), .ref (b 47), .int 0, .ref (b 49)])), (b 1, .inl (cB, 200, .inl v_2_0))]) [0, 1] rfl
  have hDc := hD.sub (ws' := [(b 0, .inr (8, [.ref (b 1), .int 8, .int 0, .int 0, .int 0, .int 0, .int 0, .int 0, .int (-1), .int (-1), .ref (b 11), .ref (b 12), .ref (b 13), .int 0, .int 0, .ref (b 16), .ref (b 17), .ref (b 18), .ref (b 19), .ref (b 20), .ref (b 21), .ref (b 22), .ref (b 23), .ref (b 24), .int 0, .ref (b 26), .ref (b 27), .ref (b 28), .ref (b 29), .ref (b 30), .ref (b 31), .ref (b 32), .int 0, .int 0, .ref (b 35), .ref (b 36), .ref (b 37), .ref (b 38), .ref (b 39), .ref (b 40), .int 0, .ref (b 42), .ref (b 43), .ref (b 44), .int 0, .ref (b 46), .ref (b 47), .int 0, .ref (b 49)])), (b 1, .inl (cB, 200, .inl v_2_0))]) [0, 1] (by decide) rfl
  have hKc := hK.sub (tys' := [(cB, .byte)]) [0] rfl
  have hFc := va_free (wc := [(b 0, .inr (8, [.ref (b 1), .int 8, .int 0, .int 0, .int 0, .int 0, .int 0, .int 0, .int (-1), .int (-1), .ref (b 11), .ref (b 12), .ref (b 13), .int 0, .int 0, .ref (b 16), .ref (b 17), .ref (b 18), .ref (b 19), .ref (b 20), .ref (b 21), .ref (b 22), .ref (b 23), .ref (b 24), .int 0, .ref (b 26), .ref (b 27), .ref (b 28), .ref (b 29), .ref (b 30), .ref (b 31), .ref (b 32), .int 0, .int 0, .ref (b 35), .ref (b 36), .ref (b 37), .ref (b 38), .ref (b 39), .ref (b 40), .int 0, .ref (b 42), .ref (b 43), .ref (b 44), .int 0, .ref (b 46), .ref (b 47), .int 0, .ref (b 49)])), (b 1, .inl (cB, 200, .inl v_2_0))]) hD hS hA [0, 1] rfl
  refine va_callv (va_runV (As := [.int p2]) (rest := []) ⟨hx, hb, hml, hown, hw⟩ (m_put8 l dC dI b cB v_2_0 p2 H.size) ⟨callB_of 1 hw (zz_good tw_114) rfl rfl rfl (hw _ tw_95) (hw _ tw_115) (by decide +kernel) ⟨Nat.le_of_ble_eq_true rfl, Nat.le_of_ble_eq_true rfl⟩, (hw _ tw_116), (hw _ tw_117)⟩ ⟨zz_blind, va_recv hKc hPc (ci := 8) (q0 := 0) rfl rfl, zz_pre hPc hKc hDc hN⟩ rfl rfl hl.1 rfl (lv_room (Nat.le_of_ble_eq_true rfl)) dX8_feed_27 ⟨Nat.le_of_ble_eq_true rfl, Nat.le_of_ble_eq_true rfl⟩) hS (fun q _ h => hFc q h) hFc (fun u_3 t H1 locs ht hvm e_3 hB hz1 hk1 hS => ?_)
  try dsimp only at e_3
  obtain ⟨v_3_0, rfl⟩ : ∃ z, z = u_3 := ⟨_, rfl⟩
  obtain ⟨hP1, hK1, hD1⟩ := hB
  rw [ht] at hP1
  have hK1 := va_K.moved hvm.symm hK1
  try dsimp only at e_3
  obtain ⟨hP, hD⟩ := va_join (wr := []) (w1 := [(b 0, .inr (8, [.ref (b 1), .int 12, .int 0, .int 0, .int 0, .int 0, .int 0, .int 0, .int (-1), .int (-1), .ref (b 11), .ref (b 12), .ref (b 13), .int 0, .int 0, .ref (b 16), .ref (b 17), .ref (b 18), .ref (b 19), .ref (b 20), .ref (b 21), .ref (b 22), .ref (b 23), .ref (b 24), .int 0, .ref (b 26), .ref (b 27), .ref (b 28), .ref (b 29), .ref (b 30), .ref (b 31), .ref (b 32), .int 0, .int 0, .ref (b 35), .ref (b 36), .ref (b 37), .ref (b 38), .ref (b 39), .ref (b 40), .int 0, .ref (b 42), .ref (b 43), .ref (b 44), .int 0, .ref (b 46), .ref (b 47), .int 0, .ref (b 49)])), (b 1, .inl (cB, 200, .inl v_3_0))]) hP hD [0, 1] [] rfl rfl (by decide) (by decide) hk1 hFc hP1 hD1
  clear hk1 ht hvm
  generalize H1 = H at hP hS ⊢
  have hP : va_P (dC, dI) vwCl [(b 0, .inr (8, [.ref (b 1), .int 12, .int 0, .int 0, .int 0, .int 0, .int 0, .int 0, .int (-1), .int (-1), .ref (b 11), .ref (b 12), .ref (b 13), .int 0, .int 0, .ref (b 16), .ref (b 17), .ref (b 18), .ref (b 19), .ref (b 20), .ref (b 21), .ref (b 22), .ref (b 23), .ref (b 24), .int 0, .ref (b 26), .ref (b 27), .ref (b 28), .ref (b 29), .ref (b 30), .ref (b 31), .ref (b 32), .int 0, .int 0, .ref (b 35), .ref (b 36), .ref (b 37), .ref (b 38), .ref (b 39), .ref (b 40), .int 0, .ref (b 42), .ref (b 43), .ref (b 44), .int 0, .ref (b 46), .ref (b 47), .int 0, .ref (b 49)])), (b 1, .inl (cB, 200, .inl v_3_0))] H := hP
  have hD : va_D A [(b 0, .inr (8, [.ref (b 1), .int 12, .int 0, .int 0, .int 0, .int 0, .int 0, .int 0, .int (-1), .int (-1), .ref (b 11), .ref (b 12), .ref (b 13), .int 0, .int 0, .ref (b 16), .ref (b 17), .ref (b 18), .ref (b 19), .ref (b 20), .ref (b 21), .ref (b 22), .ref (b 23), .ref (b 24), .int 0, .ref (b 26), .ref (b 27), .ref (b 28), .ref (b 29), .ref (b 30), .ref (b 31), .ref (b 32), .int 0, .int 0, .ref (b 35), .ref (b 36), .ref (b 37), .ref (b 38), .ref (b 39), .ref (b 40), .int 0, .ref (b 42), .ref (b 43), .ref (b 44), .int 0, .ref (b 46), .ref (b 47), .int 0, .ref (b 49)])), (b 1, .inl (cB, 200, .inl v_3_0))] := hD
  refine lv_aload_n hx hb dX8_feed_30 rfl (lv_at hl 0 rfl) ?_
  refine lv_iload hx hb dX8_feed_31 (lv_at hl 4 rfl) ?_
  have hPc := hP.sub (ws' := [(b 0, .inr (8, [.ref (b 1), .int 12, .int 0, .int 0, .int 0, .int 0, .int 0, .int 0, .int (-1), .int (-1), .ref (b 11), .ref (b 12), .ref (b 13), .int 0, .int 0, .ref (b 16), .ref (b 17), .ref (b 18), .ref (b 19), .ref (b 20), .ref (b 21), .ref (b 22), .ref (b 23), .ref (b 24), .int 0, .ref (b 26), .ref (b 27), .ref (b 28), .ref (b 29), .ref (b 30), .ref (b 31), .ref (b 32), .int 0, .int 0, .ref (b 35), .ref (b 36), .ref (b 37), .ref (b 38), .ref (b 39), .ref (b 40), .int 0, .ref (b 42), .ref (b 43), .ref (b 44), .int 0, .ref (b 46), .ref (b 47), .int 0, .ref (b 49)])), (b 1, .inl (cB, 200, .inl v_3_0))]) [0, 1] rfl
  have hDc := hD.sub (ws' := [(b 0, .inr (8, [.ref (b 1), .int 12, .int 0, .int 0, .int 0, .int 0, .int 0, .int 0, .int (-1), .int (-1), .ref (b 11), .ref (b 12), .ref (b 13), .int 0, .int 0, .ref (b 16), .ref (b 17), .ref (b 18), .ref (b 19), .ref (b 20), .ref (b 21), .ref (b 22), .ref (b 23), .ref (b 24), .int 0, .ref (b 26), .ref (b 27), .ref (b 28), .ref (b 29), .ref (b 30), .ref (b 31), .ref (b 32), .int 0, .int 0, .ref (b 35), .ref (b 36), .ref (b 37), .ref (b 38), .ref (b 39), .ref (b 40), .int 0, .ref (b 42), .ref (b 43), .ref (b 44), .int 0, .ref (b 46), .ref (b 47), .int 0, .ref (b 49)])), (b 1, .inl (cB, 200, .inl v_3_0))]) [0, 1] (by decide) rfl
  have hKc := hK.sub (tys' := [(cB, .byte)]) [0] rfl
  have hFc := va_free (wc := [(b 0, .inr (8, [.ref (b 1), .int 12, .int 0, .int 0, .int 0, .int 0, .int 0, .int 0, .int (-1), .int (-1), .ref (b 11), .ref (b 12), .ref (b 13), .int 0, .int 0, .ref (b 16), .ref (b 17), .ref (b 18), .ref (b 19), .ref (b 20), .ref (b 21), .ref (b 22), .ref (b 23), .ref (b 24), .int 0, .ref (b 26), .ref (b 27), .ref (b 28), .ref (b 29), .ref (b 30), .ref (b 31), .ref (b 32), .int 0, .int 0, .ref (b 35), .ref (b 36), .ref (b 37), .ref (b 38), .ref (b 39), .ref (b 40), .int 0, .ref (b 42), .ref (b 43), .ref (b 44), .int 0, .ref (b 46), .ref (b 47), .int 0, .ref (b 49)])), (b 1, .inl (cB, 200, .inl v_3_0))]) hD hS hA [0, 1] rfl
  refine va_callv (va_runV (As := [.int p3]) (rest := []) ⟨hx, hb, hml, hown, hw⟩ (m_put12 l dC dI b cB v_3_0 p3 H.size) ⟨callB_of 1 hw (zz_good tw_114) rfl rfl rfl (hw _ tw_95) (hw _ tw_115) (by decide +kernel) ⟨Nat.le_of_ble_eq_true rfl, Nat.le_of_ble_eq_true rfl⟩, (hw _ tw_116), (hw _ tw_117)⟩ ⟨zz_blind, va_recv hKc hPc (ci := 8) (q0 := 0) rfl rfl, zz_pre hPc hKc hDc hN⟩ rfl rfl hl.1 rfl (lv_room (Nat.le_of_ble_eq_true rfl)) dX8_feed_33 ⟨Nat.le_of_ble_eq_true rfl, Nat.le_of_ble_eq_true rfl⟩) hS (fun q _ h => hFc q h) hFc (fun u_4 t H1 locs ht hvm e_4 hB hz1 hk1 hS => ?_)
  try dsimp only at e_4
  obtain ⟨v_4_0, rfl⟩ : ∃ z, z = u_4 := ⟨_, rfl⟩
  obtain ⟨hP1, hK1, hD1⟩ := hB
  rw [ht] at hP1
  have hK1 := va_K.moved hvm.symm hK1
  try dsimp only at e_4
  obtain ⟨hP, hD⟩ := va_join (wr := []) (w1 := [(b 0, .inr (8, [.ref (b 1), .int 16, .int 0, .int 0, .int 0, .int 0, .int 0, .int 0, .int (-1), .int (-1), .ref (b 11), .ref (b 12), .ref (b 13), .int 0, .int 0, .ref (b 16), .ref (b 17), .ref (b 18), .ref (b 19), .ref (b 20), .ref (b 21), .ref (b 22), .ref (b 23), .ref (b 24), .int 0, .ref (b 26), .ref (b 27), .ref (b 28), .ref (b 29), .ref (b 30), .ref (b 31), .ref (b 32), .int 0, .int 0, .ref (b 35), .ref (b 36), .ref (b 37), .ref (b 38), .ref (b 39), .ref (b 40), .int 0, .ref (b 42), .ref (b 43), .ref (b 44), .int 0, .ref (b 46), .ref (b 47), .int 0, .ref (b 49)])), (b 1, .inl (cB, 200, .inl v_4_0))]) hP hD [0, 1] [] rfl rfl (by decide) (by decide) hk1 hFc hP1 hD1
  clear hk1 ht hvm
  generalize H1 = H at hP hS ⊢
  have hP : va_P (dC, dI) vwCl [(b 0, .inr (8, [.ref (b 1), .int 16, .int 0, .int 0, .int 0, .int 0, .int 0, .int 0, .int (-1), .int (-1), .ref (b 11), .ref (b 12), .ref (b 13), .int 0, .int 0, .ref (b 16), .ref (b 17), .ref (b 18), .ref (b 19), .ref (b 20), .ref (b 21), .ref (b 22), .ref (b 23), .ref (b 24), .int 0, .ref (b 26), .ref (b 27), .ref (b 28), .ref (b 29), .ref (b 30), .ref (b 31), .ref (b 32), .int 0, .int 0, .ref (b 35), .ref (b 36), .ref (b 37), .ref (b 38), .ref (b 39), .ref (b 40), .int 0, .ref (b 42), .ref (b 43), .ref (b 44), .int 0, .ref (b 46), .ref (b 47), .int 0, .ref (b 49)])), (b 1, .inl (cB, 200, .inl v_4_0))] H := hP
  have hD : va_D A [(b 0, .inr (8, [.ref (b 1), .int 16, .int 0, .int 0, .int 0, .int 0, .int 0, .int 0, .int (-1), .int (-1), .ref (b 11), .ref (b 12), .ref (b 13), .int 0, .int 0, .ref (b 16), .ref (b 17), .ref (b 18), .ref (b 19), .ref (b 20), .ref (b 21), .ref (b 22), .ref (b 23), .ref (b 24), .int 0, .ref (b 26), .ref (b 27), .ref (b 28), .ref (b 29), .ref (b 30), .ref (b 31), .ref (b 32), .int 0, .int 0, .ref (b 35), .ref (b 36), .ref (b 37), .ref (b 38), .ref (b 39), .ref (b 40), .int 0, .ref (b 42), .ref (b 43), .ref (b 44), .int 0, .ref (b 46), .ref (b 47), .int 0, .ref (b 49)])), (b 1, .inl (cB, 200, .inl v_4_0))] := hD
  refine lv_aload_n hx hb dX8_feed_36 rfl (lv_at hl 0 rfl) ?_
  refine lv_iload hx hb dX8_feed_37 (lv_at hl 5 rfl) ?_
  have hPc := hP.sub (ws' := [(b 0, .inr (8, [.ref (b 1), .int 16, .int 0, .int 0, .int 0, .int 0, .int 0, .int 0, .int (-1), .int (-1), .ref (b 11), .ref (b 12), .ref (b 13), .int 0, .int 0, .ref (b 16), .ref (b 17), .ref (b 18), .ref (b 19), .ref (b 20), .ref (b 21), .ref (b 22), .ref (b 23), .ref (b 24), .int 0, .ref (b 26), .ref (b 27), .ref (b 28), .ref (b 29), .ref (b 30), .ref (b 31), .ref (b 32), .int 0, .int 0, .ref (b 35), .ref (b 36), .ref (b 37), .ref (b 38), .ref (b 39), .ref (b 40), .int 0, .ref (b 42), .ref (b 43), .ref (b 44), .int 0, .ref (b 46), .ref (b 47), .int 0, .ref (b 49)])), (b 1, .inl (cB, 200, .inl v_4_0))]) [0, 1] rfl
  have hDc := hD.sub (ws' := [(b 0, .inr (8, [.ref (b 1), .int 16, .int 0, .int 0, .int 0, .int 0, .int 0, .int 0, .int (-1), .int (-1), .ref (b 11), .ref (b 12), .ref (b 13), .int 0, .int 0, .ref (b 16), .ref (b 17), .ref (b 18), .ref (b 19), .ref (b 20), .ref (b 21), .ref (b 22), .ref (b 23), .ref (b 24), .int 0, .ref (b 26), .ref (b 27), .ref (b 28), .ref (b 29), .ref (b 30), .ref (b 31), .ref (b 32), .int 0, .int 0, .ref (b 35), .ref (b 36), .ref (b 37), .ref (b 38), .ref (b 39), .ref (b 40), .int 0, .ref (b 42), .ref (b 43), .ref (b 44), .int 0, .ref (b 46), .ref (b 47), .int 0, .ref (b 49)])), (b 1, .inl (cB, 200, .inl v_4_0))]) [0, 1] (by decide) rfl
  have hKc := hK.sub (tys' := [(cB, .byte)]) [0] rfl
  have hFc := va_free (wc := [(b 0, .inr (8, [.ref (b 1), .int 16, .int 0, .int 0, .int 0, .int 0, .int 0, .int 0, .int (-1), .int (-1), .ref (b 11), .ref (b 12), .ref (b 13), .int 0, .int 0, .ref (b 16), .ref (b 17), .ref (b 18), .ref (b 19), .ref (b 20), .ref (b 21), .ref (b 22), .ref (b 23), .ref (b 24), .int 0, .ref (b 26), .ref (b 27), .ref (b 28), .ref (b 29), .ref (b 30), .ref (b 31), .ref (b 32), .int 0, .int 0, .ref (b 35), .ref (b 36), .ref (b 37), .ref (b 38), .ref (b 39), .ref (b 40), .int 0, .ref (b 42), .ref (b 43), .ref (b 44), .int 0, .ref (b 46), .ref (b 47), .int 0, .ref (b 49)])), (b 1, .inl (cB, 200, .inl v_4_0))]) hD hS hA [0, 1] rfl
  refine va_callv (va_runV (As := [.int p4]) (rest := []) ⟨hx, hb, hml, hown, hw⟩ (m_put16 l dC dI b cB v_4_0 p4 H.size) ⟨callB_of 1 hw (zz_good tw_114) rfl rfl rfl (hw _ tw_95) (hw _ tw_115) (by decide +kernel) ⟨Nat.le_of_ble_eq_true rfl, Nat.le_of_ble_eq_true rfl⟩, (hw _ tw_116), (hw _ tw_117)⟩ ⟨zz_blind, va_recv hKc hPc (ci := 8) (q0 := 0) rfl rfl, zz_pre hPc hKc hDc hN⟩ rfl rfl hl.1 rfl (lv_room (Nat.le_of_ble_eq_true rfl)) dX8_feed_39 ⟨Nat.le_of_ble_eq_true rfl, Nat.le_of_ble_eq_true rfl⟩) hS (fun q _ h => hFc q h) hFc (fun u_5 t H1 locs ht hvm e_5 hB hz1 hk1 hS => ?_)
  try dsimp only at e_5
  obtain ⟨v_5_0, rfl⟩ : ∃ z, z = u_5 := ⟨_, rfl⟩
  obtain ⟨hP1, hK1, hD1⟩ := hB
  rw [ht] at hP1
  have hK1 := va_K.moved hvm.symm hK1
  try dsimp only at e_5
  obtain ⟨hP, hD⟩ := va_join (wr := []) (w1 := [(b 0, .inr (8, [.ref (b 1), .int 20, .int 0, .int 0, .int 0, .int 0, .int 0, .int 0, .int (-1), .int (-1), .ref (b 11), .ref (b 12), .ref (b 13), .int 0, .int 0, .ref (b 16), .ref (b 17), .ref (b 18), .ref (b 19), .ref (b 20), .ref (b 21), .ref (b 22), .ref (b 23), .ref (b 24), .int 0, .ref (b 26), .ref (b 27), .ref (b 28), .ref (b 29), .ref (b 30), .ref (b 31), .ref (b 32), .int 0, .int 0, .ref (b 35), .ref (b 36), .ref (b 37), .ref (b 38), .ref (b 39), .ref (b 40), .int 0, .ref (b 42), .ref (b 43), .ref (b 44), .int 0, .ref (b 46), .ref (b 47), .int 0, .ref (b 49)])), (b 1, .inl (cB, 200, .inl v_5_0))]) hP hD [0, 1] [] rfl rfl (by decide) (by decide) hk1 hFc hP1 hD1
  clear hk1 ht hvm
  generalize H1 = H at hP hS ⊢
  have hP : va_P (dC, dI) vwCl [(b 0, .inr (8, [.ref (b 1), .int 20, .int 0, .int 0, .int 0, .int 0, .int 0, .int 0, .int (-1), .int (-1), .ref (b 11), .ref (b 12), .ref (b 13), .int 0, .int 0, .ref (b 16), .ref (b 17), .ref (b 18), .ref (b 19), .ref (b 20), .ref (b 21), .ref (b 22), .ref (b 23), .ref (b 24), .int 0, .ref (b 26), .ref (b 27), .ref (b 28), .ref (b 29), .ref (b 30), .ref (b 31), .ref (b 32), .int 0, .int 0, .ref (b 35), .ref (b 36), .ref (b 37), .ref (b 38), .ref (b 39), .ref (b 40), .int 0, .ref (b 42), .ref (b 43), .ref (b 44), .int 0, .ref (b 46), .ref (b 47), .int 0, .ref (b 49)])), (b 1, .inl (cB, 200, .inl v_5_0))] H := hP
  have hD : va_D A [(b 0, .inr (8, [.ref (b 1), .int 20, .int 0, .int 0, .int 0, .int 0, .int 0, .int 0, .int (-1), .int (-1), .ref (b 11), .ref (b 12), .ref (b 13), .int 0, .int 0, .ref (b 16), .ref (b 17), .ref (b 18), .ref (b 19), .ref (b 20), .ref (b 21), .ref (b 22), .ref (b 23), .ref (b 24), .int 0, .ref (b 26), .ref (b 27), .ref (b 28), .ref (b 29), .ref (b 30), .ref (b 31), .ref (b 32), .int 0, .int 0, .ref (b 35), .ref (b 36), .ref (b 37), .ref (b 38), .ref (b 39), .ref (b 40), .int 0, .ref (b 42), .ref (b 43), .ref (b 44), .int 0, .ref (b 46), .ref (b 47), .int 0, .ref (b 49)])), (b 1, .inl (cB, 200, .inl v_5_0))] := hD
  refine lv_aload_n hx hb dX8_feed_42 rfl (lv_at hl 0 rfl) ?_
  refine va_get (D := (dC, dI)) (ci := 8) (v := .int 20) (C := RX8) (T := TX8) (N := 49) hx hb hw zz_inX8 hown hK hP 0 rfl rfl 1 (by decide) (hw _ tw_113) (fun _ h9 => h9) rfl dX8_feed_43 ?_
  exact W.iret (v := 20) hx hb hr (fun t ht hW => ⟨⟨20, (), rfl, rfl, trivial⟩, hS.F ht⟩) hS.2.2 dX8_feed_46

set_option maxHeartbeats 4000000 in
set_option maxRecDepth 100000 in
theorem m_end (l : Launch) (dC : Nat → ClassId) (dI : Nat → Nat → Nat) (b : Nat → Nat) (p0 : Int32) (sz : Nat) : Met l yX8_end (zz_w yX8_end cX8_end 2 (some .int)) ({ frames := 1, cells := 0, slots := 0, locals := 25 }) (va_Pc [.ref (b 0), .int p0] (zz_B (dC, dI) sz [(b 0, .inr (8, [.ref (b 1), .int 0, .int 0, .int 0, .int 0, .int 0, .int 0, .int 0, .int (-1), .int (-1), .ref (b 11), .ref (b 12), .ref (b 13), .int 0, .int 0, .ref (b 16), .ref (b 17), .ref (b 18), .ref (b 19), .ref (b 20), .ref (b 21), .ref (b 22), .ref (b 23), .ref (b 24), .int 0, .ref (b 26), .ref (b 27), .ref (b 28), .ref (b 29), .ref (b 30), .ref (b 31), .ref (b 32), .int 0, .int 0, .ref (b 35), .ref (b 36), .ref (b 37), .ref (b 38), .ref (b 39), .ref (b 40), .int 0, .ref (b 42), .ref (b 43), .ref (b 44), .int 0, .ref (b 46), .ref (b 47), .int 0, .ref (b 49)]))] [])) (va_Qi (fun (r : Int32) (_ : Unit) => r = an_end p0) (fun _ _ => True) (va_A [(b 0, .inr (8, [.ref (b 1), .int 0, .int 0, .int 0, .int 0, .int 0, .int 0, .int 0, .int (-1), .int (-1), .ref (b 11), .ref (b 12), .ref (b 13), .int 0, .int 0, .ref (b 16), .ref (b 17), .ref (b 18), .ref (b 19), .ref (b 20), .ref (b 21), .ref (b 22), .ref (b 23), .ref (b 24), .int 0, .ref (b 26), .ref (b 27), .ref (b 28), .ref (b 29), .ref (b 30), .ref (b 31), .ref (b 32), .int 0, .int 0, .ref (b 35), .ref (b 36), .ref (b 37), .ref (b 38), .ref (b 39), .ref (b 40), .int 0, .ref (b 42), .ref (b 43), .ref (b 44), .int 0, .ref (b 46), .ref (b 47), .int 0, .ref (b 49)]))] sz)) 0 0 (va_A [(b 0, .inr (8, [.ref (b 1), .int 0, .int 0, .int 0, .int 0, .int 0, .int 0, .int 0, .int (-1), .int (-1), .ref (b 11), .ref (b 12), .ref (b 13), .int 0, .int 0, .ref (b 16), .ref (b 17), .ref (b 18), .ref (b 19), .ref (b 20), .ref (b 21), .ref (b 22), .ref (b 23), .ref (b 24), .int 0, .ref (b 26), .ref (b 27), .ref (b 28), .ref (b 29), .ref (b 30), .ref (b 31), .ref (b 32), .int 0, .int 0, .ref (b 35), .ref (b 36), .ref (b 37), .ref (b 38), .ref (b 39), .ref (b 40), .int 0, .ref (b 42), .ref (b 43), .ref (b 44), .int 0, .ref (b 46), .ref (b 47), .int 0, .ref (b 49)]))] sz) := by
  refine Met.ofW (cc := cX8_end) (maxL := 2) (ret := (some .int)) (by decide) rfl ?_
  intro p e s m args below meth c s₁ B hml hv
  obtain ⟨rfl, hsz, hP, hK, hD0, hN⟩ := hv
  have hx := B.exec
  have hb := B.bytes
  have hr := B.returns
  have hts := atoms_spec (ws := zz_w yX8_end cX8_end 2 (some .int)) B.pre
  have hw : ∀ w ∈ zz_all, w.before _ s = true := fun w h => hts w (List.mem_cons_of_mem _ h)
  have hown : s.vm.findClass RX8 = some m.cls := findClass_of_methodNamed B.named
  have hlocks := B.notSynchronized
  subst hsz
  have hD := hD0.self (sz := s.heap.size)
  generalize hAe : va_A [(b 0, .inr (8, [.ref (b 1), .int 0, .int 0, .int 0, .int 0, .int 0, .int 0, .int 0, .int (-1), .int (-1), .ref (b 11), .ref (b 12), .ref (b 13), .int 0, .int 0, .ref (b 16), .ref (b 17), .ref (b 18), .ref (b 19), .ref (b 20), .ref (b 21), .ref (b 22), .ref (b 23), .ref (b 24), .int 0, .ref (b 26), .ref (b 27), .ref (b 28), .ref (b 29), .ref (b 30), .ref (b 31), .ref (b 32), .int 0, .int 0, .ref (b 35), .ref (b 36), .ref (b 37), .ref (b 38), .ref (b 39), .ref (b 40), .int 0, .ref (b 42), .ref (b 43), .ref (b 44), .int 0, .ref (b 46), .ref (b 47), .int 0, .ref (b 49)]))] s.heap.size = A at hD ⊢
  have hA : ∀ q : Nat, s.heap.size ≤ q → A q := fun q h => by rw [← hAe]; exact Or.inr h
  have hS : va_S A s.heap s.heap [] := va_S.rf
  have hP : va_P (dC, dI) vwCl [(b 0, .inr (8, [.ref (b 1), .int 0, .int 0, .int 0, .int 0, .int 0, .int 0, .int 0, .int (-1), .int (-1), .ref (b 11), .ref (b 12), .ref (b 13), .int 0, .int 0, .ref (b 16), .ref (b 17), .ref (b 18), .ref (b 19), .ref (b 20), .ref (b 21), .ref (b 22), .ref (b 23), .ref (b 24), .int 0, .ref (b 26), .ref (b 27), .ref (b 28), .ref (b 29), .ref (b 30), .ref (b 31), .ref (b 32), .int 0, .int 0, .ref (b 35), .ref (b 36), .ref (b 37), .ref (b 38), .ref (b 39), .ref (b 40), .int 0, .ref (b 42), .ref (b 43), .ref (b 44), .int 0, .ref (b 46), .ref (b 47), .int 0, .ref (b 49)]))] s.heap := hP
  have hl := lv_entry ([.ref (b 0), .int p0]) (n := 2) (Nat.le_of_ble_eq_true rfl)
  rw [lg_entry_eq]
  generalize (lg_sl ([.ref (b 0), .int p0]) ++ List.replicate (2 - (lg_sl ([.ref (b 0), .int p0])).length) Slot.unset).toArray = ls at hl ⊢
  have hl : lv_has ls 2 [(0, .ref (b 0)), (1, .int p0)] := hl
  refine lv_iload_n hx hb dX8_end_0 rfl (lv_at hl 1 rfl) ?_
  refine lv_i2l (v := Int32.toInt64 p0) hx hb dX8_end_1 rfl ?_
  refine lv_lconst (v := Int32.toInt64 0) hx hb dX8_end_2 (by decide) ?_
  refine lv_aload_n hx hb dX8_end_3 rfl (lv_at hl 0 rfl) ?_
  refine va_get (D := (dC, dI)) (ci := 8) (v := .int 0) (C := RX8) (T := TX8) (N := 49) hx hb hw zz_inX8 hown hK hP 0 rfl rfl 1 (by decide) (hw _ tw_113) (fun _ h9 => h9) rfl dX8_end_4 ?_
  refine lv_i2l (v := Int32.toInt64 0) hx hb dX8_end_7 rfl ?_
  have hPc := hP.sub (ws' := []) [] rfl
  have hDc := hD.sub (ws' := []) [] (by decide) rfl
  have hKc := hK.sub (tys' := []) [] rfl
  have hFc := zz_free0 hS hA
  refine va_calli (va_runS (As := [.long (Int32.toInt64 p0), .long (Int32.toInt64 0), .long (Int32.toInt64 0)]) (rest := []) ⟨hx, hb, hml, hown, hw⟩ (k_in l dC dI p0 0 0 s.heap.size) ⟨callB_of 3 hw (zz_good tw_94) rfl rfl rfl (hw _ tw_95) (hw _ tw_96) (by decide +kernel) ⟨Nat.le_of_ble_eq_true rfl, Nat.le_of_ble_eq_true rfl⟩, (hw _ tw_97)⟩ ⟨zz_blind, zz_pre hPc hKc hDc hN⟩ rfl rfl hl.1 rfl (lv_room (Nat.le_of_ble_eq_true rfl)) dX8_end_8 ⟨Nat.le_of_ble_eq_true rfl, Nat.le_of_ble_eq_true rfl⟩) hS (fun q _ h => hFc q h) hFc (fun r_1 u_1 t H1 locs ht hvm e_1 hB hz1 hk1 hS => ?_)
  try dsimp only at e_1
  have hP := zz_keep hP hk1
  clear hk1 hB ht hvm
  generalize H1 = H at hP hS ⊢
  have hP : va_P (dC, dI) vwCl [(b 0, .inr (8, [.ref (b 1), .int 0, .int 0, .int 0, .int 0, .int 0, .int 0, .int 0, .int (-1), .int (-1), .ref (b 11), .ref (b 12), .ref (b 13), .int 0, .int 0, .ref (b 16), .ref (b 17), .ref (b 18), .ref (b 19), .ref (b 20), .ref (b 21), .ref (b 22), .ref (b 23), .ref (b 24), .int 0, .ref (b 26), .ref (b 27), .ref (b 28), .ref (b 29), .ref (b 30), .ref (b 31), .ref (b 32), .int 0, .int 0, .ref (b 35), .ref (b 36), .ref (b 37), .ref (b 38), .ref (b 39), .ref (b 40), .int 0, .ref (b 42), .ref (b 43), .ref (b 44), .int 0, .ref (b 46), .ref (b 47), .int 0, .ref (b 49)]))] H := hP
  have hD : va_D A [(b 0, .inr (8, [.ref (b 1), .int 0, .int 0, .int 0, .int 0, .int 0, .int 0, .int 0, .int (-1), .int (-1), .ref (b 11), .ref (b 12), .ref (b 13), .int 0, .int 0, .ref (b 16), .ref (b 17), .ref (b 18), .ref (b 19), .ref (b 20), .ref (b 21), .ref (b 22), .ref (b 23), .ref (b 24), .int 0, .ref (b 26), .ref (b 27), .ref (b 28), .ref (b 29), .ref (b 30), .ref (b 31), .ref (b 32), .int 0, .int 0, .ref (b 35), .ref (b 36), .ref (b 37), .ref (b 38), .ref (b 39), .ref (b 40), .int 0, .ref (b 42), .ref (b 43), .ref (b 44), .int 0, .ref (b 46), .ref (b 47), .int 0, .ref (b 49)]))] := hD
  refine lv_if_ne (tgt := 16) hx hb dX8_end_11 (by decide) (fun c_2 => ?_) (fun c_2 => ?_)
  · refine lv_aload_n hx hb dX8_end_16 rfl (lv_at hl 0 rfl) ?_
    refine lv_iload_n hx hb dX8_end_17 rfl (lv_at hl 1 rfl) ?_
    refine va_put (D := (dC, dI)) (ci := 8) (v := .int p0) (ty := .int) (C := RX8) (T := TX8) (N := 49) hx hb hw zz_inX8 tyX8 tyX8_ok nmX8 hown hK hP hD hS 0 rfl rfl 1 (by decide) (hw _ tw_113) (fun _ h9 => h9) rfl (by decide +kernel) rfl rfl (Nat.le_of_ble_eq_true rfl) dX8_end_18 (fun H locs hP hD hS => ?_)
    have hP : va_P (dC, dI) vwCl [(b 0, .inr (8, [.ref (b 1), .int p0, .int 0, .int 0, .int 0, .int 0, .int 0, .int 0, .int (-1), .int (-1), .ref (b 11), .ref (b 12), .ref (b 13), .int 0, .int 0, .ref (b 16), .ref (b 17), .ref (b 18), .ref (b 19), .ref (b 20), .ref (b 21), .ref (b 22), .ref (b 23), .ref (b 24), .int 0, .ref (b 26), .ref (b 27), .ref (b 28), .ref (b 29), .ref (b 30), .ref (b 31), .ref (b 32), .int 0, .int 0, .ref (b 35), .ref (b 36), .ref (b 37), .ref (b 38), .ref (b 39), .ref (b 40), .int 0, .ref (b 42), .ref (b 43), .ref (b 44), .int 0, .ref (b 46), .ref (b 47), .int 0, .ref (b 49)]))] H := hP
    have hD : va_D A [(b 0, .inr (8, [.ref (b 1), .int p0, .int 0, .int 0, .int 0, .int 0, .int 0, .int 0, .int (-1), .int (-1), .ref (b 11), .ref (b 12), .ref (b 13), .int 0, .int 0, .ref (b 16), .ref (b 17), .ref (b 18), .ref (b 19), .ref (b 20), .ref (b 21), .ref (b 22), .ref (b 23), .ref (b 24), .int 0, .ref (b 26), .ref (b 27), .ref (b 28), .ref (b 29), .ref (b 30), .ref (b 31), .ref (b 32), .int 0, .int 0, .ref (b 35), .ref (b 36), .ref (b 37), .ref (b 38), .ref (b 39), .ref (b 40), .int 0, .ref (b 42), .ref (b 43), .ref (b 44), .int 0, .ref (b 46), .ref (b 47), .int 0, .ref (b 49)]))] := hD
    refine lv_iload_n hx hb dX8_end_21 rfl (lv_at hl 1 rfl) ?_
    exact W.iret (v := p0) hx hb hr (fun t ht hW => ⟨⟨p0, (), rfl, (by have zc_2 := c_2; rw [e_1, zz_in0, Int32.le_iff_toInt_le, Int32.le_iff_toInt_le] at zc_2; (try rw [show (0 : Int32).toInt = 0 from by decide] at zc_2); (try rw [show (0 : Int32).toInt = 0 from by decide] at zc_2); unfold an_end; first | exact (if_pos (by omega)).symm | exact (if_neg (by omega)).symm), trivial⟩, hS.F ht⟩) hS.2.2 dX8_end_22
  · refine lv_iconst (v := (-1)) hx hb dX8_end_14 (by decide) ?_
    exact W.iret (v := (-1)) hx hb hr (fun t ht hW => ⟨⟨(-1), (), rfl, (by have zc_2 := c_2; rw [e_1, zz_in0, Int32.le_iff_toInt_le, Int32.le_iff_toInt_le] at zc_2; (try rw [show (0 : Int32).toInt = 0 from by decide] at zc_2); (try rw [show (0 : Int32).toInt = 0 from by decide] at zc_2); unfold an_end; first | exact (if_pos (by omega)).symm | exact (if_neg (by omega)).symm), trivial⟩, hS.F ht⟩) hS.2.2 dX8_end_15

set_option maxHeartbeats 4000000 in
set_option maxRecDepth 100000 in
theorem m_next (l : Launch) (dC : Nat → ClassId) (dI : Nat → Nat → Nat) (b : Nat → Nat) (sz : Nat) : Met l yX8_next (zz_w yX8_next cX8_next 6 none) ({ frames := 0, cells := 0, slots := 0, locals := 0 }) (va_Pc [.ref (b 0), .int 0] (zz_B (dC, dI) sz [(b 0, .inr (8, [.ref (b 1), .int 0, .int 0, .int 0, .int 0, .int 0, .int 0, .int (-1), .int (-1), .int (-1), .ref (b 11), .ref (b 12), .ref (b 13), .int 0, .int 0, .ref (b 16), .ref (b 17), .ref (b 18), .ref (b 19), .ref (b 20), .ref (b 21), .ref (b 22), .ref (b 23), .ref (b 24), .int 0, .ref (b 26), .ref (b 27), .ref (b 28), .ref (b 29), .ref (b 30), .ref (b 31), .ref (b 32), .int 0, .int 0, .ref (b 35), .ref (b 36), .ref (b 37), .ref (b 38), .ref (b 39), .ref (b 40), .int 0, .ref (b 42), .ref (b 43), .ref (b 44), .int 0, .ref (b 46), .ref (b 47), .int 0, .ref (b 49)]))] [])) (va_Qv (fun (_ : Unit) => True) (fun (_ : Unit) (t : State) => va_P (dC, dI) vwCl [(b 0, .inr (8, [.ref (b 1), .int 0, .int 0, .int 0, .int 0, .int 0, .int 0, .int (-1), .int (-1), .int (-1), .ref (b 11), .ref (b 12), .ref (b 13), .int 0, .int 0, .ref (b 16), .ref (b 17), .ref (b 18), .ref (b 19), .ref (b 20), .ref (b 21), .ref (b 22), .ref (b 23), .ref (b 24), .int 0, .ref (b 26), .ref (b 27), .ref (b 28), .ref (b 29), .ref (b 30), .ref (b 31), .ref (b 32), .int 0, .int 0, .ref (b 35), .ref (b 36), .ref (b 37), .ref (b 38), .ref (b 39), .ref (b 40), .int 0, .ref (b 42), .ref (b 43), .ref (b 44), .int 0, .ref (b 46), .ref (b 47), .int 0, .ref (b 49)]))] t.heap ∧ va_K (dC, dI) vwCl [] t ∧ va_D (va_A [(b 0, .inr (8, [.ref (b 1), .int 0, .int 0, .int 0, .int 0, .int 0, .int 0, .int (-1), .int (-1), .int (-1), .ref (b 11), .ref (b 12), .ref (b 13), .int 0, .int 0, .ref (b 16), .ref (b 17), .ref (b 18), .ref (b 19), .ref (b 20), .ref (b 21), .ref (b 22), .ref (b 23), .ref (b 24), .int 0, .ref (b 26), .ref (b 27), .ref (b 28), .ref (b 29), .ref (b 30), .ref (b 31), .ref (b 32), .int 0, .int 0, .ref (b 35), .ref (b 36), .ref (b 37), .ref (b 38), .ref (b 39), .ref (b 40), .int 0, .ref (b 42), .ref (b 43), .ref (b 44), .int 0, .ref (b 46), .ref (b 47), .int 0, .ref (b 49)]))] sz) [(b 0, .inr (8, [.ref (b 1), .int 0, .int 0, .int 0, .int 0, .int 0, .int 0, .int (-1), .int (-1), .int (-1), .ref (b 11), .ref (b 12), .ref (b 13), .int 0, .int 0, .ref (b 16), .ref (b 17), .ref (b 18), .ref (b 19), .ref (b 20), .ref (b 21), .ref (b 22), .ref (b 23), .ref (b 24), .int 0, .ref (b 26), .ref (b 27), .ref (b 28), .ref (b 29), .ref (b 30), .ref (b 31), .ref (b 32), .int 0, .int 0, .ref (b 35), .ref (b 36), .ref (b 37), .ref (b 38), .ref (b 39), .ref (b 40), .int 0, .ref (b 42), .ref (b 43), .ref (b 44), .int 0, .ref (b 46), .ref (b 47), .int 0, .ref (b 49)]))]) (va_A [(b 0, .inr (8, [.ref (b 1), .int 0, .int 0, .int 0, .int 0, .int 0, .int 0, .int (-1), .int (-1), .int (-1), .ref (b 11), .ref (b 12), .ref (b 13), .int 0, .int 0, .ref (b 16), .ref (b 17), .ref (b 18), .ref (b 19), .ref (b 20), .ref (b 21), .ref (b 22), .ref (b 23), .ref (b 24), .int 0, .ref (b 26), .ref (b 27), .ref (b 28), .ref (b 29), .ref (b 30), .ref (b 31), .ref (b 32), .int 0, .int 0, .ref (b 35), .ref (b 36), .ref (b 37), .ref (b 38), .ref (b 39), .ref (b 40), .int 0, .ref (b 42), .ref (b 43), .ref (b 44), .int 0, .ref (b 46), .ref (b 47), .int 0, .ref (b 49)]))] sz)) 0 0 (va_A [(b 0, .inr (8, [.ref (b 1), .int 0, .int 0, .int 0, .int 0, .int 0, .int 0, .int (-1), .int (-1), .int (-1), .ref (b 11), .ref (b 12), .ref (b 13), .int 0, .int 0, .ref (b 16), .ref (b 17), .ref (b 18), .ref (b 19), .ref (b 20), .ref (b 21), .ref (b 22), .ref (b 23), .ref (b 24), .int 0, .ref (b 26), .ref (b 27), .ref (b 28), .ref (b 29), .ref (b 30), .ref (b 31), .ref (b 32), .int 0, .int 0, .ref (b 35), .ref (b 36), .ref (b 37), .ref (b 38), .ref (b 39), .ref (b 40), .int 0, .ref (b 42), .ref (b 43), .ref (b 44), .int 0, .ref (b 46), .ref (b 47), .int 0, .ref (b 49)]))] sz) := by
  refine Met.ofW (cc := cX8_next) (maxL := 6) (ret := none) (by decide) rfl ?_
  intro p e s m args below meth c s₁ B hml hv
  obtain ⟨rfl, hsz, hP, hK, hD0, hN⟩ := hv
  have hx := B.exec
  have hb := B.bytes
  have hr := B.returns
  have hts := atoms_spec (ws := zz_w yX8_next cX8_next 6 none) B.pre
  have hw : ∀ w ∈ zz_all, w.before _ s = true := fun w h => hts w (List.mem_cons_of_mem _ h)
  have hown : s.vm.findClass RX8 = some m.cls := findClass_of_methodNamed B.named
  have hlocks := B.notSynchronized
  subst hsz
  have hD := hD0.self (sz := s.heap.size)
  generalize hAe : va_A [(b 0, .inr (8, [.ref (b 1), .int 0, .int 0, .int 0, .int 0, .int 0, .int 0, .int (-1), .int (-1), .int (-1), .ref (b 11), .ref (b 12), .ref (b 13), .int 0, .int 0, .ref (b 16), .ref (b 17), .ref (b 18), .ref (b 19), .ref (b 20), .ref (b 21), .ref (b 22), .ref (b 23), .ref (b 24), .int 0, .ref (b 26), .ref (b 27), .ref (b 28), .ref (b 29), .ref (b 30), .ref (b 31), .ref (b 32), .int 0, .int 0, .ref (b 35), .ref (b 36), .ref (b 37), .ref (b 38), .ref (b 39), .ref (b 40), .int 0, .ref (b 42), .ref (b 43), .ref (b 44), .int 0, .ref (b 46), .ref (b 47), .int 0, .ref (b 49)]))] s.heap.size = A at hD ⊢
  have hA : ∀ q : Nat, s.heap.size ≤ q → A q := fun q h => by rw [← hAe]; exact Or.inr h
  have hS : va_S A s.heap s.heap [] := va_S.rf
  have hP : va_P (dC, dI) vwCl [(b 0, .inr (8, [.ref (b 1), .int 0, .int 0, .int 0, .int 0, .int 0, .int 0, .int (-1), .int (-1), .int (-1), .ref (b 11), .ref (b 12), .ref (b 13), .int 0, .int 0, .ref (b 16), .ref (b 17), .ref (b 18), .ref (b 19), .ref (b 20), .ref (b 21), .ref (b 22), .ref (b 23), .ref (b 24), .int 0, .ref (b 26), .ref (b 27), .ref (b 28), .ref (b 29), .ref (b 30), .ref (b 31), .ref (b 32), .int 0, .int 0, .ref (b 35), .ref (b 36), .ref (b 37), .ref (b 38), .ref (b 39), .ref (b 40), .int 0, .ref (b 42), .ref (b 43), .ref (b 44), .int 0, .ref (b 46), .ref (b 47), .int 0, .ref (b 49)]))] s.heap := hP
  have hl := lv_entry ([.ref (b 0), .int 0]) (n := 6) (Nat.le_of_ble_eq_true rfl)
  rw [lg_entry_eq]
  generalize (lg_sl ([.ref (b 0), .int 0]) ++ List.replicate (6 - (lg_sl ([.ref (b 0), .int 0])).length) Slot.unset).toArray = ls at hl ⊢
  have hl : lv_has ls 6 [(0, .ref (b 0)), (1, .int 0)] := hl
  refine lv_aload_n hx hb dX8_next_0 rfl (lv_at hl 0 rfl) ?_
  refine va_get (D := (dC, dI)) (ci := 8) (v := .int 0) (C := RX8) (T := TX8) (N := 49) hx hb hw zz_inX8 hown hK hP 0 rfl rfl 2 (by decide) (hw _ tw_118) (fun _ h9 => h9) rfl dX8_next_1 ?_
  refine lv_iload_n hx hb dX8_next_4 rfl (lv_at hl 1 rfl) ?_
  refine lv_icmp_ge (tgt := 35) hx hb dX8_next_5 (by decide) (fun _ => ?_) (fun c_9 => absurd c_9 (by decide))
  refine lv_aload_n hx hb dX8_next_35 rfl (lv_at hl 0 rfl) ?_
  refine lv_aload_n hx hb dX8_next_36 rfl (lv_at hl 0 rfl) ?_
  refine va_get (D := (dC, dI)) (ci := 8) (v := .int 0) (C := RX8) (T := TX8) (N := 49) hx hb hw zz_inX8 hown hK hP 0 rfl rfl 2 (by decide) (hw _ tw_118) (fun _ h9 => h9) rfl dX8_next_37 ?_
  refine va_put (D := (dC, dI)) (ci := 8) (v := .int 0) (ty := .int) (C := RX8) (T := TX8) (N := 49) hx hb hw zz_inX8 tyX8 tyX8_ok nmX8 hown hK hP hD hS 0 rfl rfl 3 (by decide) (hw _ tw_119) (fun _ h9 => h9) rfl (by decide +kernel) rfl rfl (Nat.le_of_ble_eq_true rfl) dX8_next_40 (fun H locs hP hD hS => ?_)
  have hP : va_P (dC, dI) vwCl [(b 0, .inr (8, [.ref (b 1), .int 0, .int 0, .int 0, .int 0, .int 0, .int 0, .int (-1), .int (-1), .int (-1), .ref (b 11), .ref (b 12), .ref (b 13), .int 0, .int 0, .ref (b 16), .ref (b 17), .ref (b 18), .ref (b 19), .ref (b 20), .ref (b 21), .ref (b 22), .ref (b 23), .ref (b 24), .int 0, .ref (b 26), .ref (b 27), .ref (b 28), .ref (b 29), .ref (b 30), .ref (b 31), .ref (b 32), .int 0, .int 0, .ref (b 35), .ref (b 36), .ref (b 37), .ref (b 38), .ref (b 39), .ref (b 40), .int 0, .ref (b 42), .ref (b 43), .ref (b 44), .int 0, .ref (b 46), .ref (b 47), .int 0, .ref (b 49)]))] H := hP
  have hD : va_D A [(b 0, .inr (8, [.ref (b 1), .int 0, .int 0, .int 0, .int 0, .int 0, .int 0, .int (-1), .int (-1), .int (-1), .ref (b 11), .ref (b 12), .ref (b 13), .int 0, .int 0, .ref (b 16), .ref (b 17), .ref (b 18), .ref (b 19), .ref (b 20), .ref (b 21), .ref (b 22), .ref (b 23), .ref (b 24), .int 0, .ref (b 26), .ref (b 27), .ref (b 28), .ref (b 29), .ref (b 30), .ref (b 31), .ref (b 32), .int 0, .int 0, .ref (b 35), .ref (b 36), .ref (b 37), .ref (b 38), .ref (b 39), .ref (b 40), .int 0, .ref (b 42), .ref (b 43), .ref (b 44), .int 0, .ref (b 46), .ref (b 47), .int 0, .ref (b 49)]))] := hD
  refine lv_aload_n hx hb dX8_next_43 rfl (lv_at hl 0 rfl) ?_
  refine va_get (D := (dC, dI)) (ci := 8) (v := .int 0) (C := RX8) (T := TX8) (N := 49) hx hb hw zz_inX8 hown hK hP 0 rfl rfl 2 (by decide) (hw _ tw_118) (fun _ h9 => h9) rfl dX8_next_44 ?_
  refine lv_iload_n hx hb dX8_next_47 rfl (lv_at hl 1 rfl) ?_
  refine lv_icmp_ne (tgt := 57) hx hb dX8_next_48 (by decide) (fun c_9 => absurd c_9 (by decide)) (fun _ => ?_)
  refine lv_aload_n hx hb dX8_next_51 rfl (lv_at hl 0 rfl) ?_
  refine lv_iconst (v := 0) hx hb dX8_next_52 (by decide) ?_
  refine va_put (D := (dC, dI)) (ci := 8) (v := .int 0) (ty := .int) (C := RX8) (T := TX8) (N := 49) hx hb hw zz_inX8 tyX8 tyX8_ok nmX8 hown hK hP hD hS 0 rfl rfl 4 (by decide) (hw _ tw_120) (fun _ h9 => h9) rfl (by decide +kernel) rfl rfl (Nat.le_of_ble_eq_true rfl) dX8_next_53 (fun H locs hP hD hS => ?_)
  have hP : va_P (dC, dI) vwCl [(b 0, .inr (8, [.ref (b 1), .int 0, .int 0, .int 0, .int 0, .int 0, .int 0, .int (-1), .int (-1), .int (-1), .ref (b 11), .ref (b 12), .ref (b 13), .int 0, .int 0, .ref (b 16), .ref (b 17), .ref (b 18), .ref (b 19), .ref (b 20), .ref (b 21), .ref (b 22), .ref (b 23), .ref (b 24), .int 0, .ref (b 26), .ref (b 27), .ref (b 28), .ref (b 29), .ref (b 30), .ref (b 31), .ref (b 32), .int 0, .int 0, .ref (b 35), .ref (b 36), .ref (b 37), .ref (b 38), .ref (b 39), .ref (b 40), .int 0, .ref (b 42), .ref (b 43), .ref (b 44), .int 0, .ref (b 46), .ref (b 47), .int 0, .ref (b 49)]))] H := hP
  have hD : va_D A [(b 0, .inr (8, [.ref (b 1), .int 0, .int 0, .int 0, .int 0, .int 0, .int 0, .int (-1), .int (-1), .int (-1), .ref (b 11), .ref (b 12), .ref (b 13), .int 0, .int 0, .ref (b 16), .ref (b 17), .ref (b 18), .ref (b 19), .ref (b 20), .ref (b 21), .ref (b 22), .ref (b 23), .ref (b 24), .int 0, .ref (b 26), .ref (b 27), .ref (b 28), .ref (b 29), .ref (b 30), .ref (b 31), .ref (b 32), .int 0, .int 0, .ref (b 35), .ref (b 36), .ref (b 37), .ref (b 38), .ref (b 39), .ref (b 40), .int 0, .ref (b 42), .ref (b 43), .ref (b 44), .int 0, .ref (b 46), .ref (b 47), .int 0, .ref (b 49)]))] := hD
  have hP9 := hP.sub (ws' := [(b 0, .inr (8, [.ref (b 1), .int 0, .int 0, .int 0, .int 0, .int 0, .int 0, .int (-1), .int (-1), .int (-1), .ref (b 11), .ref (b 12), .ref (b 13), .int 0, .int 0, .ref (b 16), .ref (b 17), .ref (b 18), .ref (b 19), .ref (b 20), .ref (b 21), .ref (b 22), .ref (b 23), .ref (b 24), .int 0, .ref (b 26), .ref (b 27), .ref (b 28), .ref (b 29), .ref (b 30), .ref (b 31), .ref (b 32), .int 0, .int 0, .ref (b 35), .ref (b 36), .ref (b 37), .ref (b 38), .ref (b 39), .ref (b 40), .int 0, .ref (b 42), .ref (b 43), .ref (b 44), .int 0, .ref (b 46), .ref (b 47), .int 0, .ref (b 49)]))]) [0] rfl
  have hD9 := hD.sub (ws' := [(b 0, .inr (8, [.ref (b 1), .int 0, .int 0, .int 0, .int 0, .int 0, .int 0, .int (-1), .int (-1), .int (-1), .ref (b 11), .ref (b 12), .ref (b 13), .int 0, .int 0, .ref (b 16), .ref (b 17), .ref (b 18), .ref (b 19), .ref (b 20), .ref (b 21), .ref (b 22), .ref (b 23), .ref (b 24), .int 0, .ref (b 26), .ref (b 27), .ref (b 28), .ref (b 29), .ref (b 30), .ref (b 31), .ref (b 32), .int 0, .int 0, .ref (b 35), .ref (b 36), .ref (b 37), .ref (b 38), .ref (b 39), .ref (b 40), .int 0, .ref (b 42), .ref (b 43), .ref (b 44), .int 0, .ref (b 46), .ref (b 47), .int 0, .ref (b 49)]))]) [0] (by decide) rfl
  have hK9 := hK.sub (tys' := []) [] rfl
  exact W.vret hx hb hr (fun t ht hW => ⟨⟨(), rfl, trivial, by rw [ht]; exact hP9, va_K.moved hW.alike hK9, hD9⟩, hS.F ht⟩) hS.2.2 dX8_next_56

set_option maxHeartbeats 4000000 in
set_option maxRecDepth 100000 in
theorem m_custom (l : Launch) (dC : Nat → ClassId) (dI : Nat → Nat → Nat) (b : Nat → Nat) (cI : ClassId) (cZ : ClassId) (fc : Nat → Int32) (sz : Nat) : Met l yX8_custom (zz_w yX8_custom cX8_custom 4 (some .int)) ({ frames := 1, cells := 0, slots := 0, locals := 25 }) (va_Pc [.ref (b 0)] (zz_B (dC, dI) sz [(b 0, .inr (8, [.ref (b 1), .int 0, .int 0, .int 0, .int 0, .int 0, .int 0, .int 0, .int (-1), .int (-1), .ref (b 11), .ref (b 12), .ref (b 13), .int 0, .int 0, .ref (b 16), .ref (b 17), .ref (b 18), .ref (b 19), .ref (b 20), .ref (b 21), .ref (b 22), .ref (b 23), .ref (b 24), .int 0, .ref (b 26), .ref (b 27), .ref (b 28), .ref (b 29), .ref (b 30), .ref (b 31), .ref (b 32), .int 0, .int 0, .ref (b 35), .ref (b 36), .ref (b 37), .ref (b 38), .ref (b 39), .ref (b 40), .int 0, .ref (b 42), .ref (b 43), .ref (b 44), .int 0, .ref (b 46), .ref (b 47), .int 0, .ref (b 49)])), (b 11, .inl (cZ, 7, .inl (fun _ => (0 : Int32)))), (b 12, .inl (cI, 7, .inl (fun _ => (0 : Int32)))), (b 13, .inl (cI, 7, .inl fc))] [(cI, .int), (cZ, .boolean)])) (va_Qi (fun (r : Int32) (_ : Unit) => r = 0) (fun _ _ => True) (va_A [(b 0, .inr (8, [.ref (b 1), .int 0, .int 0, .int 0, .int 0, .int 0, .int 0, .int 0, .int (-1), .int (-1), .ref (b 11), .ref (b 12), .ref (b 13), .int 0, .int 0, .ref (b 16), .ref (b 17), .ref (b 18), .ref (b 19), .ref (b 20), .ref (b 21), .ref (b 22), .ref (b 23), .ref (b 24), .int 0, .ref (b 26), .ref (b 27), .ref (b 28), .ref (b 29), .ref (b 30), .ref (b 31), .ref (b 32), .int 0, .int 0, .ref (b 35), .ref (b 36), .ref (b 37), .ref (b 38), .ref (b 39), .ref (b 40), .int 0, .ref (b 42), .ref (b 43), .ref (b 44), .int 0, .ref (b 46), .ref (b 47), .int 0, .ref (b 49)])), (b 11, .inl (cZ, 7, .inl (fun _ => (0 : Int32)))), (b 12, .inl (cI, 7, .inl (fun _ => (0 : Int32)))), (b 13, .inl (cI, 7, .inl fc))] sz)) 0 0 (va_A [(b 0, .inr (8, [.ref (b 1), .int 0, .int 0, .int 0, .int 0, .int 0, .int 0, .int 0, .int (-1), .int (-1), .ref (b 11), .ref (b 12), .ref (b 13), .int 0, .int 0, .ref (b 16), .ref (b 17), .ref (b 18), .ref (b 19), .ref (b 20), .ref (b 21), .ref (b 22), .ref (b 23), .ref (b 24), .int 0, .ref (b 26), .ref (b 27), .ref (b 28), .ref (b 29), .ref (b 30), .ref (b 31), .ref (b 32), .int 0, .int 0, .ref (b 35), .ref (b 36), .ref (b 37), .ref (b 38), .ref (b 39), .ref (b 40), .int 0, .ref (b 42), .ref (b 43), .ref (b 44), .int 0, .ref (b 46), .ref (b 47), .int 0, .ref (b 49)])), (b 11, .inl (cZ, 7, .inl (fun _ => (0 : Int32)))), (b 12, .inl (cI, 7, .inl (fun _ => (0 : Int32)))), (b 13, .inl (cI, 7, .inl fc))] sz) := by
  refine Met.ofW (cc := cX8_custom) (maxL := 4) (ret := (some .int)) (by decide) rfl ?_
  intro p e s m args below meth c s₁ B hml hv
  obtain ⟨rfl, hsz, hP, hK, hD0, hN⟩ := hv
  have hx := B.exec
  have hb := B.bytes
  have hr := B.returns
  have hts := atoms_spec (ws := zz_w yX8_custom cX8_custom 4 (some .int)) B.pre
  have hw : ∀ w ∈ zz_all, w.before _ s = true := fun w h => hts w (List.mem_cons_of_mem _ h)
  have hown : s.vm.findClass RX8 = some m.cls := findClass_of_methodNamed B.named
  have hlocks := B.notSynchronized
  subst hsz
  have hD := hD0.self (sz := s.heap.size)
  generalize hAe : va_A [(b 0, .inr (8, [.ref (b 1), .int 0, .int 0, .int 0, .int 0, .int 0, .int 0, .int 0, .int (-1), .int (-1), .ref (b 11), .ref (b 12), .ref (b 13), .int 0, .int 0, .ref (b 16), .ref (b 17), .ref (b 18), .ref (b 19), .ref (b 20), .ref (b 21), .ref (b 22), .ref (b 23), .ref (b 24), .int 0, .ref (b 26), .ref (b 27), .ref (b 28), .ref (b 29), .ref (b 30), .ref (b 31), .ref (b 32), .int 0, .int 0, .ref (b 35), .ref (b 36), .ref (b 37), .ref (b 38), .ref (b 39), .ref (b 40), .int 0, .ref (b 42), .ref (b 43), .ref (b 44), .int 0, .ref (b 46), .ref (b 47), .int 0, .ref (b 49)])), (b 11, .inl (cZ, 7, .inl (fun _ => (0 : Int32)))), (b 12, .inl (cI, 7, .inl (fun _ => (0 : Int32)))), (b 13, .inl (cI, 7, .inl fc))] s.heap.size = A at hD ⊢
  have hA : ∀ q : Nat, s.heap.size ≤ q → A q := fun q h => by rw [← hAe]; exact Or.inr h
  have hS : va_S A s.heap s.heap [] := va_S.rf
  have hP : va_P (dC, dI) vwCl [(b 0, .inr (8, [.ref (b 1), .int 0, .int 0, .int 0, .int 0, .int 0, .int 0, .int 0, .int (-1), .int (-1), .ref (b 11), .ref (b 12), .ref (b 13), .int 0, .int 0, .ref (b 16), .ref (b 17), .ref (b 18), .ref (b 19), .ref (b 20), .ref (b 21), .ref (b 22), .ref (b 23), .ref (b 24), .int 0, .ref (b 26), .ref (b 27), .ref (b 28), .ref (b 29), .ref (b 30), .ref (b 31), .ref (b 32), .int 0, .int 0, .ref (b 35), .ref (b 36), .ref (b 37), .ref (b 38), .ref (b 39), .ref (b 40), .int 0, .ref (b 42), .ref (b 43), .ref (b 44), .int 0, .ref (b 46), .ref (b 47), .int 0, .ref (b 49)])), (b 11, .inl (cZ, 7, .inl (fun _ => (0 : Int32)))), (b 12, .inl (cI, 7, .inl (fun _ => (0 : Int32)))), (b 13, .inl (cI, 7, .inl fc))] s.heap := hP
  have hl := lv_entry ([.ref (b 0)]) (n := 4) (Nat.le_of_ble_eq_true rfl)
  rw [lg_entry_eq]
  generalize (lg_sl ([.ref (b 0)]) ++ List.replicate (4 - (lg_sl ([.ref (b 0)])).length) Slot.unset).toArray = ls at hl ⊢
  have hl : lv_has ls 4 [(0, .ref (b 0))] := hl
  refine lv_aload_n hx hb dX8_custom_0 rfl (lv_at hl 0 rfl) ?_
  refine va_get (D := (dC, dI)) (ci := 8) (v := .int 0) (C := RX8) (T := TX8) (N := 49) hx hb hw zz_inX8 hown hK hP 0 rfl rfl 1 (by decide) (hw _ tw_113) (fun _ h9 => h9) rfl dX8_custom_1 ?_
  refine lv_istore_n (lv' := [(1, .int 0), (0, .ref (b 0))]) hx hb dX8_custom_4 rfl hl (by decide) rfl (fun ls hl => ?_)
  refine lv_aload_n hx hb dX8_custom_5 rfl (lv_at hl 1 rfl) ?_
  refine lv_iconst (v := 0) hx hb dX8_custom_6 (by decide) ?_
  refine va_put (D := (dC, dI)) (ci := 8) (v := .int 0) (ty := .int) (C := RX8) (T := TX8) (N := 49) hx hb hw zz_inX8 tyX8 tyX8_ok nmX8 hown hK hP hD hS 0 rfl rfl 1 (by decide) (hw _ tw_113) (fun _ h9 => h9) rfl (by decide +kernel) rfl rfl (Nat.le_of_ble_eq_true rfl) dX8_custom_7 (fun H locs hP hD hS => ?_)
  have hP : va_P (dC, dI) vwCl [(b 0, .inr (8, [.ref (b 1), .int 0, .int 0, .int 0, .int 0, .int 0, .int 0, .int 0, .int (-1), .int (-1), .ref (b 11), .ref (b 12), .ref (b 13), .int 0, .int 0, .ref (b 16), .ref (b 17), .ref (b 18), .ref (b 19), .ref (b 20), .ref (b 21), .ref (b 22), .ref (b 23), .ref (b 24), .int 0, .ref (b 26), .ref (b 27), .ref (b 28), .ref (b 29), .ref (b 30), .ref (b 31), .ref (b 32), .int 0, .int 0, .ref (b 35), .ref (b 36), .ref (b 37), .ref (b 38), .ref (b 39), .ref (b 40), .int 0, .ref (b 42), .ref (b 43), .ref (b 44), .int 0, .ref (b 46), .ref (b 47), .int 0, .ref (b 49)])), (b 11, .inl (cZ, 7, .inl (fun _ => (0 : Int32)))), (b 12, .inl (cI, 7, .inl (fun _ => (0 : Int32)))), (b 13, .inl (cI, 7, .inl fc))] H := hP
  have hD : va_D A [(b 0, .inr (8, [.ref (b 1), .int 0, .int 0, .int 0, .int 0, .int 0, .int 0, .int 0, .int (-1), .int (-1), .ref (b 11), .ref (b 12), .ref (b 13), .int 0, .int 0, .ref (b 16), .ref (b 17), .ref (b 18), .ref (b 19), .ref (b 20), .ref (b 21), .ref (b 22), .ref (b 23), .ref (b 24), .int 0, .ref (b 26), .ref (b 27), .ref (b 28), .ref (b 29), .ref (b 30), .ref (b 31), .ref (b 32), .int 0, .int 0, .ref (b 35), .ref (b 36), .ref (b 37), .ref (b 38), .ref (b 39), .ref (b 40), .int 0, .ref (b 42), .ref (b 43), .ref (b 44), .int 0, .ref (b 46), .ref (b 47), .int 0, .ref (b 49)])), (b 11, .inl (cZ, 7, .inl (fun _ => (0 : Int32)))), (b 12, .inl (cI, 7, .inl (fun _ => (0 : Int32)))), (b 13, .inl (cI, 7, .inl fc))] := hD
  refine lv_aload_n hx hb dX8_custom_10 rfl (lv_at hl 1 rfl) ?_
  refine lv_iconst (v := 0) hx hb dX8_custom_11 (by decide) ?_
  refine va_put (D := (dC, dI)) (ci := 8) (v := .int 0) (ty := .int) (C := RX8) (T := TX8) (N := 49) hx hb hw zz_inX8 tyX8 tyX8_ok nmX8 hown hK hP hD hS 0 rfl rfl 2 (by decide) (hw _ tw_118) (fun _ h9 => h9) rfl (by decide +kernel) rfl rfl (Nat.le_of_ble_eq_true rfl) dX8_custom_12 (fun H locs hP hD hS => ?_)
  have hP : va_P (dC, dI) vwCl [(b 0, .inr (8, [.ref (b 1), .int 0, .int 0, .int 0, .int 0, .int 0, .int 0, .int 0, .int (-1), .int (-1), .ref (b 11), .ref (b 12), .ref (b 13), .int 0, .int 0, .ref (b 16), .ref (b 17), .ref (b 18), .ref (b 19), .ref (b 20), .ref (b 21), .ref (b 22), .ref (b 23), .ref (b 24), .int 0, .ref (b 26), .ref (b 27), .ref (b 28), .ref (b 29), .ref (b 30), .ref (b 31), .ref (b 32), .int 0, .int 0, .ref (b 35), .ref (b 36), .ref (b 37), .ref (b 38), .ref (b 39), .ref (b 40), .int 0, .ref (b 42), .ref (b 43), .ref (b 44), .int 0, .ref (b 46), .ref (b 47), .int 0, .ref (b 49)])), (b 11, .inl (cZ, 7, .inl (fun _ => (0 : Int32)))), (b 12, .inl (cI, 7, .inl (fun _ => (0 : Int32)))), (b 13, .inl (cI, 7, .inl fc))] H := hP
  have hD : va_D A [(b 0, .inr (8, [.ref (b 1), .int 0, .int 0, .int 0, .int 0, .int 0, .int 0, .int 0, .int (-1), .int (-1), .ref (b 11), .ref (b 12), .ref (b 13), .int 0, .int 0, .ref (b 16), .ref (b 17), .ref (b 18), .ref (b 19), .ref (b 20), .ref (b 21), .ref (b 22), .ref (b 23), .ref (b 24), .int 0, .ref (b 26), .ref (b 27), .ref (b 28), .ref (b 29), .ref (b 30), .ref (b 31), .ref (b 32), .int 0, .int 0, .ref (b 35), .ref (b 36), .ref (b 37), .ref (b 38), .ref (b 39), .ref (b 40), .int 0, .ref (b 42), .ref (b 43), .ref (b 44), .int 0, .ref (b 46), .ref (b 47), .int 0, .ref (b 49)])), (b 11, .inl (cZ, 7, .inl (fun _ => (0 : Int32)))), (b 12, .inl (cI, 7, .inl (fun _ => (0 : Int32)))), (b 13, .inl (cI, 7, .inl fc))] := hD
  refine lv_aload_n hx hb dX8_custom_15 rfl (lv_at hl 1 rfl) ?_
  refine lv_iconst (v := 0) hx hb dX8_custom_16 (by decide) ?_
  refine va_put (D := (dC, dI)) (ci := 8) (v := .int 0) (ty := .int) (C := RX8) (T := TX8) (N := 49) hx hb hw zz_inX8 tyX8 tyX8_ok nmX8 hown hK hP hD hS 0 rfl rfl 6 (by decide) (hw _ tw_121) (fun _ h9 => h9) rfl (by decide +kernel) rfl rfl (Nat.le_of_ble_eq_true rfl) dX8_custom_17 (fun H locs hP hD hS => ?_)
  have hP : va_P (dC, dI) vwCl [(b 0, .inr (8, [.ref (b 1), .int 0, .int 0, .int 0, .int 0, .int 0, .int 0, .int 0, .int (-1), .int (-1), .ref (b 11), .ref (b 12), .ref (b 13), .int 0, .int 0, .ref (b 16), .ref (b 17), .ref (b 18), .ref (b 19), .ref (b 20), .ref (b 21), .ref (b 22), .ref (b 23), .ref (b 24), .int 0, .ref (b 26), .ref (b 27), .ref (b 28), .ref (b 29), .ref (b 30), .ref (b 31), .ref (b 32), .int 0, .int 0, .ref (b 35), .ref (b 36), .ref (b 37), .ref (b 38), .ref (b 39), .ref (b 40), .int 0, .ref (b 42), .ref (b 43), .ref (b 44), .int 0, .ref (b 46), .ref (b 47), .int 0, .ref (b 49)])), (b 11, .inl (cZ, 7, .inl (fun _ => (0 : Int32)))), (b 12, .inl (cI, 7, .inl (fun _ => (0 : Int32)))), (b 13, .inl (cI, 7, .inl fc))] H := hP
  have hD : va_D A [(b 0, .inr (8, [.ref (b 1), .int 0, .int 0, .int 0, .int 0, .int 0, .int 0, .int 0, .int (-1), .int (-1), .ref (b 11), .ref (b 12), .ref (b 13), .int 0, .int 0, .ref (b 16), .ref (b 17), .ref (b 18), .ref (b 19), .ref (b 20), .ref (b 21), .ref (b 22), .ref (b 23), .ref (b 24), .int 0, .ref (b 26), .ref (b 27), .ref (b 28), .ref (b 29), .ref (b 30), .ref (b 31), .ref (b 32), .int 0, .int 0, .ref (b 35), .ref (b 36), .ref (b 37), .ref (b 38), .ref (b 39), .ref (b 40), .int 0, .ref (b 42), .ref (b 43), .ref (b 44), .int 0, .ref (b 46), .ref (b 47), .int 0, .ref (b 49)])), (b 11, .inl (cZ, 7, .inl (fun _ => (0 : Int32)))), (b 12, .inl (cI, 7, .inl (fun _ => (0 : Int32)))), (b 13, .inl (cI, 7, .inl fc))] := hD
  refine lv_aload_n hx hb dX8_custom_20 rfl (lv_at hl 1 rfl) ?_
  refine lv_iconst (v := (-1)) hx hb dX8_custom_21 (by decide) ?_
  refine va_put (D := (dC, dI)) (ci := 8) (v := .int (-1)) (ty := .int) (C := RX8) (T := TX8) (N := 49) hx hb hw zz_inX8 tyX8 tyX8_ok nmX8 hown hK hP hD hS 0 rfl rfl 7 (by decide) (hw _ tw_122) (fun _ h9 => h9) rfl (by decide +kernel) rfl rfl (Nat.le_of_ble_eq_true rfl) dX8_custom_22 (fun H locs hP hD hS => ?_)
  have hP : va_P (dC, dI) vwCl [(b 0, .inr (8, [.ref (b 1), .int 0, .int 0, .int 0, .int 0, .int 0, .int 0, .int (-1), .int (-1), .int (-1), .ref (b 11), .ref (b 12), .ref (b 13), .int 0, .int 0, .ref (b 16), .ref (b 17), .ref (b 18), .ref (b 19), .ref (b 20), .ref (b 21), .ref (b 22), .ref (b 23), .ref (b 24), .int 0, .ref (b 26), .ref (b 27), .ref (b 28), .ref (b 29), .ref (b 30), .ref (b 31), .ref (b 32), .int 0, .int 0, .ref (b 35), .ref (b 36), .ref (b 37), .ref (b 38), .ref (b 39), .ref (b 40), .int 0, .ref (b 42), .ref (b 43), .ref (b 44), .int 0, .ref (b 46), .ref (b 47), .int 0, .ref (b 49)])), (b 11, .inl (cZ, 7, .inl (fun _ => (0 : Int32)))), (b 12, .inl (cI, 7, .inl (fun _ => (0 : Int32)))), (b 13, .inl (cI, 7, .inl fc))] H := hP
  have hD : va_D A [(b 0, .inr (8, [.ref (b 1), .int 0, .int 0, .int 0, .int 0, .int 0, .int 0, .int (-1), .int (-1), .int (-1), .ref (b 11), .ref (b 12), .ref (b 13), .int 0, .int 0, .ref (b 16), .ref (b 17), .ref (b 18), .ref (b 19), .ref (b 20), .ref (b 21), .ref (b 22), .ref (b 23), .ref (b 24), .int 0, .ref (b 26), .ref (b 27), .ref (b 28), .ref (b 29), .ref (b 30), .ref (b 31), .ref (b 32), .int 0, .int 0, .ref (b 35), .ref (b 36), .ref (b 37), .ref (b 38), .ref (b 39), .ref (b 40), .int 0, .ref (b 42), .ref (b 43), .ref (b 44), .int 0, .ref (b 46), .ref (b 47), .int 0, .ref (b 49)])), (b 11, .inl (cZ, 7, .inl (fun _ => (0 : Int32)))), (b 12, .inl (cI, 7, .inl (fun _ => (0 : Int32)))), (b 13, .inl (cI, 7, .inl fc))] := hD
  refine lv_iconst (v := 0) hx hb dX8_custom_25 (by decide) ?_
  refine lv_istore_n (lv' := [(2, .int 0), (1, .int 0), (0, .ref (b 0))]) hx hb dX8_custom_26 rfl hl (by decide) rfl (fun ls hl => ?_)
  refine lv_iconst (v := 0) hx hb dX8_custom_27 (by decide) ?_
  refine lv_istore_n (lv' := [(3, .int 0), (2, .int 0), (1, .int 0), (0, .ref (b 0))]) hx hb dX8_custom_28 rfl hl (by decide) rfl (fun ls hl => ?_)
  refine lv_iload_n hx hb dX8_custom_29 rfl (lv_at hl 0 rfl) ?_
  refine lv_bipush (v := 7) hx hb dX8_custom_30 (by decide) ?_
  refine lv_icmp_ge (tgt := 75) hx hb dX8_custom_32 (by decide) (fun c_9 => absurd c_9 (by decide)) (fun _ => ?_)
  refine lv_aload_n hx hb dX8_custom_35 rfl (lv_at hl 3 rfl) ?_
  refine va_get (D := (dC, dI)) (ci := 8) (v := .ref (b 11)) (C := RX8) (T := TX8) (N := 49) hx hb hw zz_inX8 hown hK hP 0 rfl rfl 10 (by decide) (hw _ tw_123) (fun _ h9 => h9) rfl dX8_custom_36 ?_
  refine lv_iload_n hx hb dX8_custom_39 rfl (lv_at hl 0 rfl) ?_
  refine lv_iconst (v := 0) hx hb dX8_custom_40 (by decide) ?_
  refine va_zast hx hb hK hP hD hS 1 1 rfl rfl (zz_vin (by decide)) dX8_custom_41 (fun H locs hP hD hS => ?_)
  have hP : va_P (dC, dI) vwCl [(b 0, .inr (8, [.ref (b 1), .int 0, .int 0, .int 0, .int 0, .int 0, .int 0, .int (-1), .int (-1), .int (-1), .ref (b 11), .ref (b 12), .ref (b 13), .int 0, .int 0, .ref (b 16), .ref (b 17), .ref (b 18), .ref (b 19), .ref (b 20), .ref (b 21), .ref (b 22), .ref (b 23), .ref (b 24), .int 0, .ref (b 26), .ref (b 27), .ref (b 28), .ref (b 29), .ref (b 30), .ref (b 31), .ref (b 32), .int 0, .int 0, .ref (b 35), .ref (b 36), .ref (b 37), .ref (b 38), .ref (b 39), .ref (b 40), .int 0, .ref (b 42), .ref (b 43), .ref (b 44), .int 0, .ref (b 46), .ref (b 47), .int 0, .ref (b 49)])), (b 11, .inl (cZ, 7, .inl (upd (fun _ => (0 : Int32)) (Int32.toNatClampNeg 0) (vp_nar .boolean 0)))), (b 12, .inl (cI, 7, .inl (fun _ => (0 : Int32)))), (b 13, .inl (cI, 7, .inl fc))] H := hP
  have hD : va_D A [(b 0, .inr (8, [.ref (b 1), .int 0, .int 0, .int 0, .int 0, .int 0, .int 0, .int (-1), .int (-1), .int (-1), .ref (b 11), .ref (b 12), .ref (b 13), .int 0, .int 0, .ref (b 16), .ref (b 17), .ref (b 18), .ref (b 19), .ref (b 20), .ref (b 21), .ref (b 22), .ref (b 23), .ref (b 24), .int 0, .ref (b 26), .ref (b 27), .ref (b 28), .ref (b 29), .ref (b 30), .ref (b 31), .ref (b 32), .int 0, .int 0, .ref (b 35), .ref (b 36), .ref (b 37), .ref (b 38), .ref (b 39), .ref (b 40), .int 0, .ref (b 42), .ref (b 43), .ref (b 44), .int 0, .ref (b 46), .ref (b 47), .int 0, .ref (b 49)])), (b 11, .inl (cZ, 7, .inl (upd (fun _ => (0 : Int32)) (Int32.toNatClampNeg 0) (vp_nar .boolean 0)))), (b 12, .inl (cI, 7, .inl (fun _ => (0 : Int32)))), (b 13, .inl (cI, 7, .inl fc))] := hD
  refine lv_aload_n hx hb dX8_custom_42 rfl (lv_at hl 3 rfl) ?_
  refine va_get (D := (dC, dI)) (ci := 8) (v := .ref (b 12)) (C := RX8) (T := TX8) (N := 49) hx hb hw zz_inX8 hown hK hP 0 rfl rfl 11 (by decide) (hw _ tw_124) (fun _ h9 => h9) rfl dX8_custom_43 ?_
  refine lv_iload_n hx hb dX8_custom_46 rfl (lv_at hl 0 rfl) ?_
  refine lv_iload_n hx hb dX8_custom_47 rfl (lv_at hl 0 rfl) ?_
  refine lv_iconst (v := 3) hx hb dX8_custom_48 (by decide) ?_
  refine lv_icmp_ge (tgt := 56) hx hb dX8_custom_49 (by decide) (fun c_9 => absurd c_9 (by decide)) (fun _ => ?_)
  refine lv_iconst (v := 1) hx hb dX8_custom_52 (by decide) ?_
  refine lv_goto (tgt := 68) hx hb dX8_custom_53 (by decide) ?_
  refine va_iast hx hb hK hP hD hS 2 0 rfl rfl (zz_vin (by decide)) dX8_custom_68 (fun H locs hP hD hS => ?_)
  have hP : va_P (dC, dI) vwCl [(b 0, .inr (8, [.ref (b 1), .int 0, .int 0, .int 0, .int 0, .int 0, .int 0, .int (-1), .int (-1), .int (-1), .ref (b 11), .ref (b 12), .ref (b 13), .int 0, .int 0, .ref (b 16), .ref (b 17), .ref (b 18), .ref (b 19), .ref (b 20), .ref (b 21), .ref (b 22), .ref (b 23), .ref (b 24), .int 0, .ref (b 26), .ref (b 27), .ref (b 28), .ref (b 29), .ref (b 30), .ref (b 31), .ref (b 32), .int 0, .int 0, .ref (b 35), .ref (b 36), .ref (b 37), .ref (b 38), .ref (b 39), .ref (b 40), .int 0, .ref (b 42), .ref (b 43), .ref (b 44), .int 0, .ref (b 46), .ref (b 47), .int 0, .ref (b 49)])), (b 11, .inl (cZ, 7, .inl (upd (fun _ => (0 : Int32)) (Int32.toNatClampNeg 0) (vp_nar .boolean 0)))), (b 12, .inl (cI, 7, .inl (upd (fun _ => (0 : Int32)) (Int32.toNatClampNeg 0) 1))), (b 13, .inl (cI, 7, .inl fc))] H := hP
  have hD : va_D A [(b 0, .inr (8, [.ref (b 1), .int 0, .int 0, .int 0, .int 0, .int 0, .int 0, .int (-1), .int (-1), .int (-1), .ref (b 11), .ref (b 12), .ref (b 13), .int 0, .int 0, .ref (b 16), .ref (b 17), .ref (b 18), .ref (b 19), .ref (b 20), .ref (b 21), .ref (b 22), .ref (b 23), .ref (b 24), .int 0, .ref (b 26), .ref (b 27), .ref (b 28), .ref (b 29), .ref (b 30), .ref (b 31), .ref (b 32), .int 0, .int 0, .ref (b 35), .ref (b 36), .ref (b 37), .ref (b 38), .ref (b 39), .ref (b 40), .int 0, .ref (b 42), .ref (b 43), .ref (b 44), .int 0, .ref (b 46), .ref (b 47), .int 0, .ref (b 49)])), (b 11, .inl (cZ, 7, .inl (upd (fun _ => (0 : Int32)) (Int32.toNatClampNeg 0) (vp_nar .boolean 0)))), (b 12, .inl (cI, 7, .inl (upd (fun _ => (0 : Int32)) (Int32.toNatClampNeg 0) 1))), (b 13, .inl (cI, 7, .inl fc))] := hD
  refine lv_iinc (v := 1) (lv' := [(3, .int 1), (2, .int 0), (1, .int 0), (0, .ref (b 0))]) hx hb dX8_custom_69 hl (k := 0) rfl (by decide) (by decide) rfl (fun ls hl => ?_)
  refine lv_goto (tgt := 29) hx hb dX8_custom_72 (by decide) ?_
  refine lv_iload_n hx hb dX8_custom_29 rfl (lv_at hl 0 rfl) ?_
  refine lv_bipush (v := 7) hx hb dX8_custom_30 (by decide) ?_
  refine lv_icmp_ge (tgt := 75) hx hb dX8_custom_32 (by decide) (fun c_9 => absurd c_9 (by decide)) (fun _ => ?_)
  refine lv_aload_n hx hb dX8_custom_35 rfl (lv_at hl 3 rfl) ?_
  refine va_get (D := (dC, dI)) (ci := 8) (v := .ref (b 11)) (C := RX8) (T := TX8) (N := 49) hx hb hw zz_inX8 hown hK hP 0 rfl rfl 10 (by decide) (hw _ tw_123) (fun _ h9 => h9) rfl dX8_custom_36 ?_
  refine lv_iload_n hx hb dX8_custom_39 rfl (lv_at hl 0 rfl) ?_
  refine lv_iconst (v := 0) hx hb dX8_custom_40 (by decide) ?_
  refine va_zast hx hb hK hP hD hS 1 1 rfl rfl (zz_vin (by decide)) dX8_custom_41 (fun H locs hP hD hS => ?_)
  have hP : va_P (dC, dI) vwCl [(b 0, .inr (8, [.ref (b 1), .int 0, .int 0, .int 0, .int 0, .int 0, .int 0, .int (-1), .int (-1), .int (-1), .ref (b 11), .ref (b 12), .ref (b 13), .int 0, .int 0, .ref (b 16), .ref (b 17), .ref (b 18), .ref (b 19), .ref (b 20), .ref (b 21), .ref (b 22), .ref (b 23), .ref (b 24), .int 0, .ref (b 26), .ref (b 27), .ref (b 28), .ref (b 29), .ref (b 30), .ref (b 31), .ref (b 32), .int 0, .int 0, .ref (b 35), .ref (b 36), .ref (b 37), .ref (b 38), .ref (b 39), .ref (b 40), .int 0, .ref (b 42), .ref (b 43), .ref (b 44), .int 0, .ref (b 46), .ref (b 47), .int 0, .ref (b 49)])), (b 11, .inl (cZ, 7, .inl (upd (upd (fun _ => (0 : Int32)) (Int32.toNatClampNeg 0) (vp_nar .boolean 0)) (Int32.toNatClampNeg 1) (vp_nar .boolean 0)))), (b 12, .inl (cI, 7, .inl (upd (fun _ => (0 : Int32)) (Int32.toNatClampNeg 0) 1))), (b 13, .inl (cI, 7, .inl fc))] H := hP
  have hD : va_D A [(b 0, .inr (8, [.ref (b 1), .int 0, .int 0, .int 0, .int 0, .int 0, .int 0, .int (-1), .int (-1), .int (-1), .ref (b 11), .ref (b 12), .ref (b 13), .int 0, .int 0, .ref (b 16), .ref (b 17), .ref (b 18), .ref (b 19), .ref (b 20), .ref (b 21), .ref (b 22), .ref (b 23), .ref (b 24), .int 0, .ref (b 26), .ref (b 27), .ref (b 28), .ref (b 29), .ref (b 30), .ref (b 31), .ref (b 32), .int 0, .int 0, .ref (b 35), .ref (b 36), .ref (b 37), .ref (b 38), .ref (b 39), .ref (b 40), .int 0, .ref (b 42), .ref (b 43), .ref (b 44), .int 0, .ref (b 46), .ref (b 47), .int 0, .ref (b 49)])), (b 11, .inl (cZ, 7, .inl (upd (upd (fun _ => (0 : Int32)) (Int32.toNatClampNeg 0) (vp_nar .boolean 0)) (Int32.toNatClampNeg 1) (vp_nar .boolean 0)))), (b 12, .inl (cI, 7, .inl (upd (fun _ => (0 : Int32)) (Int32.toNatClampNeg 0) 1))), (b 13, .inl (cI, 7, .inl fc))] := hD
  refine lv_aload_n hx hb dX8_custom_42 rfl (lv_at hl 3 rfl) ?_
  refine va_get (D := (dC, dI)) (ci := 8) (v := .ref (b 12)) (C := RX8) (T := TX8) (N := 49) hx hb hw zz_inX8 hown hK hP 0 rfl rfl 11 (by decide) (hw _ tw_124) (fun _ h9 => h9) rfl dX8_custom_43 ?_
  refine lv_iload_n hx hb dX8_custom_46 rfl (lv_at hl 0 rfl) ?_
  refine lv_iload_n hx hb dX8_custom_47 rfl (lv_at hl 0 rfl) ?_
  refine lv_iconst (v := 3) hx hb dX8_custom_48 (by decide) ?_
  refine lv_icmp_ge (tgt := 56) hx hb dX8_custom_49 (by decide) (fun c_9 => absurd c_9 (by decide)) (fun _ => ?_)
  refine lv_iconst (v := 1) hx hb dX8_custom_52 (by decide) ?_
  refine lv_goto (tgt := 68) hx hb dX8_custom_53 (by decide) ?_
  refine va_iast hx hb hK hP hD hS 2 0 rfl rfl (zz_vin (by decide)) dX8_custom_68 (fun H locs hP hD hS => ?_)
  have hP : va_P (dC, dI) vwCl [(b 0, .inr (8, [.ref (b 1), .int 0, .int 0, .int 0, .int 0, .int 0, .int 0, .int (-1), .int (-1), .int (-1), .ref (b 11), .ref (b 12), .ref (b 13), .int 0, .int 0, .ref (b 16), .ref (b 17), .ref (b 18), .ref (b 19), .ref (b 20), .ref (b 21), .ref (b 22), .ref (b 23), .ref (b 24), .int 0, .ref (b 26), .ref (b 27), .ref (b 28), .ref (b 29), .ref (b 30), .ref (b 31), .ref (b 32), .int 0, .int 0, .ref (b 35), .ref (b 36), .ref (b 37), .ref (b 38), .ref (b 39), .ref (b 40), .int 0, .ref (b 42), .ref (b 43), .ref (b 44), .int 0, .ref (b 46), .ref (b 47), .int 0, .ref (b 49)])), (b 11, .inl (cZ, 7, .inl (upd (upd (fun _ => (0 : Int32)) (Int32.toNatClampNeg 0) (vp_nar .boolean 0)) (Int32.toNatClampNeg 1) (vp_nar .boolean 0)))), (b 12, .inl (cI, 7, .inl (upd (upd (fun _ => (0 : Int32)) (Int32.toNatClampNeg 0) 1) (Int32.toNatClampNeg 1) 1))), (b 13, .inl (cI, 7, .inl fc))] H := hP
  have hD : va_D A [(b 0, .inr (8, [.ref (b 1), .int 0, .int 0, .int 0, .int 0, .int 0, .int 0, .int (-1), .int (-1), .int (-1), .ref (b 11), .ref (b 12), .ref (b 13), .int 0, .int 0, .ref (b 16), .ref (b 17), .ref (b 18), .ref (b 19), .ref (b 20), .ref (b 21), .ref (b 22), .ref (b 23), .ref (b 24), .int 0, .ref (b 26), .ref (b 27), .ref (b 28), .ref (b 29), .ref (b 30), .ref (b 31), .ref (b 32), .int 0, .int 0, .ref (b 35), .ref (b 36), .ref (b 37), .ref (b 38), .ref (b 39), .ref (b 40), .int 0, .ref (b 42), .ref (b 43), .ref (b 44), .int 0, .ref (b 46), .ref (b 47), .int 0, .ref (b 49)])), (b 11, .inl (cZ, 7, .inl (upd (upd (fun _ => (0 : Int32)) (Int32.toNatClampNeg 0) (vp_nar .boolean 0)) (Int32.toNatClampNeg 1) (vp_nar .boolean 0)))), (b 12, .inl (cI, 7, .inl (upd (upd (fun _ => (0 : Int32)) (Int32.toNatClampNeg 0) 1) (Int32.toNatClampNeg 1) 1))), (b 13, .inl (cI, 7, .inl fc))] := hD
  refine lv_iinc (v := 2) (lv' := [(3, .int 2), (2, .int 0), (1, .int 0), (0, .ref (b 0))]) hx hb dX8_custom_69 hl (k := 0) rfl (by decide) (by decide) rfl (fun ls hl => ?_)
  refine lv_goto (tgt := 29) hx hb dX8_custom_72 (by decide) ?_
  refine lv_iload_n hx hb dX8_custom_29 rfl (lv_at hl 0 rfl) ?_
  refine lv_bipush (v := 7) hx hb dX8_custom_30 (by decide) ?_
  refine lv_icmp_ge (tgt := 75) hx hb dX8_custom_32 (by decide) (fun c_9 => absurd c_9 (by decide)) (fun _ => ?_)
  refine lv_aload_n hx hb dX8_custom_35 rfl (lv_at hl 3 rfl) ?_
  refine va_get (D := (dC, dI)) (ci := 8) (v := .ref (b 11)) (C := RX8) (T := TX8) (N := 49) hx hb hw zz_inX8 hown hK hP 0 rfl rfl 10 (by decide) (hw _ tw_123) (fun _ h9 => h9) rfl dX8_custom_36 ?_
  refine lv_iload_n hx hb dX8_custom_39 rfl (lv_at hl 0 rfl) ?_
  refine lv_iconst (v := 0) hx hb dX8_custom_40 (by decide) ?_
  refine va_zast hx hb hK hP hD hS 1 1 rfl rfl (zz_vin (by decide)) dX8_custom_41 (fun H locs hP hD hS => ?_)
  have hP : va_P (dC, dI) vwCl [(b 0, .inr (8, [.ref (b 1), .int 0, .int 0, .int 0, .int 0, .int 0, .int 0, .int (-1), .int (-1), .int (-1), .ref (b 11), .ref (b 12), .ref (b 13), .int 0, .int 0, .ref (b 16), .ref (b 17), .ref (b 18), .ref (b 19), .ref (b 20), .ref (b 21), .ref (b 22), .ref (b 23), .ref (b 24), .int 0, .ref (b 26), .ref (b 27), .ref (b 28), .ref (b 29), .ref (b 30), .ref (b 31), .ref (b 32), .int 0, .int 0, .ref (b 35), .ref (b 36), .ref (b 37), .ref (b 38), .ref (b 39), .ref (b 40), .int 0, .ref (b 42), .ref (b 43), .ref (b 44), .int 0, .ref (b 46), .ref (b 47), .int 0, .ref (b 49)])), (b 11, .inl (cZ, 7, .inl (upd (upd (upd (fun _ => (0 : Int32)) (Int32.toNatClampNeg 0) (vp_nar .boolean 0)) (Int32.toNatClampNeg 1) (vp_nar .boolean 0)) (Int32.toNatClampNeg 2) (vp_nar .boolean 0)))), (b 12, .inl (cI, 7, .inl (upd (upd (fun _ => (0 : Int32)) (Int32.toNatClampNeg 0) 1) (Int32.toNatClampNeg 1) 1))), (b 13, .inl (cI, 7, .inl fc))] H := hP
  have hD : va_D A [(b 0, .inr (8, [.ref (b 1), .int 0, .int 0, .int 0, .int 0, .int 0, .int 0, .int (-1), .int (-1), .int (-1), .ref (b 11), .ref (b 12), .ref (b 13), .int 0, .int 0, .ref (b 16), .ref (b 17), .ref (b 18), .ref (b 19), .ref (b 20), .ref (b 21), .ref (b 22), .ref (b 23), .ref (b 24), .int 0, .ref (b 26), .ref (b 27), .ref (b 28), .ref (b 29), .ref (b 30), .ref (b 31), .ref (b 32), .int 0, .int 0, .ref (b 35), .ref (b 36), .ref (b 37), .ref (b 38), .ref (b 39), .ref (b 40), .int 0, .ref (b 42), .ref (b 43), .ref (b 44), .int 0, .ref (b 46), .ref (b 47), .int 0, .ref (b 49)])), (b 11, .inl (cZ, 7, .inl (upd (upd (upd (fun _ => (0 : Int32)) (Int32.toNatClampNeg 0) (vp_nar .boolean 0)) (Int32.toNatClampNeg 1) (vp_nar .boolean 0)) (Int32.toNatClampNeg 2) (vp_nar .boolean 0)))), (b 12, .inl (cI, 7, .inl (upd (upd (fun _ => (0 : Int32)) (Int32.toNatClampNeg 0) 1) (Int32.toNatClampNeg 1) 1))), (b 13, .inl (cI, 7, .inl fc))] := hD
  refine lv_aload_n hx hb dX8_custom_42 rfl (lv_at hl 3 rfl) ?_
  refine va_get (D := (dC, dI)) (ci := 8) (v := .ref (b 12)) (C := RX8) (T := TX8) (N := 49) hx hb hw zz_inX8 hown hK hP 0 rfl rfl 11 (by decide) (hw _ tw_124) (fun _ h9 => h9) rfl dX8_custom_43 ?_
  refine lv_iload_n hx hb dX8_custom_46 rfl (lv_at hl 0 rfl) ?_
  refine lv_iload_n hx hb dX8_custom_47 rfl (lv_at hl 0 rfl) ?_
  refine lv_iconst (v := 3) hx hb dX8_custom_48 (by decide) ?_
  refine lv_icmp_ge (tgt := 56) hx hb dX8_custom_49 (by decide) (fun c_9 => absurd c_9 (by decide)) (fun _ => ?_)
  refine lv_iconst (v := 1) hx hb dX8_custom_52 (by decide) ?_
  refine lv_goto (tgt := 68) hx hb dX8_custom_53 (by decide) ?_
  refine va_iast hx hb hK hP hD hS 2 0 rfl rfl (zz_vin (by decide)) dX8_custom_68 (fun H locs hP hD hS => ?_)
  have hP : va_P (dC, dI) vwCl [(b 0, .inr (8, [.ref (b 1), .int 0, .int 0, .int 0, .int 0, .int 0, .int 0, .int (-1), .int (-1), .int (-1), .ref (b 11), .ref (b 12), .ref (b 13), .int 0, .int 0, .ref (b 16), .ref (b 17), .ref (b 18), .ref (b 19), .ref (b 20), .ref (b 21), .ref (b 22), .ref (b 23), .ref (b 24), .int 0, .ref (b 26), .ref (b 27), .ref (b 28), .ref (b 29), .ref (b 30), .ref (b 31), .ref (b 32), .int 0, .int 0, .ref (b 35), .ref (b 36), .ref (b 37), .ref (b 38), .ref (b 39), .ref (b 40), .int 0, .ref (b 42), .ref (b 43), .ref (b 44), .int 0, .ref (b 46), .ref (b 47), .int 0, .ref (b 49)])), (b 11, .inl (cZ, 7, .inl (upd (upd (upd (fun _ => (0 : Int32)) (Int32.toNatClampNeg 0) (vp_nar .boolean 0)) (Int32.toNatClampNeg 1) (vp_nar .boolean 0)) (Int32.toNatClampNeg 2) (vp_nar .boolean 0)))), (b 12, .inl (cI, 7, .inl (upd (upd (upd (fun _ => (0 : Int32)) (Int32.toNatClampNeg 0) 1) (Int32.toNatClampNeg 1) 1) (Int32.toNatClampNeg 2) 1))), (b 13, .inl (cI, 7, .inl fc))] H := hP
  have hD : va_D A [(b 0, .inr (8, [.ref (b 1), .int 0, .int 0, .int 0, .int 0, .int 0, .int 0, .int (-1), .int (-1), .int (-1), .ref (b 11), .ref (b 12), .ref (b 13), .int 0, .int 0, .ref (b 16), .ref (b 17), .ref (b 18), .ref (b 19), .ref (b 20), .ref (b 21), .ref (b 22), .ref (b 23), .ref (b 24), .int 0, .ref (b 26), .ref (b 27), .ref (b 28), .ref (b 29), .ref (b 30), .ref (b 31), .ref (b 32), .int 0, .int 0, .ref (b 35), .ref (b 36), .ref (b 37), .ref (b 38), .ref (b 39), .ref (b 40), .int 0, .ref (b 42), .ref (b 43), .ref (b 44), .int 0, .ref (b 46), .ref (b 47), .int 0, .ref (b 49)])), (b 11, .inl (cZ, 7, .inl (upd (upd (upd (fun _ => (0 : Int32)) (Int32.toNatClampNeg 0) (vp_nar .boolean 0)) (Int32.toNatClampNeg 1) (vp_nar .boolean 0)) (Int32.toNatClampNeg 2) (vp_nar .boolean 0)))), (b 12, .inl (cI, 7, .inl (upd (upd (upd (fun _ => (0 : Int32)) (Int32.toNatClampNeg 0) 1) (Int32.toNatClampNeg 1) 1) (Int32.toNatClampNeg 2) 1))), (b 13, .inl (cI, 7, .inl fc))] := hD
  refine lv_iinc (v := 3) (lv' := [(3, .int 3), (2, .int 0), (1, .int 0), (0, .ref (b 0))]) hx hb dX8_custom_69 hl (k := 0) rfl (by decide) (by decide) rfl (fun ls hl => ?_)
  refine lv_goto (tgt := 29) hx hb dX8_custom_72 (by decide) ?_
  refine lv_iload_n hx hb dX8_custom_29 rfl (lv_at hl 0 rfl) ?_
  refine lv_bipush (v := 7) hx hb dX8_custom_30 (by decide) ?_
  refine lv_icmp_ge (tgt := 75) hx hb dX8_custom_32 (by decide) (fun c_9 => absurd c_9 (by decide)) (fun _ => ?_)
  refine lv_aload_n hx hb dX8_custom_35 rfl (lv_at hl 3 rfl) ?_
  refine va_get (D := (dC, dI)) (ci := 8) (v := .ref (b 11)) (C := RX8) (T := TX8) (N := 49) hx hb hw zz_inX8 hown hK hP 0 rfl rfl 10 (by decide) (hw _ tw_123) (fun _ h9 => h9) rfl dX8_custom_36 ?_
  refine lv_iload_n hx hb dX8_custom_39 rfl (lv_at hl 0 rfl) ?_
  refine lv_iconst (v := 0) hx hb dX8_custom_40 (by decide) ?_
  refine va_zast hx hb hK hP hD hS 1 1 rfl rfl (zz_vin (by decide)) dX8_custom_41 (fun H locs hP hD hS => ?_)
  have hP : va_P (dC, dI) vwCl [(b 0, .inr (8, [.ref (b 1), .int 0, .int 0, .int 0, .int 0, .int 0, .int 0, .int (-1), .int (-1), .int (-1), .ref (b 11), .ref (b 12), .ref (b 13), .int 0, .int 0, .ref (b 16), .ref (b 17), .ref (b 18), .ref (b 19), .ref (b 20), .ref (b 21), .ref (b 22), .ref (b 23), .ref (b 24), .int 0, .ref (b 26), .ref (b 27), .ref (b 28), .ref (b 29), .ref (b 30), .ref (b 31), .ref (b 32), .int 0, .int 0, .ref (b 35), .ref (b 36), .ref (b 37), .ref (b 38), .ref (b 39), .ref (b 40), .int 0, .ref (b 42), .ref (b 43), .ref (b 44), .int 0, .ref (b 46), .ref (b 47), .int 0, .ref (b 49)])), (b 11, .inl (cZ, 7, .inl (upd (upd (upd (upd (fun _ => (0 : Int32)) (Int32.toNatClampNeg 0) (vp_nar .boolean 0)) (Int32.toNatClampNeg 1) (vp_nar .boolean 0)) (Int32.toNatClampNeg 2) (vp_nar .boolean 0)) (Int32.toNatClampNeg 3) (vp_nar .boolean 0)))), (b 12, .inl (cI, 7, .inl (upd (upd (upd (fun _ => (0 : Int32)) (Int32.toNatClampNeg 0) 1) (Int32.toNatClampNeg 1) 1) (Int32.toNatClampNeg 2) 1))), (b 13, .inl (cI, 7, .inl fc))] H := hP
  have hD : va_D A [(b 0, .inr (8, [.ref (b 1), .int 0, .int 0, .int 0, .int 0, .int 0, .int 0, .int (-1), .int (-1), .int (-1), .ref (b 11), .ref (b 12), .ref (b 13), .int 0, .int 0, .ref (b 16), .ref (b 17), .ref (b 18), .ref (b 19), .ref (b 20), .ref (b 21), .ref (b 22), .ref (b 23), .ref (b 24), .int 0, .ref (b 26), .ref (b 27), .ref (b 28), .ref (b 29), .ref (b 30), .ref (b 31), .ref (b 32), .int 0, .int 0, .ref (b 35), .ref (b 36), .ref (b 37), .ref (b 38), .ref (b 39), .ref (b 40), .int 0, .ref (b 42), .ref (b 43), .ref (b 44), .int 0, .ref (b 46), .ref (b 47), .int 0, .ref (b 49)])), (b 11, .inl (cZ, 7, .inl (upd (upd (upd (upd (fun _ => (0 : Int32)) (Int32.toNatClampNeg 0) (vp_nar .boolean 0)) (Int32.toNatClampNeg 1) (vp_nar .boolean 0)) (Int32.toNatClampNeg 2) (vp_nar .boolean 0)) (Int32.toNatClampNeg 3) (vp_nar .boolean 0)))), (b 12, .inl (cI, 7, .inl (upd (upd (upd (fun _ => (0 : Int32)) (Int32.toNatClampNeg 0) 1) (Int32.toNatClampNeg 1) 1) (Int32.toNatClampNeg 2) 1))), (b 13, .inl (cI, 7, .inl fc))] := hD
  refine lv_aload_n hx hb dX8_custom_42 rfl (lv_at hl 3 rfl) ?_
  refine va_get (D := (dC, dI)) (ci := 8) (v := .ref (b 12)) (C := RX8) (T := TX8) (N := 49) hx hb hw zz_inX8 hown hK hP 0 rfl rfl 11 (by decide) (hw _ tw_124) (fun _ h9 => h9) rfl dX8_custom_43 ?_
  refine lv_iload_n hx hb dX8_custom_46 rfl (lv_at hl 0 rfl) ?_
  refine lv_iload_n hx hb dX8_custom_47 rfl (lv_at hl 0 rfl) ?_
  refine lv_iconst (v := 3) hx hb dX8_custom_48 (by decide) ?_
  refine lv_icmp_ge (tgt := 56) hx hb dX8_custom_49 (by decide) (fun _ => ?_) (fun c_9 => absurd c_9 (by decide))
  refine lv_iload_n hx hb dX8_custom_56 rfl (lv_at hl 0 rfl) ?_
  refine lv_iconst (v := 3) hx hb dX8_custom_57 (by decide) ?_
  refine lv_icmp_ne (tgt := 67) hx hb dX8_custom_58 (by decide) (fun c_9 => absurd c_9 (by decide)) (fun _ => ?_)
  refine lv_sipush (v := 400) hx hb dX8_custom_61 (by decide) ?_
  refine lv_goto (tgt := 68) hx hb dX8_custom_64 (by decide) ?_
  refine va_iast hx hb hK hP hD hS 2 0 rfl rfl (zz_vin (by decide)) dX8_custom_68 (fun H locs hP hD hS => ?_)
  have hP : va_P (dC, dI) vwCl [(b 0, .inr (8, [.ref (b 1), .int 0, .int 0, .int 0, .int 0, .int 0, .int 0, .int (-1), .int (-1), .int (-1), .ref (b 11), .ref (b 12), .ref (b 13), .int 0, .int 0, .ref (b 16), .ref (b 17), .ref (b 18), .ref (b 19), .ref (b 20), .ref (b 21), .ref (b 22), .ref (b 23), .ref (b 24), .int 0, .ref (b 26), .ref (b 27), .ref (b 28), .ref (b 29), .ref (b 30), .ref (b 31), .ref (b 32), .int 0, .int 0, .ref (b 35), .ref (b 36), .ref (b 37), .ref (b 38), .ref (b 39), .ref (b 40), .int 0, .ref (b 42), .ref (b 43), .ref (b 44), .int 0, .ref (b 46), .ref (b 47), .int 0, .ref (b 49)])), (b 11, .inl (cZ, 7, .inl (upd (upd (upd (upd (fun _ => (0 : Int32)) (Int32.toNatClampNeg 0) (vp_nar .boolean 0)) (Int32.toNatClampNeg 1) (vp_nar .boolean 0)) (Int32.toNatClampNeg 2) (vp_nar .boolean 0)) (Int32.toNatClampNeg 3) (vp_nar .boolean 0)))), (b 12, .inl (cI, 7, .inl (upd (upd (upd (upd (fun _ => (0 : Int32)) (Int32.toNatClampNeg 0) 1) (Int32.toNatClampNeg 1) 1) (Int32.toNatClampNeg 2) 1) (Int32.toNatClampNeg 3) 400))), (b 13, .inl (cI, 7, .inl fc))] H := hP
  have hD : va_D A [(b 0, .inr (8, [.ref (b 1), .int 0, .int 0, .int 0, .int 0, .int 0, .int 0, .int (-1), .int (-1), .int (-1), .ref (b 11), .ref (b 12), .ref (b 13), .int 0, .int 0, .ref (b 16), .ref (b 17), .ref (b 18), .ref (b 19), .ref (b 20), .ref (b 21), .ref (b 22), .ref (b 23), .ref (b 24), .int 0, .ref (b 26), .ref (b 27), .ref (b 28), .ref (b 29), .ref (b 30), .ref (b 31), .ref (b 32), .int 0, .int 0, .ref (b 35), .ref (b 36), .ref (b 37), .ref (b 38), .ref (b 39), .ref (b 40), .int 0, .ref (b 42), .ref (b 43), .ref (b 44), .int 0, .ref (b 46), .ref (b 47), .int 0, .ref (b 49)])), (b 11, .inl (cZ, 7, .inl (upd (upd (upd (upd (fun _ => (0 : Int32)) (Int32.toNatClampNeg 0) (vp_nar .boolean 0)) (Int32.toNatClampNeg 1) (vp_nar .boolean 0)) (Int32.toNatClampNeg 2) (vp_nar .boolean 0)) (Int32.toNatClampNeg 3) (vp_nar .boolean 0)))), (b 12, .inl (cI, 7, .inl (upd (upd (upd (upd (fun _ => (0 : Int32)) (Int32.toNatClampNeg 0) 1) (Int32.toNatClampNeg 1) 1) (Int32.toNatClampNeg 2) 1) (Int32.toNatClampNeg 3) 400))), (b 13, .inl (cI, 7, .inl fc))] := hD
  refine lv_iinc (v := 4) (lv' := [(3, .int 4), (2, .int 0), (1, .int 0), (0, .ref (b 0))]) hx hb dX8_custom_69 hl (k := 0) rfl (by decide) (by decide) rfl (fun ls hl => ?_)
  refine lv_goto (tgt := 29) hx hb dX8_custom_72 (by decide) ?_
  refine lv_iload_n hx hb dX8_custom_29 rfl (lv_at hl 0 rfl) ?_
  refine lv_bipush (v := 7) hx hb dX8_custom_30 (by decide) ?_
  refine lv_icmp_ge (tgt := 75) hx hb dX8_custom_32 (by decide) (fun c_9 => absurd c_9 (by decide)) (fun _ => ?_)
  refine lv_aload_n hx hb dX8_custom_35 rfl (lv_at hl 3 rfl) ?_
  refine va_get (D := (dC, dI)) (ci := 8) (v := .ref (b 11)) (C := RX8) (T := TX8) (N := 49) hx hb hw zz_inX8 hown hK hP 0 rfl rfl 10 (by decide) (hw _ tw_123) (fun _ h9 => h9) rfl dX8_custom_36 ?_
  refine lv_iload_n hx hb dX8_custom_39 rfl (lv_at hl 0 rfl) ?_
  refine lv_iconst (v := 0) hx hb dX8_custom_40 (by decide) ?_
  refine va_zast hx hb hK hP hD hS 1 1 rfl rfl (zz_vin (by decide)) dX8_custom_41 (fun H locs hP hD hS => ?_)
  have hP : va_P (dC, dI) vwCl [(b 0, .inr (8, [.ref (b 1), .int 0, .int 0, .int 0, .int 0, .int 0, .int 0, .int (-1), .int (-1), .int (-1), .ref (b 11), .ref (b 12), .ref (b 13), .int 0, .int 0, .ref (b 16), .ref (b 17), .ref (b 18), .ref (b 19), .ref (b 20), .ref (b 21), .ref (b 22), .ref (b 23), .ref (b 24), .int 0, .ref (b 26), .ref (b 27), .ref (b 28), .ref (b 29), .ref (b 30), .ref (b 31), .ref (b 32), .int 0, .int 0, .ref (b 35), .ref (b 36), .ref (b 37), .ref (b 38), .ref (b 39), .ref (b 40), .int 0, .ref (b 42), .ref (b 43), .ref (b 44), .int 0, .ref (b 46), .ref (b 47), .int 0, .ref (b 49)])), (b 11, .inl (cZ, 7, .inl (upd (upd (upd (upd (upd (fun _ => (0 : Int32)) (Int32.toNatClampNeg 0) (vp_nar .boolean 0)) (Int32.toNatClampNeg 1) (vp_nar .boolean 0)) (Int32.toNatClampNeg 2) (vp_nar .boolean 0)) (Int32.toNatClampNeg 3) (vp_nar .boolean 0)) (Int32.toNatClampNeg 4) (vp_nar .boolean 0)))), (b 12, .inl (cI, 7, .inl (upd (upd (upd (upd (fun _ => (0 : Int32)) (Int32.toNatClampNeg 0) 1) (Int32.toNatClampNeg 1) 1) (Int32.toNatClampNeg 2) 1) (Int32.toNatClampNeg 3) 400))), (b 13, .inl (cI, 7, .inl fc))] H := hP
  have hD : va_D A [(b 0, .inr (8, [.ref (b 1), .int 0, .int 0, .int 0, .int 0, .int 0, .int 0, .int (-1), .int (-1), .int (-1), .ref (b 11), .ref (b 12), .ref (b 13), .int 0, .int 0, .ref (b 16), .ref (b 17), .ref (b 18), .ref (b 19), .ref (b 20), .ref (b 21), .ref (b 22), .ref (b 23), .ref (b 24), .int 0, .ref (b 26), .ref (b 27), .ref (b 28), .ref (b 29), .ref (b 30), .ref (b 31), .ref (b 32), .int 0, .int 0, .ref (b 35), .ref (b 36), .ref (b 37), .ref (b 38), .ref (b 39), .ref (b 40), .int 0, .ref (b 42), .ref (b 43), .ref (b 44), .int 0, .ref (b 46), .ref (b 47), .int 0, .ref (b 49)])), (b 11, .inl (cZ, 7, .inl (upd (upd (upd (upd (upd (fun _ => (0 : Int32)) (Int32.toNatClampNeg 0) (vp_nar .boolean 0)) (Int32.toNatClampNeg 1) (vp_nar .boolean 0)) (Int32.toNatClampNeg 2) (vp_nar .boolean 0)) (Int32.toNatClampNeg 3) (vp_nar .boolean 0)) (Int32.toNatClampNeg 4) (vp_nar .boolean 0)))), (b 12, .inl (cI, 7, .inl (upd (upd (upd (upd (fun _ => (0 : Int32)) (Int32.toNatClampNeg 0) 1) (Int32.toNatClampNeg 1) 1) (Int32.toNatClampNeg 2) 1) (Int32.toNatClampNeg 3) 400))), (b 13, .inl (cI, 7, .inl fc))] := hD
  refine lv_aload_n hx hb dX8_custom_42 rfl (lv_at hl 3 rfl) ?_
  refine va_get (D := (dC, dI)) (ci := 8) (v := .ref (b 12)) (C := RX8) (T := TX8) (N := 49) hx hb hw zz_inX8 hown hK hP 0 rfl rfl 11 (by decide) (hw _ tw_124) (fun _ h9 => h9) rfl dX8_custom_43 ?_
  refine lv_iload_n hx hb dX8_custom_46 rfl (lv_at hl 0 rfl) ?_
  refine lv_iload_n hx hb dX8_custom_47 rfl (lv_at hl 0 rfl) ?_
  refine lv_iconst (v := 3) hx hb dX8_custom_48 (by decide) ?_
  refine lv_icmp_ge (tgt := 56) hx hb dX8_custom_49 (by decide) (fun _ => ?_) (fun c_9 => absurd c_9 (by decide))
  refine lv_iload_n hx hb dX8_custom_56 rfl (lv_at hl 0 rfl) ?_
  refine lv_iconst (v := 3) hx hb dX8_custom_57 (by decide) ?_
  refine lv_icmp_ne (tgt := 67) hx hb dX8_custom_58 (by decide) (fun _ => ?_) (fun c_9 => absurd c_9 (by decide))
  refine lv_iconst (v := 0) hx hb dX8_custom_67 (by decide) ?_
  refine va_iast hx hb hK hP hD hS 2 0 rfl rfl (zz_vin (by decide)) dX8_custom_68 (fun H locs hP hD hS => ?_)
  have hP : va_P (dC, dI) vwCl [(b 0, .inr (8, [.ref (b 1), .int 0, .int 0, .int 0, .int 0, .int 0, .int 0, .int (-1), .int (-1), .int (-1), .ref (b 11), .ref (b 12), .ref (b 13), .int 0, .int 0, .ref (b 16), .ref (b 17), .ref (b 18), .ref (b 19), .ref (b 20), .ref (b 21), .ref (b 22), .ref (b 23), .ref (b 24), .int 0, .ref (b 26), .ref (b 27), .ref (b 28), .ref (b 29), .ref (b 30), .ref (b 31), .ref (b 32), .int 0, .int 0, .ref (b 35), .ref (b 36), .ref (b 37), .ref (b 38), .ref (b 39), .ref (b 40), .int 0, .ref (b 42), .ref (b 43), .ref (b 44), .int 0, .ref (b 46), .ref (b 47), .int 0, .ref (b 49)])), (b 11, .inl (cZ, 7, .inl (upd (upd (upd (upd (upd (fun _ => (0 : Int32)) (Int32.toNatClampNeg 0) (vp_nar .boolean 0)) (Int32.toNatClampNeg 1) (vp_nar .boolean 0)) (Int32.toNatClampNeg 2) (vp_nar .boolean 0)) (Int32.toNatClampNeg 3) (vp_nar .boolean 0)) (Int32.toNatClampNeg 4) (vp_nar .boolean 0)))), (b 12, .inl (cI, 7, .inl (upd (upd (upd (upd (upd (fun _ => (0 : Int32)) (Int32.toNatClampNeg 0) 1) (Int32.toNatClampNeg 1) 1) (Int32.toNatClampNeg 2) 1) (Int32.toNatClampNeg 3) 400) (Int32.toNatClampNeg 4) 0))), (b 13, .inl (cI, 7, .inl fc))] H := hP
  have hD : va_D A [(b 0, .inr (8, [.ref (b 1), .int 0, .int 0, .int 0, .int 0, .int 0, .int 0, .int (-1), .int (-1), .int (-1), .ref (b 11), .ref (b 12), .ref (b 13), .int 0, .int 0, .ref (b 16), .ref (b 17), .ref (b 18), .ref (b 19), .ref (b 20), .ref (b 21), .ref (b 22), .ref (b 23), .ref (b 24), .int 0, .ref (b 26), .ref (b 27), .ref (b 28), .ref (b 29), .ref (b 30), .ref (b 31), .ref (b 32), .int 0, .int 0, .ref (b 35), .ref (b 36), .ref (b 37), .ref (b 38), .ref (b 39), .ref (b 40), .int 0, .ref (b 42), .ref (b 43), .ref (b 44), .int 0, .ref (b 46), .ref (b 47), .int 0, .ref (b 49)])), (b 11, .inl (cZ, 7, .inl (upd (upd (upd (upd (upd (fun _ => (0 : Int32)) (Int32.toNatClampNeg 0) (vp_nar .boolean 0)) (Int32.toNatClampNeg 1) (vp_nar .boolean 0)) (Int32.toNatClampNeg 2) (vp_nar .boolean 0)) (Int32.toNatClampNeg 3) (vp_nar .boolean 0)) (Int32.toNatClampNeg 4) (vp_nar .boolean 0)))), (b 12, .inl (cI, 7, .inl (upd (upd (upd (upd (upd (fun _ => (0 : Int32)) (Int32.toNatClampNeg 0) 1) (Int32.toNatClampNeg 1) 1) (Int32.toNatClampNeg 2) 1) (Int32.toNatClampNeg 3) 400) (Int32.toNatClampNeg 4) 0))), (b 13, .inl (cI, 7, .inl fc))] := hD
  refine lv_iinc (v := 5) (lv' := [(3, .int 5), (2, .int 0), (1, .int 0), (0, .ref (b 0))]) hx hb dX8_custom_69 hl (k := 0) rfl (by decide) (by decide) rfl (fun ls hl => ?_)
  refine lv_goto (tgt := 29) hx hb dX8_custom_72 (by decide) ?_
  refine lv_iload_n hx hb dX8_custom_29 rfl (lv_at hl 0 rfl) ?_
  refine lv_bipush (v := 7) hx hb dX8_custom_30 (by decide) ?_
  refine lv_icmp_ge (tgt := 75) hx hb dX8_custom_32 (by decide) (fun c_9 => absurd c_9 (by decide)) (fun _ => ?_)
  refine lv_aload_n hx hb dX8_custom_35 rfl (lv_at hl 3 rfl) ?_
  refine va_get (D := (dC, dI)) (ci := 8) (v := .ref (b 11)) (C := RX8) (T := TX8) (N := 49) hx hb hw zz_inX8 hown hK hP 0 rfl rfl 10 (by decide) (hw _ tw_123) (fun _ h9 => h9) rfl dX8_custom_36 ?_
  refine lv_iload_n hx hb dX8_custom_39 rfl (lv_at hl 0 rfl) ?_
  refine lv_iconst (v := 0) hx hb dX8_custom_40 (by decide) ?_
  refine va_zast hx hb hK hP hD hS 1 1 rfl rfl (zz_vin (by decide)) dX8_custom_41 (fun H locs hP hD hS => ?_)
  have hP : va_P (dC, dI) vwCl [(b 0, .inr (8, [.ref (b 1), .int 0, .int 0, .int 0, .int 0, .int 0, .int 0, .int (-1), .int (-1), .int (-1), .ref (b 11), .ref (b 12), .ref (b 13), .int 0, .int 0, .ref (b 16), .ref (b 17), .ref (b 18), .ref (b 19), .ref (b 20), .ref (b 21), .ref (b 22), .ref (b 23), .ref (b 24), .int 0, .ref (b 26), .ref (b 27), .ref (b 28), .ref (b 29), .ref (b 30), .ref (b 31), .ref (b 32), .int 0, .int 0, .ref (b 35), .ref (b 36), .ref (b 37), .ref (b 38), .ref (b 39), .ref (b 40), .int 0, .ref (b 42), .ref (b 43), .ref (b 44), .int 0, .ref (b 46), .ref (b 47), .int 0, .ref (b 49)])), (b 11, .inl (cZ, 7, .inl (upd (upd (upd (upd (upd (upd (fun _ => (0 : Int32)) (Int32.toNatClampNeg 0) (vp_nar .boolean 0)) (Int32.toNatClampNeg 1) (vp_nar .boolean 0)) (Int32.toNatClampNeg 2) (vp_nar .boolean 0)) (Int32.toNatClampNeg 3) (vp_nar .boolean 0)) (Int32.toNatClampNeg 4) (vp_nar .boolean 0)) (Int32.toNatClampNeg 5) (vp_nar .boolean 0)))), (b 12, .inl (cI, 7, .inl (upd (upd (upd (upd (upd (fun _ => (0 : Int32)) (Int32.toNatClampNeg 0) 1) (Int32.toNatClampNeg 1) 1) (Int32.toNatClampNeg 2) 1) (Int32.toNatClampNeg 3) 400) (Int32.toNatClampNeg 4) 0))), (b 13, .inl (cI, 7, .inl fc))] H := hP
  have hD : va_D A [(b 0, .inr (8, [.ref (b 1), .int 0, .int 0, .int 0, .int 0, .int 0, .int 0, .int (-1), .int (-1), .int (-1), .ref (b 11), .ref (b 12), .ref (b 13), .int 0, .int 0, .ref (b 16), .ref (b 17), .ref (b 18), .ref (b 19), .ref (b 20), .ref (b 21), .ref (b 22), .ref (b 23), .ref (b 24), .int 0, .ref (b 26), .ref (b 27), .ref (b 28), .ref (b 29), .ref (b 30), .ref (b 31), .ref (b 32), .int 0, .int 0, .ref (b 35), .ref (b 36), .ref (b 37), .ref (b 38), .ref (b 39), .ref (b 40), .int 0, .ref (b 42), .ref (b 43), .ref (b 44), .int 0, .ref (b 46), .ref (b 47), .int 0, .ref (b 49)])), (b 11, .inl (cZ, 7, .inl (upd (upd (upd (upd (upd (upd (fun _ => (0 : Int32)) (Int32.toNatClampNeg 0) (vp_nar .boolean 0)) (Int32.toNatClampNeg 1) (vp_nar .boolean 0)) (Int32.toNatClampNeg 2) (vp_nar .boolean 0)) (Int32.toNatClampNeg 3) (vp_nar .boolean 0)) (Int32.toNatClampNeg 4) (vp_nar .boolean 0)) (Int32.toNatClampNeg 5) (vp_nar .boolean 0)))), (b 12, .inl (cI, 7, .inl (upd (upd (upd (upd (upd (fun _ => (0 : Int32)) (Int32.toNatClampNeg 0) 1) (Int32.toNatClampNeg 1) 1) (Int32.toNatClampNeg 2) 1) (Int32.toNatClampNeg 3) 400) (Int32.toNatClampNeg 4) 0))), (b 13, .inl (cI, 7, .inl fc))] := hD
  refine lv_aload_n hx hb dX8_custom_42 rfl (lv_at hl 3 rfl) ?_
  refine va_get (D := (dC, dI)) (ci := 8) (v := .ref (b 12)) (C := RX8) (T := TX8) (N := 49) hx hb hw zz_inX8 hown hK hP 0 rfl rfl 11 (by decide) (hw _ tw_124) (fun _ h9 => h9) rfl dX8_custom_43 ?_
  refine lv_iload_n hx hb dX8_custom_46 rfl (lv_at hl 0 rfl) ?_
  refine lv_iload_n hx hb dX8_custom_47 rfl (lv_at hl 0 rfl) ?_
  refine lv_iconst (v := 3) hx hb dX8_custom_48 (by decide) ?_
  refine lv_icmp_ge (tgt := 56) hx hb dX8_custom_49 (by decide) (fun _ => ?_) (fun c_9 => absurd c_9 (by decide))
  refine lv_iload_n hx hb dX8_custom_56 rfl (lv_at hl 0 rfl) ?_
  refine lv_iconst (v := 3) hx hb dX8_custom_57 (by decide) ?_
  refine lv_icmp_ne (tgt := 67) hx hb dX8_custom_58 (by decide) (fun _ => ?_) (fun c_9 => absurd c_9 (by decide))
  refine lv_iconst (v := 0) hx hb dX8_custom_67 (by decide) ?_
  refine va_iast hx hb hK hP hD hS 2 0 rfl rfl (zz_vin (by decide)) dX8_custom_68 (fun H locs hP hD hS => ?_)
  have hP : va_P (dC, dI) vwCl [(b 0, .inr (8, [.ref (b 1), .int 0, .int 0, .int 0, .int 0, .int 0, .int 0, .int (-1), .int (-1), .int (-1), .ref (b 11), .ref (b 12), .ref (b 13), .int 0, .int 0, .ref (b 16), .ref (b 17), .ref (b 18), .ref (b 19), .ref (b 20), .ref (b 21), .ref (b 22), .ref (b 23), .ref (b 24), .int 0, .ref (b 26), .ref (b 27), .ref (b 28), .ref (b 29), .ref (b 30), .ref (b 31), .ref (b 32), .int 0, .int 0, .ref (b 35), .ref (b 36), .ref (b 37), .ref (b 38), .ref (b 39), .ref (b 40), .int 0, .ref (b 42), .ref (b 43), .ref (b 44), .int 0, .ref (b 46), .ref (b 47), .int 0, .ref (b 49)])), (b 11, .inl (cZ, 7, .inl (upd (upd (upd (upd (upd (upd (fun _ => (0 : Int32)) (Int32.toNatClampNeg 0) (vp_nar .boolean 0)) (Int32.toNatClampNeg 1) (vp_nar .boolean 0)) (Int32.toNatClampNeg 2) (vp_nar .boolean 0)) (Int32.toNatClampNeg 3) (vp_nar .boolean 0)) (Int32.toNatClampNeg 4) (vp_nar .boolean 0)) (Int32.toNatClampNeg 5) (vp_nar .boolean 0)))), (b 12, .inl (cI, 7, .inl (upd (upd (upd (upd (upd (upd (fun _ => (0 : Int32)) (Int32.toNatClampNeg 0) 1) (Int32.toNatClampNeg 1) 1) (Int32.toNatClampNeg 2) 1) (Int32.toNatClampNeg 3) 400) (Int32.toNatClampNeg 4) 0) (Int32.toNatClampNeg 5) 0))), (b 13, .inl (cI, 7, .inl fc))] H := hP
  have hD : va_D A [(b 0, .inr (8, [.ref (b 1), .int 0, .int 0, .int 0, .int 0, .int 0, .int 0, .int (-1), .int (-1), .int (-1), .ref (b 11), .ref (b 12), .ref (b 13), .int 0, .int 0, .ref (b 16), .ref (b 17), .ref (b 18), .ref (b 19), .ref (b 20), .ref (b 21), .ref (b 22), .ref (b 23), .ref (b 24), .int 0, .ref (b 26), .ref (b 27), .ref (b 28), .ref (b 29), .ref (b 30), .ref (b 31), .ref (b 32), .int 0, .int 0, .ref (b 35), .ref (b 36), .ref (b 37), .ref (b 38), .ref (b 39), .ref (b 40), .int 0, .ref (b 42), .ref (b 43), .ref (b 44), .int 0, .ref (b 46), .ref (b 47), .int 0, .ref (b 49)])), (b 11, .inl (cZ, 7, .inl (upd (upd (upd (upd (upd (upd (fun _ => (0 : Int32)) (Int32.toNatClampNeg 0) (vp_nar .boolean 0)) (Int32.toNatClampNeg 1) (vp_nar .boolean 0)) (Int32.toNatClampNeg 2) (vp_nar .boolean 0)) (Int32.toNatClampNeg 3) (vp_nar .boolean 0)) (Int32.toNatClampNeg 4) (vp_nar .boolean 0)) (Int32.toNatClampNeg 5) (vp_nar .boolean 0)))), (b 12, .inl (cI, 7, .inl (upd (upd (upd (upd (upd (upd (fun _ => (0 : Int32)) (Int32.toNatClampNeg 0) 1) (Int32.toNatClampNeg 1) 1) (Int32.toNatClampNeg 2) 1) (Int32.toNatClampNeg 3) 400) (Int32.toNatClampNeg 4) 0) (Int32.toNatClampNeg 5) 0))), (b 13, .inl (cI, 7, .inl fc))] := hD
  refine lv_iinc (v := 6) (lv' := [(3, .int 6), (2, .int 0), (1, .int 0), (0, .ref (b 0))]) hx hb dX8_custom_69 hl (k := 0) rfl (by decide) (by decide) rfl (fun ls hl => ?_)
  refine lv_goto (tgt := 29) hx hb dX8_custom_72 (by decide) ?_
  refine lv_iload_n hx hb dX8_custom_29 rfl (lv_at hl 0 rfl) ?_
  refine lv_bipush (v := 7) hx hb dX8_custom_30 (by decide) ?_
  refine lv_icmp_ge (tgt := 75) hx hb dX8_custom_32 (by decide) (fun c_9 => absurd c_9 (by decide)) (fun _ => ?_)
  refine lv_aload_n hx hb dX8_custom_35 rfl (lv_at hl 3 rfl) ?_
  refine va_get (D := (dC, dI)) (ci := 8) (v := .ref (b 11)) (C := RX8) (T := TX8) (N := 49) hx hb hw zz_inX8 hown hK hP 0 rfl rfl 10 (by decide) (hw _ tw_123) (fun _ h9 => h9) rfl dX8_custom_36 ?_
  refine lv_iload_n hx hb dX8_custom_39 rfl (lv_at hl 0 rfl) ?_
  refine lv_iconst (v := 0) hx hb dX8_custom_40 (by decide) ?_
  refine va_zast hx hb hK hP hD hS 1 1 rfl rfl (zz_vin (by decide)) dX8_custom_41 (fun H locs hP hD hS => ?_)
  have hP : va_P (dC, dI) vwCl [(b 0, .inr (8, [.ref (b 1), .int 0, .int 0, .int 0, .int 0, .int 0, .int 0, .int (-1), .int (-1), .int (-1), .ref (b 11), .ref (b 12), .ref (b 13), .int 0, .int 0, .ref (b 16), .ref (b 17), .ref (b 18), .ref (b 19), .ref (b 20), .ref (b 21), .ref (b 22), .ref (b 23), .ref (b 24), .int 0, .ref (b 26), .ref (b 27), .ref (b 28), .ref (b 29), .ref (b 30), .ref (b 31), .ref (b 32), .int 0, .int 0, .ref (b 35), .ref (b 36), .ref (b 37), .ref (b 38), .ref (b 39), .ref (b 40), .int 0, .ref (b 42), .ref (b 43), .ref (b 44), .int 0, .ref (b 46), .ref (b 47), .int 0, .ref (b 49)])), (b 11, .inl (cZ, 7, .inl (upd (upd (upd (upd (upd (upd (upd (fun _ => (0 : Int32)) (Int32.toNatClampNeg 0) (vp_nar .boolean 0)) (Int32.toNatClampNeg 1) (vp_nar .boolean 0)) (Int32.toNatClampNeg 2) (vp_nar .boolean 0)) (Int32.toNatClampNeg 3) (vp_nar .boolean 0)) (Int32.toNatClampNeg 4) (vp_nar .boolean 0)) (Int32.toNatClampNeg 5) (vp_nar .boolean 0)) (Int32.toNatClampNeg 6) (vp_nar .boolean 0)))), (b 12, .inl (cI, 7, .inl (upd (upd (upd (upd (upd (upd (fun _ => (0 : Int32)) (Int32.toNatClampNeg 0) 1) (Int32.toNatClampNeg 1) 1) (Int32.toNatClampNeg 2) 1) (Int32.toNatClampNeg 3) 400) (Int32.toNatClampNeg 4) 0) (Int32.toNatClampNeg 5) 0))), (b 13, .inl (cI, 7, .inl fc))] H := hP
  have hD : va_D A [(b 0, .inr (8, [.ref (b 1), .int 0, .int 0, .int 0, .int 0, .int 0, .int 0, .int (-1), .int (-1), .int (-1), .ref (b 11), .ref (b 12), .ref (b 13), .int 0, .int 0, .ref (b 16), .ref (b 17), .ref (b 18), .ref (b 19), .ref (b 20), .ref (b 21), .ref (b 22), .ref (b 23), .ref (b 24), .int 0, .ref (b 26), .ref (b 27), .ref (b 28), .ref (b 29), .ref (b 30), .ref (b 31), .ref (b 32), .int 0, .int 0, .ref (b 35), .ref (b 36), .ref (b 37), .ref (b 38), .ref (b 39), .ref (b 40), .int 0, .ref (b 42), .ref (b 43), .ref (b 44), .int 0, .ref (b 46), .ref (b 47), .int 0, .ref (b 49)])), (b 11, .inl (cZ, 7, .inl (upd (upd (upd (upd (upd (upd (upd (fun _ => (0 : Int32)) (Int32.toNatClampNeg 0) (vp_nar .boolean 0)) (Int32.toNatClampNeg 1) (vp_nar .boolean 0)) (Int32.toNatClampNeg 2) (vp_nar .boolean 0)) (Int32.toNatClampNeg 3) (vp_nar .boolean 0)) (Int32.toNatClampNeg 4) (vp_nar .boolean 0)) (Int32.toNatClampNeg 5) (vp_nar .boolean 0)) (Int32.toNatClampNeg 6) (vp_nar .boolean 0)))), (b 12, .inl (cI, 7, .inl (upd (upd (upd (upd (upd (upd (fun _ => (0 : Int32)) (Int32.toNatClampNeg 0) 1) (Int32.toNatClampNeg 1) 1) (Int32.toNatClampNeg 2) 1) (Int32.toNatClampNeg 3) 400) (Int32.toNatClampNeg 4) 0) (Int32.toNatClampNeg 5) 0))), (b 13, .inl (cI, 7, .inl fc))] := hD
  refine lv_aload_n hx hb dX8_custom_42 rfl (lv_at hl 3 rfl) ?_
  refine va_get (D := (dC, dI)) (ci := 8) (v := .ref (b 12)) (C := RX8) (T := TX8) (N := 49) hx hb hw zz_inX8 hown hK hP 0 rfl rfl 11 (by decide) (hw _ tw_124) (fun _ h9 => h9) rfl dX8_custom_43 ?_
  refine lv_iload_n hx hb dX8_custom_46 rfl (lv_at hl 0 rfl) ?_
  refine lv_iload_n hx hb dX8_custom_47 rfl (lv_at hl 0 rfl) ?_
  refine lv_iconst (v := 3) hx hb dX8_custom_48 (by decide) ?_
  refine lv_icmp_ge (tgt := 56) hx hb dX8_custom_49 (by decide) (fun _ => ?_) (fun c_9 => absurd c_9 (by decide))
  refine lv_iload_n hx hb dX8_custom_56 rfl (lv_at hl 0 rfl) ?_
  refine lv_iconst (v := 3) hx hb dX8_custom_57 (by decide) ?_
  refine lv_icmp_ne (tgt := 67) hx hb dX8_custom_58 (by decide) (fun _ => ?_) (fun c_9 => absurd c_9 (by decide))
  refine lv_iconst (v := 0) hx hb dX8_custom_67 (by decide) ?_
  refine va_iast hx hb hK hP hD hS 2 0 rfl rfl (zz_vin (by decide)) dX8_custom_68 (fun H locs hP hD hS => ?_)
  have hP : va_P (dC, dI) vwCl [(b 0, .inr (8, [.ref (b 1), .int 0, .int 0, .int 0, .int 0, .int 0, .int 0, .int (-1), .int (-1), .int (-1), .ref (b 11), .ref (b 12), .ref (b 13), .int 0, .int 0, .ref (b 16), .ref (b 17), .ref (b 18), .ref (b 19), .ref (b 20), .ref (b 21), .ref (b 22), .ref (b 23), .ref (b 24), .int 0, .ref (b 26), .ref (b 27), .ref (b 28), .ref (b 29), .ref (b 30), .ref (b 31), .ref (b 32), .int 0, .int 0, .ref (b 35), .ref (b 36), .ref (b 37), .ref (b 38), .ref (b 39), .ref (b 40), .int 0, .ref (b 42), .ref (b 43), .ref (b 44), .int 0, .ref (b 46), .ref (b 47), .int 0, .ref (b 49)])), (b 11, .inl (cZ, 7, .inl (upd (upd (upd (upd (upd (upd (upd (fun _ => (0 : Int32)) (Int32.toNatClampNeg 0) (vp_nar .boolean 0)) (Int32.toNatClampNeg 1) (vp_nar .boolean 0)) (Int32.toNatClampNeg 2) (vp_nar .boolean 0)) (Int32.toNatClampNeg 3) (vp_nar .boolean 0)) (Int32.toNatClampNeg 4) (vp_nar .boolean 0)) (Int32.toNatClampNeg 5) (vp_nar .boolean 0)) (Int32.toNatClampNeg 6) (vp_nar .boolean 0)))), (b 12, .inl (cI, 7, .inl (upd (upd (upd (upd (upd (upd (upd (fun _ => (0 : Int32)) (Int32.toNatClampNeg 0) 1) (Int32.toNatClampNeg 1) 1) (Int32.toNatClampNeg 2) 1) (Int32.toNatClampNeg 3) 400) (Int32.toNatClampNeg 4) 0) (Int32.toNatClampNeg 5) 0) (Int32.toNatClampNeg 6) 0))), (b 13, .inl (cI, 7, .inl fc))] H := hP
  have hD : va_D A [(b 0, .inr (8, [.ref (b 1), .int 0, .int 0, .int 0, .int 0, .int 0, .int 0, .int (-1), .int (-1), .int (-1), .ref (b 11), .ref (b 12), .ref (b 13), .int 0, .int 0, .ref (b 16), .ref (b 17), .ref (b 18), .ref (b 19), .ref (b 20), .ref (b 21), .ref (b 22), .ref (b 23), .ref (b 24), .int 0, .ref (b 26), .ref (b 27), .ref (b 28), .ref (b 29), .ref (b 30), .ref (b 31), .ref (b 32), .int 0, .int 0, .ref (b 35), .ref (b 36), .ref (b 37), .ref (b 38), .ref (b 39), .ref (b 40), .int 0, .ref (b 42), .ref (b 43), .ref (b 44), .int 0, .ref (b 46), .ref (b 47), .int 0, .ref (b 49)])), (b 11, .inl (cZ, 7, .inl (upd (upd (upd (upd (upd (upd (upd (fun _ => (0 : Int32)) (Int32.toNatClampNeg 0) (vp_nar .boolean 0)) (Int32.toNatClampNeg 1) (vp_nar .boolean 0)) (Int32.toNatClampNeg 2) (vp_nar .boolean 0)) (Int32.toNatClampNeg 3) (vp_nar .boolean 0)) (Int32.toNatClampNeg 4) (vp_nar .boolean 0)) (Int32.toNatClampNeg 5) (vp_nar .boolean 0)) (Int32.toNatClampNeg 6) (vp_nar .boolean 0)))), (b 12, .inl (cI, 7, .inl (upd (upd (upd (upd (upd (upd (upd (fun _ => (0 : Int32)) (Int32.toNatClampNeg 0) 1) (Int32.toNatClampNeg 1) 1) (Int32.toNatClampNeg 2) 1) (Int32.toNatClampNeg 3) 400) (Int32.toNatClampNeg 4) 0) (Int32.toNatClampNeg 5) 0) (Int32.toNatClampNeg 6) 0))), (b 13, .inl (cI, 7, .inl fc))] := hD
  refine lv_iinc (v := 7) (lv' := [(3, .int 7), (2, .int 0), (1, .int 0), (0, .ref (b 0))]) hx hb dX8_custom_69 hl (k := 0) rfl (by decide) (by decide) rfl (fun ls hl => ?_)
  refine lv_goto (tgt := 29) hx hb dX8_custom_72 (by decide) ?_
  refine lv_iload_n hx hb dX8_custom_29 rfl (lv_at hl 0 rfl) ?_
  refine lv_bipush (v := 7) hx hb dX8_custom_30 (by decide) ?_
  refine lv_icmp_ge (tgt := 75) hx hb dX8_custom_32 (by decide) (fun _ => ?_) (fun c_9 => absurd c_9 (by decide))
  refine lv_aload_n hx hb dX8_custom_75 rfl (lv_at hl 3 rfl) ?_
  refine lv_iload_n hx hb dX8_custom_76 rfl (lv_at hl 2 rfl) ?_
  have hPc := hP.sub (ws' := [(b 0, .inr (8, [.ref (b 1), .int 0, .int 0, .int 0, .int 0, .int 0, .int 0, .int (-1), .int (-1), .int (-1), .ref (b 11), .ref (b 12), .ref (b 13), .int 0, .int 0, .ref (b 16), .ref (b 17), .ref (b 18), .ref (b 19), .ref (b 20), .ref (b 21), .ref (b 22), .ref (b 23), .ref (b 24), .int 0, .ref (b 26), .ref (b 27), .ref (b 28), .ref (b 29), .ref (b 30), .ref (b 31), .ref (b 32), .int 0, .int 0, .ref (b 35), .ref (b 36), .ref (b 37), .ref (b 38), .ref (b 39), .ref (b 40), .int 0, .ref (b 42), .ref (b 43), .ref (b 44), .int 0, .ref (b 46), .ref (b 47), .int 0, .ref (b 49)]))]) [0] rfl
  have hDc := hD.sub (ws' := [(b 0, .inr (8, [.ref (b 1), .int 0, .int 0, .int 0, .int 0, .int 0, .int 0, .int (-1), .int (-1), .int (-1), .ref (b 11), .ref (b 12), .ref (b 13), .int 0, .int 0, .ref (b 16), .ref (b 17), .ref (b 18), .ref (b 19), .ref (b 20), .ref (b 21), .ref (b 22), .ref (b 23), .ref (b 24), .int 0, .ref (b 26), .ref (b 27), .ref (b 28), .ref (b 29), .ref (b 30), .ref (b 31), .ref (b 32), .int 0, .int 0, .ref (b 35), .ref (b 36), .ref (b 37), .ref (b 38), .ref (b 39), .ref (b 40), .int 0, .ref (b 42), .ref (b 43), .ref (b 44), .int 0, .ref (b 46), .ref (b 47), .int 0, .ref (b 49)]))]) [0] (by decide) rfl
  have hKc := hK.sub (tys' := []) [] rfl
  have hFc := va_free (wc := [(b 0, .inr (8, [.ref (b 1), .int 0, .int 0, .int 0, .int 0, .int 0, .int 0, .int (-1), .int (-1), .int (-1), .ref (b 11), .ref (b 12), .ref (b 13), .int 0, .int 0, .ref (b 16), .ref (b 17), .ref (b 18), .ref (b 19), .ref (b 20), .ref (b 21), .ref (b 22), .ref (b 23), .ref (b 24), .int 0, .ref (b 26), .ref (b 27), .ref (b 28), .ref (b 29), .ref (b 30), .ref (b 31), .ref (b 32), .int 0, .int 0, .ref (b 35), .ref (b 36), .ref (b 37), .ref (b 38), .ref (b 39), .ref (b 40), .int 0, .ref (b 42), .ref (b 43), .ref (b 44), .int 0, .ref (b 46), .ref (b 47), .int 0, .ref (b 49)]))]) hD hS hA [0] rfl
  refine va_callv (va_runV (As := [.int 0]) (rest := []) ⟨hx, hb, hml, hown, hw⟩ (m_next l dC dI b H.size) ⟨callB_of 1 hw (zz_good tw_125) rfl rfl rfl (hw _ tw_95) (hw _ tw_126) (by decide +kernel) ⟨Nat.le_of_ble_eq_true rfl, Nat.le_of_ble_eq_true rfl⟩, (hw _ tw_127), (hw _ tw_128)⟩ ⟨zz_blind, va_recv hKc hPc (ci := 8) (q0 := 0) rfl rfl, zz_pre hPc hKc hDc hN⟩ rfl rfl hl.1 rfl (lv_room (Nat.le_of_ble_eq_true rfl)) dX8_custom_77 ⟨Nat.le_of_ble_eq_true rfl, Nat.le_of_ble_eq_true rfl⟩) hS (fun q _ h => hFc q h) hFc (fun u_1 t H1 locs ht hvm e_1 hB hz1 hk1 hS => ?_)
  try dsimp only at e_1
  obtain ⟨hP1, hK1, hD1⟩ := hB
  rw [ht] at hP1
  have hK1 := va_K.moved hvm.symm hK1
  try dsimp only at e_1
  obtain ⟨hP, hD⟩ := va_join (wr := [(b 11, .inl (cZ, 7, .inl (upd (upd (upd (upd (upd (upd (upd (fun _ => (0 : Int32)) (Int32.toNatClampNeg 0) (vp_nar .boolean 0)) (Int32.toNatClampNeg 1) (vp_nar .boolean 0)) (Int32.toNatClampNeg 2) (vp_nar .boolean 0)) (Int32.toNatClampNeg 3) (vp_nar .boolean 0)) (Int32.toNatClampNeg 4) (vp_nar .boolean 0)) (Int32.toNatClampNeg 5) (vp_nar .boolean 0)) (Int32.toNatClampNeg 6) (vp_nar .boolean 0)))), (b 12, .inl (cI, 7, .inl (upd (upd (upd (upd (upd (upd (upd (fun _ => (0 : Int32)) (Int32.toNatClampNeg 0) 1) (Int32.toNatClampNeg 1) 1) (Int32.toNatClampNeg 2) 1) (Int32.toNatClampNeg 3) 400) (Int32.toNatClampNeg 4) 0) (Int32.toNatClampNeg 5) 0) (Int32.toNatClampNeg 6) 0))), (b 13, .inl (cI, 7, .inl fc))]) (w1 := [(b 0, .inr (8, [.ref (b 1), .int 0, .int 0, .int 0, .int 0, .int 0, .int 0, .int (-1), .int (-1), .int (-1), .ref (b 11), .ref (b 12), .ref (b 13), .int 0, .int 0, .ref (b 16), .ref (b 17), .ref (b 18), .ref (b 19), .ref (b 20), .ref (b 21), .ref (b 22), .ref (b 23), .ref (b 24), .int 0, .ref (b 26), .ref (b 27), .ref (b 28), .ref (b 29), .ref (b 30), .ref (b 31), .ref (b 32), .int 0, .int 0, .ref (b 35), .ref (b 36), .ref (b 37), .ref (b 38), .ref (b 39), .ref (b 40), .int 0, .ref (b 42), .ref (b 43), .ref (b 44), .int 0, .ref (b 46), .ref (b 47), .int 0, .ref (b 49)]))]) hP hD [0] [1, 2, 3] rfl rfl (by decide) (by decide) hk1 hFc hP1 hD1
  clear hk1 ht hvm
  generalize H1 = H at hP hS ⊢
  have hP : va_P (dC, dI) vwCl [(b 11, .inl (cZ, 7, .inl (upd (upd (upd (upd (upd (upd (upd (fun _ => (0 : Int32)) (Int32.toNatClampNeg 0) (vp_nar .boolean 0)) (Int32.toNatClampNeg 1) (vp_nar .boolean 0)) (Int32.toNatClampNeg 2) (vp_nar .boolean 0)) (Int32.toNatClampNeg 3) (vp_nar .boolean 0)) (Int32.toNatClampNeg 4) (vp_nar .boolean 0)) (Int32.toNatClampNeg 5) (vp_nar .boolean 0)) (Int32.toNatClampNeg 6) (vp_nar .boolean 0)))), (b 12, .inl (cI, 7, .inl (upd (upd (upd (upd (upd (upd (upd (fun _ => (0 : Int32)) (Int32.toNatClampNeg 0) 1) (Int32.toNatClampNeg 1) 1) (Int32.toNatClampNeg 2) 1) (Int32.toNatClampNeg 3) 400) (Int32.toNatClampNeg 4) 0) (Int32.toNatClampNeg 5) 0) (Int32.toNatClampNeg 6) 0))), (b 13, .inl (cI, 7, .inl fc)), (b 0, .inr (8, [.ref (b 1), .int 0, .int 0, .int 0, .int 0, .int 0, .int 0, .int (-1), .int (-1), .int (-1), .ref (b 11), .ref (b 12), .ref (b 13), .int 0, .int 0, .ref (b 16), .ref (b 17), .ref (b 18), .ref (b 19), .ref (b 20), .ref (b 21), .ref (b 22), .ref (b 23), .ref (b 24), .int 0, .ref (b 26), .ref (b 27), .ref (b 28), .ref (b 29), .ref (b 30), .ref (b 31), .ref (b 32), .int 0, .int 0, .ref (b 35), .ref (b 36), .ref (b 37), .ref (b 38), .ref (b 39), .ref (b 40), .int 0, .ref (b 42), .ref (b 43), .ref (b 44), .int 0, .ref (b 46), .ref (b 47), .int 0, .ref (b 49)]))] H := hP
  have hD : va_D A [(b 11, .inl (cZ, 7, .inl (upd (upd (upd (upd (upd (upd (upd (fun _ => (0 : Int32)) (Int32.toNatClampNeg 0) (vp_nar .boolean 0)) (Int32.toNatClampNeg 1) (vp_nar .boolean 0)) (Int32.toNatClampNeg 2) (vp_nar .boolean 0)) (Int32.toNatClampNeg 3) (vp_nar .boolean 0)) (Int32.toNatClampNeg 4) (vp_nar .boolean 0)) (Int32.toNatClampNeg 5) (vp_nar .boolean 0)) (Int32.toNatClampNeg 6) (vp_nar .boolean 0)))), (b 12, .inl (cI, 7, .inl (upd (upd (upd (upd (upd (upd (upd (fun _ => (0 : Int32)) (Int32.toNatClampNeg 0) 1) (Int32.toNatClampNeg 1) 1) (Int32.toNatClampNeg 2) 1) (Int32.toNatClampNeg 3) 400) (Int32.toNatClampNeg 4) 0) (Int32.toNatClampNeg 5) 0) (Int32.toNatClampNeg 6) 0))), (b 13, .inl (cI, 7, .inl fc)), (b 0, .inr (8, [.ref (b 1), .int 0, .int 0, .int 0, .int 0, .int 0, .int 0, .int (-1), .int (-1), .int (-1), .ref (b 11), .ref (b 12), .ref (b 13), .int 0, .int 0, .ref (b 16), .ref (b 17), .ref (b 18), .ref (b 19), .ref (b 20), .ref (b 21), .ref (b 22), .ref (b 23), .ref (b 24), .int 0, .ref (b 26), .ref (b 27), .ref (b 28), .ref (b 29), .ref (b 30), .ref (b 31), .ref (b 32), .int 0, .int 0, .ref (b 35), .ref (b 36), .ref (b 37), .ref (b 38), .ref (b 39), .ref (b 40), .int 0, .ref (b 42), .ref (b 43), .ref (b 44), .int 0, .ref (b 46), .ref (b 47), .int 0, .ref (b 49)]))] := hD
  refine lv_aload_n hx hb dX8_custom_80 rfl (lv_at hl 3 rfl) ?_
  refine va_get (D := (dC, dI)) (ci := 8) (v := .int 0) (C := RX8) (T := TX8) (N := 49) hx hb hw zz_inX8 hown hK hP 3 rfl rfl 4 (by decide) (hw _ tw_120) (fun _ h9 => h9) rfl dX8_custom_81 ?_
  refine lv_if_eq (tgt := 105) hx hb dX8_custom_84 (by decide) (fun _ => ?_) (fun c_9 => absurd c_9 (by decide))
  refine lv_aload_n hx hb dX8_custom_105 rfl (lv_at hl 3 rfl) ?_
  refine lv_aload_n hx hb dX8_custom_106 rfl (lv_at hl 3 rfl) ?_
  refine va_get (D := (dC, dI)) (ci := 8) (v := .int 0) (C := RX8) (T := TX8) (N := 49) hx hb hw zz_inX8 hown hK hP 3 rfl rfl 6 (by decide) (hw _ tw_121) (fun _ h9 => h9) rfl dX8_custom_107 ?_
  refine va_put (D := (dC, dI)) (ci := 8) (v := .int 0) (ty := .int) (C := RX8) (T := TX8) (N := 49) hx hb hw zz_inX8 tyX8 tyX8_ok nmX8 hown hK hP hD hS 3 rfl rfl 8 (by decide) (hw _ tw_129) (fun _ h9 => h9) rfl (by decide +kernel) rfl rfl (Nat.le_of_ble_eq_true rfl) dX8_custom_110 (fun H locs hP hD hS => ?_)
  have hP : va_P (dC, dI) vwCl [(b 11, .inl (cZ, 7, .inl (upd (upd (upd (upd (upd (upd (upd (fun _ => (0 : Int32)) (Int32.toNatClampNeg 0) (vp_nar .boolean 0)) (Int32.toNatClampNeg 1) (vp_nar .boolean 0)) (Int32.toNatClampNeg 2) (vp_nar .boolean 0)) (Int32.toNatClampNeg 3) (vp_nar .boolean 0)) (Int32.toNatClampNeg 4) (vp_nar .boolean 0)) (Int32.toNatClampNeg 5) (vp_nar .boolean 0)) (Int32.toNatClampNeg 6) (vp_nar .boolean 0)))), (b 12, .inl (cI, 7, .inl (upd (upd (upd (upd (upd (upd (upd (fun _ => (0 : Int32)) (Int32.toNatClampNeg 0) 1) (Int32.toNatClampNeg 1) 1) (Int32.toNatClampNeg 2) 1) (Int32.toNatClampNeg 3) 400) (Int32.toNatClampNeg 4) 0) (Int32.toNatClampNeg 5) 0) (Int32.toNatClampNeg 6) 0))), (b 13, .inl (cI, 7, .inl fc)), (b 0, .inr (8, [.ref (b 1), .int 0, .int 0, .int 0, .int 0, .int 0, .int 0, .int (-1), .int 0, .int (-1), .ref (b 11), .ref (b 12), .ref (b 13), .int 0, .int 0, .ref (b 16), .ref (b 17), .ref (b 18), .ref (b 19), .ref (b 20), .ref (b 21), .ref (b 22), .ref (b 23), .ref (b 24), .int 0, .ref (b 26), .ref (b 27), .ref (b 28), .ref (b 29), .ref (b 30), .ref (b 31), .ref (b 32), .int 0, .int 0, .ref (b 35), .ref (b 36), .ref (b 37), .ref (b 38), .ref (b 39), .ref (b 40), .int 0, .ref (b 42), .ref (b 43), .ref (b 44), .int 0, .ref (b 46), .ref (b 47), .int 0, .ref (b 49)]))] H := hP
  have hD : va_D A [(b 11, .inl (cZ, 7, .inl (upd (upd (upd (upd (upd (upd (upd (fun _ => (0 : Int32)) (Int32.toNatClampNeg 0) (vp_nar .boolean 0)) (Int32.toNatClampNeg 1) (vp_nar .boolean 0)) (Int32.toNatClampNeg 2) (vp_nar .boolean 0)) (Int32.toNatClampNeg 3) (vp_nar .boolean 0)) (Int32.toNatClampNeg 4) (vp_nar .boolean 0)) (Int32.toNatClampNeg 5) (vp_nar .boolean 0)) (Int32.toNatClampNeg 6) (vp_nar .boolean 0)))), (b 12, .inl (cI, 7, .inl (upd (upd (upd (upd (upd (upd (upd (fun _ => (0 : Int32)) (Int32.toNatClampNeg 0) 1) (Int32.toNatClampNeg 1) 1) (Int32.toNatClampNeg 2) 1) (Int32.toNatClampNeg 3) 400) (Int32.toNatClampNeg 4) 0) (Int32.toNatClampNeg 5) 0) (Int32.toNatClampNeg 6) 0))), (b 13, .inl (cI, 7, .inl fc)), (b 0, .inr (8, [.ref (b 1), .int 0, .int 0, .int 0, .int 0, .int 0, .int 0, .int (-1), .int 0, .int (-1), .ref (b 11), .ref (b 12), .ref (b 13), .int 0, .int 0, .ref (b 16), .ref (b 17), .ref (b 18), .ref (b 19), .ref (b 20), .ref (b 21), .ref (b 22), .ref (b 23), .ref (b 24), .int 0, .ref (b 26), .ref (b 27), .ref (b 28), .ref (b 29), .ref (b 30), .ref (b 31), .ref (b 32), .int 0, .int 0, .ref (b 35), .ref (b 36), .ref (b 37), .ref (b 38), .ref (b 39), .ref (b 40), .int 0, .ref (b 42), .ref (b 43), .ref (b 44), .int 0, .ref (b 46), .ref (b 47), .int 0, .ref (b 49)]))] := hD
  refine lv_aload_n hx hb dX8_custom_113 rfl (lv_at hl 3 rfl) ?_
  refine lv_aload_n hx hb dX8_custom_114 rfl (lv_at hl 3 rfl) ?_
  refine va_get (D := (dC, dI)) (ci := 8) (v := .int (-1)) (C := RX8) (T := TX8) (N := 49) hx hb hw zz_inX8 hown hK hP 3 rfl rfl 7 (by decide) (hw _ tw_122) (fun _ h9 => h9) rfl dX8_custom_115 ?_
  refine va_put (D := (dC, dI)) (ci := 8) (v := .int (-1)) (ty := .int) (C := RX8) (T := TX8) (N := 49) hx hb hw zz_inX8 tyX8 tyX8_ok nmX8 hown hK hP hD hS 3 rfl rfl 9 (by decide) (hw _ tw_130) (fun _ h9 => h9) rfl (by decide +kernel) rfl rfl (Nat.le_of_ble_eq_true rfl) dX8_custom_118 (fun H locs hP hD hS => ?_)
  have hP : va_P (dC, dI) vwCl [(b 11, .inl (cZ, 7, .inl (upd (upd (upd (upd (upd (upd (upd (fun _ => (0 : Int32)) (Int32.toNatClampNeg 0) (vp_nar .boolean 0)) (Int32.toNatClampNeg 1) (vp_nar .boolean 0)) (Int32.toNatClampNeg 2) (vp_nar .boolean 0)) (Int32.toNatClampNeg 3) (vp_nar .boolean 0)) (Int32.toNatClampNeg 4) (vp_nar .boolean 0)) (Int32.toNatClampNeg 5) (vp_nar .boolean 0)) (Int32.toNatClampNeg 6) (vp_nar .boolean 0)))), (b 12, .inl (cI, 7, .inl (upd (upd (upd (upd (upd (upd (upd (fun _ => (0 : Int32)) (Int32.toNatClampNeg 0) 1) (Int32.toNatClampNeg 1) 1) (Int32.toNatClampNeg 2) 1) (Int32.toNatClampNeg 3) 400) (Int32.toNatClampNeg 4) 0) (Int32.toNatClampNeg 5) 0) (Int32.toNatClampNeg 6) 0))), (b 13, .inl (cI, 7, .inl fc)), (b 0, .inr (8, [.ref (b 1), .int 0, .int 0, .int 0, .int 0, .int 0, .int 0, .int (-1), .int 0, .int (-1), .ref (b 11), .ref (b 12), .ref (b 13), .int 0, .int 0, .ref (b 16), .ref (b 17), .ref (b 18), .ref (b 19), .ref (b 20), .ref (b 21), .ref (b 22), .ref (b 23), .ref (b 24), .int 0, .ref (b 26), .ref (b 27), .ref (b 28), .ref (b 29), .ref (b 30), .ref (b 31), .ref (b 32), .int 0, .int 0, .ref (b 35), .ref (b 36), .ref (b 37), .ref (b 38), .ref (b 39), .ref (b 40), .int 0, .ref (b 42), .ref (b 43), .ref (b 44), .int 0, .ref (b 46), .ref (b 47), .int 0, .ref (b 49)]))] H := hP
  have hD : va_D A [(b 11, .inl (cZ, 7, .inl (upd (upd (upd (upd (upd (upd (upd (fun _ => (0 : Int32)) (Int32.toNatClampNeg 0) (vp_nar .boolean 0)) (Int32.toNatClampNeg 1) (vp_nar .boolean 0)) (Int32.toNatClampNeg 2) (vp_nar .boolean 0)) (Int32.toNatClampNeg 3) (vp_nar .boolean 0)) (Int32.toNatClampNeg 4) (vp_nar .boolean 0)) (Int32.toNatClampNeg 5) (vp_nar .boolean 0)) (Int32.toNatClampNeg 6) (vp_nar .boolean 0)))), (b 12, .inl (cI, 7, .inl (upd (upd (upd (upd (upd (upd (upd (fun _ => (0 : Int32)) (Int32.toNatClampNeg 0) 1) (Int32.toNatClampNeg 1) 1) (Int32.toNatClampNeg 2) 1) (Int32.toNatClampNeg 3) 400) (Int32.toNatClampNeg 4) 0) (Int32.toNatClampNeg 5) 0) (Int32.toNatClampNeg 6) 0))), (b 13, .inl (cI, 7, .inl fc)), (b 0, .inr (8, [.ref (b 1), .int 0, .int 0, .int 0, .int 0, .int 0, .int 0, .int (-1), .int 0, .int (-1), .ref (b 11), .ref (b 12), .ref (b 13), .int 0, .int 0, .ref (b 16), .ref (b 17), .ref (b 18), .ref (b 19), .ref (b 20), .ref (b 21), .ref (b 22), .ref (b 23), .ref (b 24), .int 0, .ref (b 26), .ref (b 27), .ref (b 28), .ref (b 29), .ref (b 30), .ref (b 31), .ref (b 32), .int 0, .int 0, .ref (b 35), .ref (b 36), .ref (b 37), .ref (b 38), .ref (b 39), .ref (b 40), .int 0, .ref (b 42), .ref (b 43), .ref (b 44), .int 0, .ref (b 46), .ref (b 47), .int 0, .ref (b 49)]))] := hD
  refine lv_aload_n hx hb dX8_custom_121 rfl (lv_at hl 3 rfl) ?_
  refine va_get (D := (dC, dI)) (ci := 8) (v := .int 0) (C := RX8) (T := TX8) (N := 49) hx hb hw zz_inX8 hown hK hP 3 rfl rfl 6 (by decide) (hw _ tw_121) (fun _ h9 => h9) rfl dX8_custom_122 ?_
  refine lv_if_le (tgt := 130) hx hb dX8_custom_125 (by decide) (fun _ => ?_) (fun c_9 => absurd c_9 (by decide))
  refine lv_iconst (v := 0) hx hb dX8_custom_130 (by decide) ?_
  refine lv_istore_n (lv' := [(3, .int 0), (2, .int 0), (1, .int 0), (0, .ref (b 0))]) hx hb dX8_custom_131 rfl hl (by decide) rfl (fun ls hl => ?_)
  refine lv_iload_n hx hb dX8_custom_132 rfl (lv_at hl 0 rfl) ?_
  refine lv_bipush (v := 7) hx hb dX8_custom_133 (by decide) ?_
  refine lv_icmp_ge (tgt := 156) hx hb dX8_custom_135 (by decide) (fun c_9 => absurd c_9 (by decide)) (fun _ => ?_)
  refine lv_aload_n hx hb dX8_custom_138 rfl (lv_at hl 3 rfl) ?_
  refine va_get (D := (dC, dI)) (ci := 8) (v := .ref (b 13)) (C := RX8) (T := TX8) (N := 49) hx hb hw zz_inX8 hown hK hP 3 rfl rfl 12 (by decide) (hw _ tw_131) (fun _ h9 => h9) rfl dX8_custom_139 ?_
  refine lv_iload_n hx hb dX8_custom_142 rfl (lv_at hl 0 rfl) ?_
  refine lv_aload_n hx hb dX8_custom_143 rfl (lv_at hl 3 rfl) ?_
  refine va_get (D := (dC, dI)) (ci := 8) (v := .ref (b 12)) (C := RX8) (T := TX8) (N := 49) hx hb hw zz_inX8 hown hK hP 3 rfl rfl 11 (by decide) (hw _ tw_124) (fun _ h9 => h9) rfl dX8_custom_144 ?_
  refine lv_iload_n hx hb dX8_custom_147 rfl (lv_at hl 0 rfl) ?_
  refine va_iald hx hb hK hP 1 0 rfl rfl (zz_vin (by decide)) dX8_custom_148 ?_
  refine zz_seti 1 (by rfl) ?_
  refine va_iast hx hb hK hP hD hS 2 0 rfl rfl (zz_vin (by decide)) dX8_custom_149 (fun H locs hP hD hS => ?_)
  have hP : va_P (dC, dI) vwCl [(b 11, .inl (cZ, 7, .inl (upd (upd (upd (upd (upd (upd (upd (fun _ => (0 : Int32)) (Int32.toNatClampNeg 0) (vp_nar .boolean 0)) (Int32.toNatClampNeg 1) (vp_nar .boolean 0)) (Int32.toNatClampNeg 2) (vp_nar .boolean 0)) (Int32.toNatClampNeg 3) (vp_nar .boolean 0)) (Int32.toNatClampNeg 4) (vp_nar .boolean 0)) (Int32.toNatClampNeg 5) (vp_nar .boolean 0)) (Int32.toNatClampNeg 6) (vp_nar .boolean 0)))), (b 12, .inl (cI, 7, .inl (upd (upd (upd (upd (upd (upd (upd (fun _ => (0 : Int32)) (Int32.toNatClampNeg 0) 1) (Int32.toNatClampNeg 1) 1) (Int32.toNatClampNeg 2) 1) (Int32.toNatClampNeg 3) 400) (Int32.toNatClampNeg 4) 0) (Int32.toNatClampNeg 5) 0) (Int32.toNatClampNeg 6) 0))), (b 13, .inl (cI, 7, .inl (upd fc (Int32.toNatClampNeg 0) 1))), (b 0, .inr (8, [.ref (b 1), .int 0, .int 0, .int 0, .int 0, .int 0, .int 0, .int (-1), .int 0, .int (-1), .ref (b 11), .ref (b 12), .ref (b 13), .int 0, .int 0, .ref (b 16), .ref (b 17), .ref (b 18), .ref (b 19), .ref (b 20), .ref (b 21), .ref (b 22), .ref (b 23), .ref (b 24), .int 0, .ref (b 26), .ref (b 27), .ref (b 28), .ref (b 29), .ref (b 30), .ref (b 31), .ref (b 32), .int 0, .int 0, .ref (b 35), .ref (b 36), .ref (b 37), .ref (b 38), .ref (b 39), .ref (b 40), .int 0, .ref (b 42), .ref (b 43), .ref (b 44), .int 0, .ref (b 46), .ref (b 47), .int 0, .ref (b 49)]))] H := hP
  have hD : va_D A [(b 11, .inl (cZ, 7, .inl (upd (upd (upd (upd (upd (upd (upd (fun _ => (0 : Int32)) (Int32.toNatClampNeg 0) (vp_nar .boolean 0)) (Int32.toNatClampNeg 1) (vp_nar .boolean 0)) (Int32.toNatClampNeg 2) (vp_nar .boolean 0)) (Int32.toNatClampNeg 3) (vp_nar .boolean 0)) (Int32.toNatClampNeg 4) (vp_nar .boolean 0)) (Int32.toNatClampNeg 5) (vp_nar .boolean 0)) (Int32.toNatClampNeg 6) (vp_nar .boolean 0)))), (b 12, .inl (cI, 7, .inl (upd (upd (upd (upd (upd (upd (upd (fun _ => (0 : Int32)) (Int32.toNatClampNeg 0) 1) (Int32.toNatClampNeg 1) 1) (Int32.toNatClampNeg 2) 1) (Int32.toNatClampNeg 3) 400) (Int32.toNatClampNeg 4) 0) (Int32.toNatClampNeg 5) 0) (Int32.toNatClampNeg 6) 0))), (b 13, .inl (cI, 7, .inl (upd fc (Int32.toNatClampNeg 0) 1))), (b 0, .inr (8, [.ref (b 1), .int 0, .int 0, .int 0, .int 0, .int 0, .int 0, .int (-1), .int 0, .int (-1), .ref (b 11), .ref (b 12), .ref (b 13), .int 0, .int 0, .ref (b 16), .ref (b 17), .ref (b 18), .ref (b 19), .ref (b 20), .ref (b 21), .ref (b 22), .ref (b 23), .ref (b 24), .int 0, .ref (b 26), .ref (b 27), .ref (b 28), .ref (b 29), .ref (b 30), .ref (b 31), .ref (b 32), .int 0, .int 0, .ref (b 35), .ref (b 36), .ref (b 37), .ref (b 38), .ref (b 39), .ref (b 40), .int 0, .ref (b 42), .ref (b 43), .ref (b 44), .int 0, .ref (b 46), .ref (b 47), .int 0, .ref (b 49)]))] := hD
  refine lv_iinc (v := 1) (lv' := [(3, .int 1), (2, .int 0), (1, .int 0), (0, .ref (b 0))]) hx hb dX8_custom_150 hl (k := 0) rfl (by decide) (by decide) rfl (fun ls hl => ?_)
  refine lv_goto (tgt := 132) hx hb dX8_custom_153 (by decide) ?_
  refine lv_iload_n hx hb dX8_custom_132 rfl (lv_at hl 0 rfl) ?_
  refine lv_bipush (v := 7) hx hb dX8_custom_133 (by decide) ?_
  refine lv_icmp_ge (tgt := 156) hx hb dX8_custom_135 (by decide) (fun c_9 => absurd c_9 (by decide)) (fun _ => ?_)
  refine lv_aload_n hx hb dX8_custom_138 rfl (lv_at hl 3 rfl) ?_
  refine va_get (D := (dC, dI)) (ci := 8) (v := .ref (b 13)) (C := RX8) (T := TX8) (N := 49) hx hb hw zz_inX8 hown hK hP 3 rfl rfl 12 (by decide) (hw _ tw_131) (fun _ h9 => h9) rfl dX8_custom_139 ?_
  refine lv_iload_n hx hb dX8_custom_142 rfl (lv_at hl 0 rfl) ?_
  refine lv_aload_n hx hb dX8_custom_143 rfl (lv_at hl 3 rfl) ?_
  refine va_get (D := (dC, dI)) (ci := 8) (v := .ref (b 12)) (C := RX8) (T := TX8) (N := 49) hx hb hw zz_inX8 hown hK hP 3 rfl rfl 11 (by decide) (hw _ tw_124) (fun _ h9 => h9) rfl dX8_custom_144 ?_
  refine lv_iload_n hx hb dX8_custom_147 rfl (lv_at hl 0 rfl) ?_
  refine va_iald hx hb hK hP 1 0 rfl rfl (zz_vin (by decide)) dX8_custom_148 ?_
  refine zz_seti 1 (by rfl) ?_
  refine va_iast hx hb hK hP hD hS 2 0 rfl rfl (zz_vin (by decide)) dX8_custom_149 (fun H locs hP hD hS => ?_)
  have hP : va_P (dC, dI) vwCl [(b 11, .inl (cZ, 7, .inl (upd (upd (upd (upd (upd (upd (upd (fun _ => (0 : Int32)) (Int32.toNatClampNeg 0) (vp_nar .boolean 0)) (Int32.toNatClampNeg 1) (vp_nar .boolean 0)) (Int32.toNatClampNeg 2) (vp_nar .boolean 0)) (Int32.toNatClampNeg 3) (vp_nar .boolean 0)) (Int32.toNatClampNeg 4) (vp_nar .boolean 0)) (Int32.toNatClampNeg 5) (vp_nar .boolean 0)) (Int32.toNatClampNeg 6) (vp_nar .boolean 0)))), (b 12, .inl (cI, 7, .inl (upd (upd (upd (upd (upd (upd (upd (fun _ => (0 : Int32)) (Int32.toNatClampNeg 0) 1) (Int32.toNatClampNeg 1) 1) (Int32.toNatClampNeg 2) 1) (Int32.toNatClampNeg 3) 400) (Int32.toNatClampNeg 4) 0) (Int32.toNatClampNeg 5) 0) (Int32.toNatClampNeg 6) 0))), (b 13, .inl (cI, 7, .inl (upd (upd fc (Int32.toNatClampNeg 0) 1) (Int32.toNatClampNeg 1) 1))), (b 0, .inr (8, [.ref (b 1), .int 0, .int 0, .int 0, .int 0, .int 0, .int 0, .int (-1), .int 0, .int (-1), .ref (b 11), .ref (b 12), .ref (b 13), .int 0, .int 0, .ref (b 16), .ref (b 17), .ref (b 18), .ref (b 19), .ref (b 20), .ref (b 21), .ref (b 22), .ref (b 23), .ref (b 24), .int 0, .ref (b 26), .ref (b 27), .ref (b 28), .ref (b 29), .ref (b 30), .ref (b 31), .ref (b 32), .int 0, .int 0, .ref (b 35), .ref (b 36), .ref (b 37), .ref (b 38), .ref (b 39), .ref (b 40), .int 0, .ref (b 42), .ref (b 43), .ref (b 44), .int 0, .ref (b 46), .ref (b 47), .int 0, .ref (b 49)]))] H := hP
  have hD : va_D A [(b 11, .inl (cZ, 7, .inl (upd (upd (upd (upd (upd (upd (upd (fun _ => (0 : Int32)) (Int32.toNatClampNeg 0) (vp_nar .boolean 0)) (Int32.toNatClampNeg 1) (vp_nar .boolean 0)) (Int32.toNatClampNeg 2) (vp_nar .boolean 0)) (Int32.toNatClampNeg 3) (vp_nar .boolean 0)) (Int32.toNatClampNeg 4) (vp_nar .boolean 0)) (Int32.toNatClampNeg 5) (vp_nar .boolean 0)) (Int32.toNatClampNeg 6) (vp_nar .boolean 0)))), (b 12, .inl (cI, 7, .inl (upd (upd (upd (upd (upd (upd (upd (fun _ => (0 : Int32)) (Int32.toNatClampNeg 0) 1) (Int32.toNatClampNeg 1) 1) (Int32.toNatClampNeg 2) 1) (Int32.toNatClampNeg 3) 400) (Int32.toNatClampNeg 4) 0) (Int32.toNatClampNeg 5) 0) (Int32.toNatClampNeg 6) 0))), (b 13, .inl (cI, 7, .inl (upd (upd fc (Int32.toNatClampNeg 0) 1) (Int32.toNatClampNeg 1) 1))), (b 0, .inr (8, [.ref (b 1), .int 0, .int 0, .int 0, .int 0, .int 0, .int 0, .int (-1), .int 0, .int (-1), .ref (b 11), .ref (b 12), .ref (b 13), .int 0, .int 0, .ref (b 16), .ref (b 17), .ref (b 18), .ref (b 19), .ref (b 20), .ref (b 21), .ref (b 22), .ref (b 23), .ref (b 24), .int 0, .ref (b 26), .ref (b 27), .ref (b 28), .ref (b 29), .ref (b 30), .ref (b 31), .ref (b 32), .int 0, .int 0, .ref (b 35), .ref (b 36), .ref (b 37), .ref (b 38), .ref (b 39), .ref (b 40), .int 0, .ref (b 42), .ref (b 43), .ref (b 44), .int 0, .ref (b 46), .ref (b 47), .int 0, .ref (b 49)]))] := hD
  refine lv_iinc (v := 2) (lv' := [(3, .int 2), (2, .int 0), (1, .int 0), (0, .ref (b 0))]) hx hb dX8_custom_150 hl (k := 0) rfl (by decide) (by decide) rfl (fun ls hl => ?_)
  refine lv_goto (tgt := 132) hx hb dX8_custom_153 (by decide) ?_
  refine lv_iload_n hx hb dX8_custom_132 rfl (lv_at hl 0 rfl) ?_
  refine lv_bipush (v := 7) hx hb dX8_custom_133 (by decide) ?_
  refine lv_icmp_ge (tgt := 156) hx hb dX8_custom_135 (by decide) (fun c_9 => absurd c_9 (by decide)) (fun _ => ?_)
  refine lv_aload_n hx hb dX8_custom_138 rfl (lv_at hl 3 rfl) ?_
  refine va_get (D := (dC, dI)) (ci := 8) (v := .ref (b 13)) (C := RX8) (T := TX8) (N := 49) hx hb hw zz_inX8 hown hK hP 3 rfl rfl 12 (by decide) (hw _ tw_131) (fun _ h9 => h9) rfl dX8_custom_139 ?_
  refine lv_iload_n hx hb dX8_custom_142 rfl (lv_at hl 0 rfl) ?_
  refine lv_aload_n hx hb dX8_custom_143 rfl (lv_at hl 3 rfl) ?_
  refine va_get (D := (dC, dI)) (ci := 8) (v := .ref (b 12)) (C := RX8) (T := TX8) (N := 49) hx hb hw zz_inX8 hown hK hP 3 rfl rfl 11 (by decide) (hw _ tw_124) (fun _ h9 => h9) rfl dX8_custom_144 ?_
  refine lv_iload_n hx hb dX8_custom_147 rfl (lv_at hl 0 rfl) ?_
  refine va_iald hx hb hK hP 1 0 rfl rfl (zz_vin (by decide)) dX8_custom_148 ?_
  refine zz_seti 1 (by rfl) ?_
  refine va_iast hx hb hK hP hD hS 2 0 rfl rfl (zz_vin (by decide)) dX8_custom_149 (fun H locs hP hD hS => ?_)
  have hP : va_P (dC, dI) vwCl [(b 11, .inl (cZ, 7, .inl (upd (upd (upd (upd (upd (upd (upd (fun _ => (0 : Int32)) (Int32.toNatClampNeg 0) (vp_nar .boolean 0)) (Int32.toNatClampNeg 1) (vp_nar .boolean 0)) (Int32.toNatClampNeg 2) (vp_nar .boolean 0)) (Int32.toNatClampNeg 3) (vp_nar .boolean 0)) (Int32.toNatClampNeg 4) (vp_nar .boolean 0)) (Int32.toNatClampNeg 5) (vp_nar .boolean 0)) (Int32.toNatClampNeg 6) (vp_nar .boolean 0)))), (b 12, .inl (cI, 7, .inl (upd (upd (upd (upd (upd (upd (upd (fun _ => (0 : Int32)) (Int32.toNatClampNeg 0) 1) (Int32.toNatClampNeg 1) 1) (Int32.toNatClampNeg 2) 1) (Int32.toNatClampNeg 3) 400) (Int32.toNatClampNeg 4) 0) (Int32.toNatClampNeg 5) 0) (Int32.toNatClampNeg 6) 0))), (b 13, .inl (cI, 7, .inl (upd (upd (upd fc (Int32.toNatClampNeg 0) 1) (Int32.toNatClampNeg 1) 1) (Int32.toNatClampNeg 2) 1))), (b 0, .inr (8, [.ref (b 1), .int 0, .int 0, .int 0, .int 0, .int 0, .int 0, .int (-1), .int 0, .int (-1), .ref (b 11), .ref (b 12), .ref (b 13), .int 0, .int 0, .ref (b 16), .ref (b 17), .ref (b 18), .ref (b 19), .ref (b 20), .ref (b 21), .ref (b 22), .ref (b 23), .ref (b 24), .int 0, .ref (b 26), .ref (b 27), .ref (b 28), .ref (b 29), .ref (b 30), .ref (b 31), .ref (b 32), .int 0, .int 0, .ref (b 35), .ref (b 36), .ref (b 37), .ref (b 38), .ref (b 39), .ref (b 40), .int 0, .ref (b 42), .ref (b 43), .ref (b 44), .int 0, .ref (b 46), .ref (b 47), .int 0, .ref (b 49)]))] H := hP
  have hD : va_D A [(b 11, .inl (cZ, 7, .inl (upd (upd (upd (upd (upd (upd (upd (fun _ => (0 : Int32)) (Int32.toNatClampNeg 0) (vp_nar .boolean 0)) (Int32.toNatClampNeg 1) (vp_nar .boolean 0)) (Int32.toNatClampNeg 2) (vp_nar .boolean 0)) (Int32.toNatClampNeg 3) (vp_nar .boolean 0)) (Int32.toNatClampNeg 4) (vp_nar .boolean 0)) (Int32.toNatClampNeg 5) (vp_nar .boolean 0)) (Int32.toNatClampNeg 6) (vp_nar .boolean 0)))), (b 12, .inl (cI, 7, .inl (upd (upd (upd (upd (upd (upd (upd (fun _ => (0 : Int32)) (Int32.toNatClampNeg 0) 1) (Int32.toNatClampNeg 1) 1) (Int32.toNatClampNeg 2) 1) (Int32.toNatClampNeg 3) 400) (Int32.toNatClampNeg 4) 0) (Int32.toNatClampNeg 5) 0) (Int32.toNatClampNeg 6) 0))), (b 13, .inl (cI, 7, .inl (upd (upd (upd fc (Int32.toNatClampNeg 0) 1) (Int32.toNatClampNeg 1) 1) (Int32.toNatClampNeg 2) 1))), (b 0, .inr (8, [.ref (b 1), .int 0, .int 0, .int 0, .int 0, .int 0, .int 0, .int (-1), .int 0, .int (-1), .ref (b 11), .ref (b 12), .ref (b 13), .int 0, .int 0, .ref (b 16), .ref (b 17), .ref (b 18), .ref (b 19), .ref (b 20), .ref (b 21), .ref (b 22), .ref (b 23), .ref (b 24), .int 0, .ref (b 26), .ref (b 27), .ref (b 28), .ref (b 29), .ref (b 30), .ref (b 31), .ref (b 32), .int 0, .int 0, .ref (b 35), .ref (b 36), .ref (b 37), .ref (b 38), .ref (b 39), .ref (b 40), .int 0, .ref (b 42), .ref (b 43), .ref (b 44), .int 0, .ref (b 46), .ref (b 47), .int 0, .ref (b 49)]))] := hD
  refine lv_iinc (v := 3) (lv' := [(3, .int 3), (2, .int 0), (1, .int 0), (0, .ref (b 0))]) hx hb dX8_custom_150 hl (k := 0) rfl (by decide) (by decide) rfl (fun ls hl => ?_)
  refine lv_goto (tgt := 132) hx hb dX8_custom_153 (by decide) ?_
  refine lv_iload_n hx hb dX8_custom_132 rfl (lv_at hl 0 rfl) ?_
  refine lv_bipush (v := 7) hx hb dX8_custom_133 (by decide) ?_
  refine lv_icmp_ge (tgt := 156) hx hb dX8_custom_135 (by decide) (fun c_9 => absurd c_9 (by decide)) (fun _ => ?_)
  refine lv_aload_n hx hb dX8_custom_138 rfl (lv_at hl 3 rfl) ?_
  refine va_get (D := (dC, dI)) (ci := 8) (v := .ref (b 13)) (C := RX8) (T := TX8) (N := 49) hx hb hw zz_inX8 hown hK hP 3 rfl rfl 12 (by decide) (hw _ tw_131) (fun _ h9 => h9) rfl dX8_custom_139 ?_
  refine lv_iload_n hx hb dX8_custom_142 rfl (lv_at hl 0 rfl) ?_
  refine lv_aload_n hx hb dX8_custom_143 rfl (lv_at hl 3 rfl) ?_
  refine va_get (D := (dC, dI)) (ci := 8) (v := .ref (b 12)) (C := RX8) (T := TX8) (N := 49) hx hb hw zz_inX8 hown hK hP 3 rfl rfl 11 (by decide) (hw _ tw_124) (fun _ h9 => h9) rfl dX8_custom_144 ?_
  refine lv_iload_n hx hb dX8_custom_147 rfl (lv_at hl 0 rfl) ?_
  refine va_iald hx hb hK hP 1 0 rfl rfl (zz_vin (by decide)) dX8_custom_148 ?_
  refine zz_seti 400 (by rfl) ?_
  refine va_iast hx hb hK hP hD hS 2 0 rfl rfl (zz_vin (by decide)) dX8_custom_149 (fun H locs hP hD hS => ?_)
  have hP : va_P (dC, dI) vwCl [(b 11, .inl (cZ, 7, .inl (upd (upd (upd (upd (upd (upd (upd (fun _ => (0 : Int32)) (Int32.toNatClampNeg 0) (vp_nar .boolean 0)) (Int32.toNatClampNeg 1) (vp_nar .boolean 0)) (Int32.toNatClampNeg 2) (vp_nar .boolean 0)) (Int32.toNatClampNeg 3) (vp_nar .boolean 0)) (Int32.toNatClampNeg 4) (vp_nar .boolean 0)) (Int32.toNatClampNeg 5) (vp_nar .boolean 0)) (Int32.toNatClampNeg 6) (vp_nar .boolean 0)))), (b 12, .inl (cI, 7, .inl (upd (upd (upd (upd (upd (upd (upd (fun _ => (0 : Int32)) (Int32.toNatClampNeg 0) 1) (Int32.toNatClampNeg 1) 1) (Int32.toNatClampNeg 2) 1) (Int32.toNatClampNeg 3) 400) (Int32.toNatClampNeg 4) 0) (Int32.toNatClampNeg 5) 0) (Int32.toNatClampNeg 6) 0))), (b 13, .inl (cI, 7, .inl (upd (upd (upd (upd fc (Int32.toNatClampNeg 0) 1) (Int32.toNatClampNeg 1) 1) (Int32.toNatClampNeg 2) 1) (Int32.toNatClampNeg 3) 400))), (b 0, .inr (8, [.ref (b 1), .int 0, .int 0, .int 0, .int 0, .int 0, .int 0, .int (-1), .int 0, .int (-1), .ref (b 11), .ref (b 12), .ref (b 13), .int 0, .int 0, .ref (b 16), .ref (b 17), .ref (b 18), .ref (b 19), .ref (b 20), .ref (b 21), .ref (b 22), .ref (b 23), .ref (b 24), .int 0, .ref (b 26), .ref (b 27), .ref (b 28), .ref (b 29), .ref (b 30), .ref (b 31), .ref (b 32), .int 0, .int 0, .ref (b 35), .ref (b 36), .ref (b 37), .ref (b 38), .ref (b 39), .ref (b 40), .int 0, .ref (b 42), .ref (b 43), .ref (b 44), .int 0, .ref (b 46), .ref (b 47), .int 0, .ref (b 49)]))] H := hP
  have hD : va_D A [(b 11, .inl (cZ, 7, .inl (upd (upd (upd (upd (upd (upd (upd (fun _ => (0 : Int32)) (Int32.toNatClampNeg 0) (vp_nar .boolean 0)) (Int32.toNatClampNeg 1) (vp_nar .boolean 0)) (Int32.toNatClampNeg 2) (vp_nar .boolean 0)) (Int32.toNatClampNeg 3) (vp_nar .boolean 0)) (Int32.toNatClampNeg 4) (vp_nar .boolean 0)) (Int32.toNatClampNeg 5) (vp_nar .boolean 0)) (Int32.toNatClampNeg 6) (vp_nar .boolean 0)))), (b 12, .inl (cI, 7, .inl (upd (upd (upd (upd (upd (upd (upd (fun _ => (0 : Int32)) (Int32.toNatClampNeg 0) 1) (Int32.toNatClampNeg 1) 1) (Int32.toNatClampNeg 2) 1) (Int32.toNatClampNeg 3) 400) (Int32.toNatClampNeg 4) 0) (Int32.toNatClampNeg 5) 0) (Int32.toNatClampNeg 6) 0))), (b 13, .inl (cI, 7, .inl (upd (upd (upd (upd fc (Int32.toNatClampNeg 0) 1) (Int32.toNatClampNeg 1) 1) (Int32.toNatClampNeg 2) 1) (Int32.toNatClampNeg 3) 400))), (b 0, .inr (8, [.ref (b 1), .int 0, .int 0, .int 0, .int 0, .int 0, .int 0, .int (-1), .int 0, .int (-1), .ref (b 11), .ref (b 12), .ref (b 13), .int 0, .int 0, .ref (b 16), .ref (b 17), .ref (b 18), .ref (b 19), .ref (b 20), .ref (b 21), .ref (b 22), .ref (b 23), .ref (b 24), .int 0, .ref (b 26), .ref (b 27), .ref (b 28), .ref (b 29), .ref (b 30), .ref (b 31), .ref (b 32), .int 0, .int 0, .ref (b 35), .ref (b 36), .ref (b 37), .ref (b 38), .ref (b 39), .ref (b 40), .int 0, .ref (b 42), .ref (b 43), .ref (b 44), .int 0, .ref (b 46), .ref (b 47), .int 0, .ref (b 49)]))] := hD
  refine lv_iinc (v := 4) (lv' := [(3, .int 4), (2, .int 0), (1, .int 0), (0, .ref (b 0))]) hx hb dX8_custom_150 hl (k := 0) rfl (by decide) (by decide) rfl (fun ls hl => ?_)
  refine lv_goto (tgt := 132) hx hb dX8_custom_153 (by decide) ?_
  refine lv_iload_n hx hb dX8_custom_132 rfl (lv_at hl 0 rfl) ?_
  refine lv_bipush (v := 7) hx hb dX8_custom_133 (by decide) ?_
  refine lv_icmp_ge (tgt := 156) hx hb dX8_custom_135 (by decide) (fun c_9 => absurd c_9 (by decide)) (fun _ => ?_)
  refine lv_aload_n hx hb dX8_custom_138 rfl (lv_at hl 3 rfl) ?_
  refine va_get (D := (dC, dI)) (ci := 8) (v := .ref (b 13)) (C := RX8) (T := TX8) (N := 49) hx hb hw zz_inX8 hown hK hP 3 rfl rfl 12 (by decide) (hw _ tw_131) (fun _ h9 => h9) rfl dX8_custom_139 ?_
  refine lv_iload_n hx hb dX8_custom_142 rfl (lv_at hl 0 rfl) ?_
  refine lv_aload_n hx hb dX8_custom_143 rfl (lv_at hl 3 rfl) ?_
  refine va_get (D := (dC, dI)) (ci := 8) (v := .ref (b 12)) (C := RX8) (T := TX8) (N := 49) hx hb hw zz_inX8 hown hK hP 3 rfl rfl 11 (by decide) (hw _ tw_124) (fun _ h9 => h9) rfl dX8_custom_144 ?_
  refine lv_iload_n hx hb dX8_custom_147 rfl (lv_at hl 0 rfl) ?_
  refine va_iald hx hb hK hP 1 0 rfl rfl (zz_vin (by decide)) dX8_custom_148 ?_
  refine zz_seti 0 (by rfl) ?_
  refine va_iast hx hb hK hP hD hS 2 0 rfl rfl (zz_vin (by decide)) dX8_custom_149 (fun H locs hP hD hS => ?_)
  have hP : va_P (dC, dI) vwCl [(b 11, .inl (cZ, 7, .inl (upd (upd (upd (upd (upd (upd (upd (fun _ => (0 : Int32)) (Int32.toNatClampNeg 0) (vp_nar .boolean 0)) (Int32.toNatClampNeg 1) (vp_nar .boolean 0)) (Int32.toNatClampNeg 2) (vp_nar .boolean 0)) (Int32.toNatClampNeg 3) (vp_nar .boolean 0)) (Int32.toNatClampNeg 4) (vp_nar .boolean 0)) (Int32.toNatClampNeg 5) (vp_nar .boolean 0)) (Int32.toNatClampNeg 6) (vp_nar .boolean 0)))), (b 12, .inl (cI, 7, .inl (upd (upd (upd (upd (upd (upd (upd (fun _ => (0 : Int32)) (Int32.toNatClampNeg 0) 1) (Int32.toNatClampNeg 1) 1) (Int32.toNatClampNeg 2) 1) (Int32.toNatClampNeg 3) 400) (Int32.toNatClampNeg 4) 0) (Int32.toNatClampNeg 5) 0) (Int32.toNatClampNeg 6) 0))), (b 13, .inl (cI, 7, .inl (upd (upd (upd (upd (upd fc (Int32.toNatClampNeg 0) 1) (Int32.toNatClampNeg 1) 1) (Int32.toNatClampNeg 2) 1) (Int32.toNatClampNeg 3) 400) (Int32.toNatClampNeg 4) 0))), (b 0, .inr (8, [.ref (b 1), .int 0, .int 0, .int 0, .int 0, .int 0, .int 0, .int (-1), .int 0, .int (-1), .ref (b 11), .ref (b 12), .ref (b 13), .int 0, .int 0, .ref (b 16), .ref (b 17), .ref (b 18), .ref (b 19), .ref (b 20), .ref (b 21), .ref (b 22), .ref (b 23), .ref (b 24), .int 0, .ref (b 26), .ref (b 27), .ref (b 28), .ref (b 29), .ref (b 30), .ref (b 31), .ref (b 32), .int 0, .int 0, .ref (b 35), .ref (b 36), .ref (b 37), .ref (b 38), .ref (b 39), .ref (b 40), .int 0, .ref (b 42), .ref (b 43), .ref (b 44), .int 0, .ref (b 46), .ref (b 47), .int 0, .ref (b 49)]))] H := hP
  have hD : va_D A [(b 11, .inl (cZ, 7, .inl (upd (upd (upd (upd (upd (upd (upd (fun _ => (0 : Int32)) (Int32.toNatClampNeg 0) (vp_nar .boolean 0)) (Int32.toNatClampNeg 1) (vp_nar .boolean 0)) (Int32.toNatClampNeg 2) (vp_nar .boolean 0)) (Int32.toNatClampNeg 3) (vp_nar .boolean 0)) (Int32.toNatClampNeg 4) (vp_nar .boolean 0)) (Int32.toNatClampNeg 5) (vp_nar .boolean 0)) (Int32.toNatClampNeg 6) (vp_nar .boolean 0)))), (b 12, .inl (cI, 7, .inl (upd (upd (upd (upd (upd (upd (upd (fun _ => (0 : Int32)) (Int32.toNatClampNeg 0) 1) (Int32.toNatClampNeg 1) 1) (Int32.toNatClampNeg 2) 1) (Int32.toNatClampNeg 3) 400) (Int32.toNatClampNeg 4) 0) (Int32.toNatClampNeg 5) 0) (Int32.toNatClampNeg 6) 0))), (b 13, .inl (cI, 7, .inl (upd (upd (upd (upd (upd fc (Int32.toNatClampNeg 0) 1) (Int32.toNatClampNeg 1) 1) (Int32.toNatClampNeg 2) 1) (Int32.toNatClampNeg 3) 400) (Int32.toNatClampNeg 4) 0))), (b 0, .inr (8, [.ref (b 1), .int 0, .int 0, .int 0, .int 0, .int 0, .int 0, .int (-1), .int 0, .int (-1), .ref (b 11), .ref (b 12), .ref (b 13), .int 0, .int 0, .ref (b 16), .ref (b 17), .ref (b 18), .ref (b 19), .ref (b 20), .ref (b 21), .ref (b 22), .ref (b 23), .ref (b 24), .int 0, .ref (b 26), .ref (b 27), .ref (b 28), .ref (b 29), .ref (b 30), .ref (b 31), .ref (b 32), .int 0, .int 0, .ref (b 35), .ref (b 36), .ref (b 37), .ref (b 38), .ref (b 39), .ref (b 40), .int 0, .ref (b 42), .ref (b 43), .ref (b 44), .int 0, .ref (b 46), .ref (b 47), .int 0, .ref (b 49)]))] := hD
  refine lv_iinc (v := 5) (lv' := [(3, .int 5), (2, .int 0), (1, .int 0), (0, .ref (b 0))]) hx hb dX8_custom_150 hl (k := 0) rfl (by decide) (by decide) rfl (fun ls hl => ?_)
  refine lv_goto (tgt := 132) hx hb dX8_custom_153 (by decide) ?_
  refine lv_iload_n hx hb dX8_custom_132 rfl (lv_at hl 0 rfl) ?_
  refine lv_bipush (v := 7) hx hb dX8_custom_133 (by decide) ?_
  refine lv_icmp_ge (tgt := 156) hx hb dX8_custom_135 (by decide) (fun c_9 => absurd c_9 (by decide)) (fun _ => ?_)
  refine lv_aload_n hx hb dX8_custom_138 rfl (lv_at hl 3 rfl) ?_
  refine va_get (D := (dC, dI)) (ci := 8) (v := .ref (b 13)) (C := RX8) (T := TX8) (N := 49) hx hb hw zz_inX8 hown hK hP 3 rfl rfl 12 (by decide) (hw _ tw_131) (fun _ h9 => h9) rfl dX8_custom_139 ?_
  refine lv_iload_n hx hb dX8_custom_142 rfl (lv_at hl 0 rfl) ?_
  refine lv_aload_n hx hb dX8_custom_143 rfl (lv_at hl 3 rfl) ?_
  refine va_get (D := (dC, dI)) (ci := 8) (v := .ref (b 12)) (C := RX8) (T := TX8) (N := 49) hx hb hw zz_inX8 hown hK hP 3 rfl rfl 11 (by decide) (hw _ tw_124) (fun _ h9 => h9) rfl dX8_custom_144 ?_
  refine lv_iload_n hx hb dX8_custom_147 rfl (lv_at hl 0 rfl) ?_
  refine va_iald hx hb hK hP 1 0 rfl rfl (zz_vin (by decide)) dX8_custom_148 ?_
  refine zz_seti 0 (by rfl) ?_
  refine va_iast hx hb hK hP hD hS 2 0 rfl rfl (zz_vin (by decide)) dX8_custom_149 (fun H locs hP hD hS => ?_)
  have hP : va_P (dC, dI) vwCl [(b 11, .inl (cZ, 7, .inl (upd (upd (upd (upd (upd (upd (upd (fun _ => (0 : Int32)) (Int32.toNatClampNeg 0) (vp_nar .boolean 0)) (Int32.toNatClampNeg 1) (vp_nar .boolean 0)) (Int32.toNatClampNeg 2) (vp_nar .boolean 0)) (Int32.toNatClampNeg 3) (vp_nar .boolean 0)) (Int32.toNatClampNeg 4) (vp_nar .boolean 0)) (Int32.toNatClampNeg 5) (vp_nar .boolean 0)) (Int32.toNatClampNeg 6) (vp_nar .boolean 0)))), (b 12, .inl (cI, 7, .inl (upd (upd (upd (upd (upd (upd (upd (fun _ => (0 : Int32)) (Int32.toNatClampNeg 0) 1) (Int32.toNatClampNeg 1) 1) (Int32.toNatClampNeg 2) 1) (Int32.toNatClampNeg 3) 400) (Int32.toNatClampNeg 4) 0) (Int32.toNatClampNeg 5) 0) (Int32.toNatClampNeg 6) 0))), (b 13, .inl (cI, 7, .inl (upd (upd (upd (upd (upd (upd fc (Int32.toNatClampNeg 0) 1) (Int32.toNatClampNeg 1) 1) (Int32.toNatClampNeg 2) 1) (Int32.toNatClampNeg 3) 400) (Int32.toNatClampNeg 4) 0) (Int32.toNatClampNeg 5) 0))), (b 0, .inr (8, [.ref (b 1), .int 0, .int 0, .int 0, .int 0, .int 0, .int 0, .int (-1), .int 0, .int (-1), .ref (b 11), .ref (b 12), .ref (b 13), .int 0, .int 0, .ref (b 16), .ref (b 17), .ref (b 18), .ref (b 19), .ref (b 20), .ref (b 21), .ref (b 22), .ref (b 23), .ref (b 24), .int 0, .ref (b 26), .ref (b 27), .ref (b 28), .ref (b 29), .ref (b 30), .ref (b 31), .ref (b 32), .int 0, .int 0, .ref (b 35), .ref (b 36), .ref (b 37), .ref (b 38), .ref (b 39), .ref (b 40), .int 0, .ref (b 42), .ref (b 43), .ref (b 44), .int 0, .ref (b 46), .ref (b 47), .int 0, .ref (b 49)]))] H := hP
  have hD : va_D A [(b 11, .inl (cZ, 7, .inl (upd (upd (upd (upd (upd (upd (upd (fun _ => (0 : Int32)) (Int32.toNatClampNeg 0) (vp_nar .boolean 0)) (Int32.toNatClampNeg 1) (vp_nar .boolean 0)) (Int32.toNatClampNeg 2) (vp_nar .boolean 0)) (Int32.toNatClampNeg 3) (vp_nar .boolean 0)) (Int32.toNatClampNeg 4) (vp_nar .boolean 0)) (Int32.toNatClampNeg 5) (vp_nar .boolean 0)) (Int32.toNatClampNeg 6) (vp_nar .boolean 0)))), (b 12, .inl (cI, 7, .inl (upd (upd (upd (upd (upd (upd (upd (fun _ => (0 : Int32)) (Int32.toNatClampNeg 0) 1) (Int32.toNatClampNeg 1) 1) (Int32.toNatClampNeg 2) 1) (Int32.toNatClampNeg 3) 400) (Int32.toNatClampNeg 4) 0) (Int32.toNatClampNeg 5) 0) (Int32.toNatClampNeg 6) 0))), (b 13, .inl (cI, 7, .inl (upd (upd (upd (upd (upd (upd fc (Int32.toNatClampNeg 0) 1) (Int32.toNatClampNeg 1) 1) (Int32.toNatClampNeg 2) 1) (Int32.toNatClampNeg 3) 400) (Int32.toNatClampNeg 4) 0) (Int32.toNatClampNeg 5) 0))), (b 0, .inr (8, [.ref (b 1), .int 0, .int 0, .int 0, .int 0, .int 0, .int 0, .int (-1), .int 0, .int (-1), .ref (b 11), .ref (b 12), .ref (b 13), .int 0, .int 0, .ref (b 16), .ref (b 17), .ref (b 18), .ref (b 19), .ref (b 20), .ref (b 21), .ref (b 22), .ref (b 23), .ref (b 24), .int 0, .ref (b 26), .ref (b 27), .ref (b 28), .ref (b 29), .ref (b 30), .ref (b 31), .ref (b 32), .int 0, .int 0, .ref (b 35), .ref (b 36), .ref (b 37), .ref (b 38), .ref (b 39), .ref (b 40), .int 0, .ref (b 42), .ref (b 43), .ref (b 44), .int 0, .ref (b 46), .ref (b 47), .int 0, .ref (b 49)]))] := hD
  refine lv_iinc (v := 6) (lv' := [(3, .int 6), (2, .int 0), (1, .int 0), (0, .ref (b 0))]) hx hb dX8_custom_150 hl (k := 0) rfl (by decide) (by decide) rfl (fun ls hl => ?_)
  refine lv_goto (tgt := 132) hx hb dX8_custom_153 (by decide) ?_
  refine lv_iload_n hx hb dX8_custom_132 rfl (lv_at hl 0 rfl) ?_
  refine lv_bipush (v := 7) hx hb dX8_custom_133 (by decide) ?_
  refine lv_icmp_ge (tgt := 156) hx hb dX8_custom_135 (by decide) (fun c_9 => absurd c_9 (by decide)) (fun _ => ?_)
  refine lv_aload_n hx hb dX8_custom_138 rfl (lv_at hl 3 rfl) ?_
  refine va_get (D := (dC, dI)) (ci := 8) (v := .ref (b 13)) (C := RX8) (T := TX8) (N := 49) hx hb hw zz_inX8 hown hK hP 3 rfl rfl 12 (by decide) (hw _ tw_131) (fun _ h9 => h9) rfl dX8_custom_139 ?_
  refine lv_iload_n hx hb dX8_custom_142 rfl (lv_at hl 0 rfl) ?_
  refine lv_aload_n hx hb dX8_custom_143 rfl (lv_at hl 3 rfl) ?_
  refine va_get (D := (dC, dI)) (ci := 8) (v := .ref (b 12)) (C := RX8) (T := TX8) (N := 49) hx hb hw zz_inX8 hown hK hP 3 rfl rfl 11 (by decide) (hw _ tw_124) (fun _ h9 => h9) rfl dX8_custom_144 ?_
  refine lv_iload_n hx hb dX8_custom_147 rfl (lv_at hl 0 rfl) ?_
  refine va_iald hx hb hK hP 1 0 rfl rfl (zz_vin (by decide)) dX8_custom_148 ?_
  refine zz_seti 0 (by rfl) ?_
  refine va_iast hx hb hK hP hD hS 2 0 rfl rfl (zz_vin (by decide)) dX8_custom_149 (fun H locs hP hD hS => ?_)
  have hP : va_P (dC, dI) vwCl [(b 11, .inl (cZ, 7, .inl (upd (upd (upd (upd (upd (upd (upd (fun _ => (0 : Int32)) (Int32.toNatClampNeg 0) (vp_nar .boolean 0)) (Int32.toNatClampNeg 1) (vp_nar .boolean 0)) (Int32.toNatClampNeg 2) (vp_nar .boolean 0)) (Int32.toNatClampNeg 3) (vp_nar .boolean 0)) (Int32.toNatClampNeg 4) (vp_nar .boolean 0)) (Int32.toNatClampNeg 5) (vp_nar .boolean 0)) (Int32.toNatClampNeg 6) (vp_nar .boolean 0)))), (b 12, .inl (cI, 7, .inl (upd (upd (upd (upd (upd (upd (upd (fun _ => (0 : Int32)) (Int32.toNatClampNeg 0) 1) (Int32.toNatClampNeg 1) 1) (Int32.toNatClampNeg 2) 1) (Int32.toNatClampNeg 3) 400) (Int32.toNatClampNeg 4) 0) (Int32.toNatClampNeg 5) 0) (Int32.toNatClampNeg 6) 0))), (b 13, .inl (cI, 7, .inl (upd (upd (upd (upd (upd (upd (upd fc (Int32.toNatClampNeg 0) 1) (Int32.toNatClampNeg 1) 1) (Int32.toNatClampNeg 2) 1) (Int32.toNatClampNeg 3) 400) (Int32.toNatClampNeg 4) 0) (Int32.toNatClampNeg 5) 0) (Int32.toNatClampNeg 6) 0))), (b 0, .inr (8, [.ref (b 1), .int 0, .int 0, .int 0, .int 0, .int 0, .int 0, .int (-1), .int 0, .int (-1), .ref (b 11), .ref (b 12), .ref (b 13), .int 0, .int 0, .ref (b 16), .ref (b 17), .ref (b 18), .ref (b 19), .ref (b 20), .ref (b 21), .ref (b 22), .ref (b 23), .ref (b 24), .int 0, .ref (b 26), .ref (b 27), .ref (b 28), .ref (b 29), .ref (b 30), .ref (b 31), .ref (b 32), .int 0, .int 0, .ref (b 35), .ref (b 36), .ref (b 37), .ref (b 38), .ref (b 39), .ref (b 40), .int 0, .ref (b 42), .ref (b 43), .ref (b 44), .int 0, .ref (b 46), .ref (b 47), .int 0, .ref (b 49)]))] H := hP
  have hD : va_D A [(b 11, .inl (cZ, 7, .inl (upd (upd (upd (upd (upd (upd (upd (fun _ => (0 : Int32)) (Int32.toNatClampNeg 0) (vp_nar .boolean 0)) (Int32.toNatClampNeg 1) (vp_nar .boolean 0)) (Int32.toNatClampNeg 2) (vp_nar .boolean 0)) (Int32.toNatClampNeg 3) (vp_nar .boolean 0)) (Int32.toNatClampNeg 4) (vp_nar .boolean 0)) (Int32.toNatClampNeg 5) (vp_nar .boolean 0)) (Int32.toNatClampNeg 6) (vp_nar .boolean 0)))), (b 12, .inl (cI, 7, .inl (upd (upd (upd (upd (upd (upd (upd (fun _ => (0 : Int32)) (Int32.toNatClampNeg 0) 1) (Int32.toNatClampNeg 1) 1) (Int32.toNatClampNeg 2) 1) (Int32.toNatClampNeg 3) 400) (Int32.toNatClampNeg 4) 0) (Int32.toNatClampNeg 5) 0) (Int32.toNatClampNeg 6) 0))), (b 13, .inl (cI, 7, .inl (upd (upd (upd (upd (upd (upd (upd fc (Int32.toNatClampNeg 0) 1) (Int32.toNatClampNeg 1) 1) (Int32.toNatClampNeg 2) 1) (Int32.toNatClampNeg 3) 400) (Int32.toNatClampNeg 4) 0) (Int32.toNatClampNeg 5) 0) (Int32.toNatClampNeg 6) 0))), (b 0, .inr (8, [.ref (b 1), .int 0, .int 0, .int 0, .int 0, .int 0, .int 0, .int (-1), .int 0, .int (-1), .ref (b 11), .ref (b 12), .ref (b 13), .int 0, .int 0, .ref (b 16), .ref (b 17), .ref (b 18), .ref (b 19), .ref (b 20), .ref (b 21), .ref (b 22), .ref (b 23), .ref (b 24), .int 0, .ref (b 26), .ref (b 27), .ref (b 28), .ref (b 29), .ref (b 30), .ref (b 31), .ref (b 32), .int 0, .int 0, .ref (b 35), .ref (b 36), .ref (b 37), .ref (b 38), .ref (b 39), .ref (b 40), .int 0, .ref (b 42), .ref (b 43), .ref (b 44), .int 0, .ref (b 46), .ref (b 47), .int 0, .ref (b 49)]))] := hD
  refine lv_iinc (v := 7) (lv' := [(3, .int 7), (2, .int 0), (1, .int 0), (0, .ref (b 0))]) hx hb dX8_custom_150 hl (k := 0) rfl (by decide) (by decide) rfl (fun ls hl => ?_)
  refine lv_goto (tgt := 132) hx hb dX8_custom_153 (by decide) ?_
  refine lv_iload_n hx hb dX8_custom_132 rfl (lv_at hl 0 rfl) ?_
  refine lv_bipush (v := 7) hx hb dX8_custom_133 (by decide) ?_
  refine lv_icmp_ge (tgt := 156) hx hb dX8_custom_135 (by decide) (fun _ => ?_) (fun c_9 => absurd c_9 (by decide))
  refine lv_iload_n hx hb dX8_custom_156 rfl (lv_at hl 1 rfl) ?_
  exact W.iret (v := 0) hx hb hr (fun t ht hW => ⟨⟨0, (), rfl, rfl, trivial⟩, hS.F ht⟩) hS.2.2 dX8_custom_157

set_option maxHeartbeats 4000000 in
set_option maxRecDepth 100000 in
theorem m_fault (l : Launch) (dC : Nat → ClassId) (dI : Nat → Nat → Nat) (b : Nat → Nat) (p0 : Int32) (sz : Nat) : Met l yX8_fault (zz_w yX8_fault cX8_fault 2 (some .int)) ({ frames := 0, cells := 0, slots := 0, locals := 0 }) (va_Pc [.ref (b 0), .int p0] (zz_B (dC, dI) sz [(b 0, .inr (8, [.ref (b 1), .int 0, .int 0, .int 0, .int 0, .int 0, .int 0, .int 0, .int (-1), .int (-1), .ref (b 11), .ref (b 12), .ref (b 13), .int 0, .int 0, .ref (b 16), .ref (b 17), .ref (b 18), .ref (b 19), .ref (b 20), .ref (b 21), .ref (b 22), .ref (b 23), .ref (b 24), .int 0, .ref (b 26), .ref (b 27), .ref (b 28), .ref (b 29), .ref (b 30), .ref (b 31), .ref (b 32), .int 0, .int 0, .ref (b 35), .ref (b 36), .ref (b 37), .ref (b 38), .ref (b 39), .ref (b 40), .int 0, .ref (b 42), .ref (b 43), .ref (b 44), .int 0, .ref (b 46), .ref (b 47), .int 0, .ref (b 49)]))] [])) (va_Qi (fun (r : Int32) (_ : Unit) => r = -1) (fun _ _ => True) (va_A [] sz)) 0 0 (va_A [] sz) := by
  refine Met.ofW (cc := cX8_fault) (maxL := 2) (ret := (some .int)) (by decide) rfl ?_
  intro p e s m args below meth c s₁ B hml hv
  obtain ⟨rfl, hsz, hP, hK, hD0, hN⟩ := hv
  have hx := B.exec
  have hb := B.bytes
  have hr := B.returns
  have hts := atoms_spec (ws := zz_w yX8_fault cX8_fault 2 (some .int)) B.pre
  have hw : ∀ w ∈ zz_all, w.before _ s = true := fun w h => hts w (List.mem_cons_of_mem _ h)
  have hown : s.vm.findClass RX8 = some m.cls := findClass_of_methodNamed B.named
  have hlocks := B.notSynchronized
  subst hsz
  have hD := hD0
  generalize hAe : va_A [] s.heap.size = A
  have hA : ∀ q : Nat, s.heap.size ≤ q → A q := fun q h => by rw [← hAe]; exact Or.inr h
  have hS : va_S A s.heap s.heap [] := va_S.rf
  have hP : va_P (dC, dI) vwCl [(b 0, .inr (8, [.ref (b 1), .int 0, .int 0, .int 0, .int 0, .int 0, .int 0, .int 0, .int (-1), .int (-1), .ref (b 11), .ref (b 12), .ref (b 13), .int 0, .int 0, .ref (b 16), .ref (b 17), .ref (b 18), .ref (b 19), .ref (b 20), .ref (b 21), .ref (b 22), .ref (b 23), .ref (b 24), .int 0, .ref (b 26), .ref (b 27), .ref (b 28), .ref (b 29), .ref (b 30), .ref (b 31), .ref (b 32), .int 0, .int 0, .ref (b 35), .ref (b 36), .ref (b 37), .ref (b 38), .ref (b 39), .ref (b 40), .int 0, .ref (b 42), .ref (b 43), .ref (b 44), .int 0, .ref (b 46), .ref (b 47), .int 0, .ref (b 49)]))] s.heap := hP
  have hl := lv_entry ([.ref (b 0), .int p0]) (n := 2) (Nat.le_of_ble_eq_true rfl)
  rw [lg_entry_eq]
  generalize (lg_sl ([.ref (b 0), .int p0]) ++ List.replicate (2 - (lg_sl ([.ref (b 0), .int p0])).length) Slot.unset).toArray = ls at hl ⊢
  have hl : lv_has ls 2 [(0, .ref (b 0)), (1, .int p0)] := hl
  refine lv_iload_n hx hb dX8_fault_0 rfl (lv_at hl 1 rfl) ?_
  refine lv_if_ne (tgt := 11) hx hb dX8_fault_1 (by decide) (fun c_1 => ?_) (fun c_1 => ?_)
  · refine lv_iload_n hx hb dX8_fault_11 rfl (lv_at hl 1 rfl) ?_
    refine lv_iconst (v := 1) hx hb dX8_fault_12 (by decide) ?_
    refine lv_icmp_ne (tgt := 23) hx hb dX8_fault_13 (by decide) (fun c_2 => ?_) (fun c_2 => ?_)
    · refine lv_iconst (v := (-1)) hx hb dX8_fault_23 (by decide) ?_
      exact W.iret (v := (-1)) hx hb hr (fun t ht hW => ⟨⟨(-1), (), rfl, rfl, trivial⟩, hS.F ht⟩) hS.2.2 dX8_fault_24
    · refine lv_aload_n hx hb dX8_fault_16 rfl (lv_at hl 0 rfl) ?_
      refine va_get (D := (dC, dI)) (ci := 8) (v := .int (-1)) (C := RX8) (T := TX8) (N := 49) hx hb hw zz_inX8 hown hK hP 0 rfl rfl 9 (by decide) (hw _ tw_130) (fun _ h9 => h9) rfl dX8_fault_17 ?_
      refine lv_goto (tgt := 24) hx hb dX8_fault_20 (by decide) ?_
      exact W.iret (v := (-1)) hx hb hr (fun t ht hW => ⟨⟨(-1), (), rfl, rfl, trivial⟩, hS.F ht⟩) hS.2.2 dX8_fault_24
  · refine lv_aload_n hx hb dX8_fault_4 rfl (lv_at hl 0 rfl) ?_
    refine va_get (D := (dC, dI)) (ci := 8) (v := .int (-1)) (C := RX8) (T := TX8) (N := 49) hx hb hw zz_inX8 hown hK hP 0 rfl rfl 8 (by decide) (hw _ tw_129) (fun _ h9 => h9) rfl dX8_fault_5 ?_
    refine lv_goto (tgt := 24) hx hb dX8_fault_8 (by decide) ?_
    exact W.iret (v := (-1)) hx hb hr (fun t ht hW => ⟨⟨(-1), (), rfl, rfl, trivial⟩, hS.F ht⟩) hS.2.2 dX8_fault_24

set_option maxHeartbeats 4000000 in
set_option maxRecDepth 100000 in
theorem m_says (l : Launch) (dC : Nat → ClassId) (dI : Nat → Nat → Nat) (b : Nat → Nat) (cI : ClassId) (fc : Nat → Int32) (p0 : Int32) (sz : Nat) (hfc : ∀ k, k < 7 → fc k = zz_un k) : Met l yX8_says (zz_w yX8_says cX8_says 2 (some .int)) ({ frames := 1, cells := 0, slots := 0, locals := 25 }) (va_Pc [.ref (b 0), .int p0] (zz_B (dC, dI) sz [(b 0, .inr (8, [.ref (b 1), .int 0, .int 0, .int 0, .int 0, .int 0, .int 0, .int 0, .int (-1), .int (-1), .ref (b 11), .ref (b 12), .ref (b 13), .int 0, .int 0, .ref (b 16), .ref (b 17), .ref (b 18), .ref (b 19), .ref (b 20), .ref (b 21), .ref (b 22), .ref (b 23), .ref (b 24), .int 0, .ref (b 26), .ref (b 27), .ref (b 28), .ref (b 29), .ref (b 30), .ref (b 31), .ref (b 32), .int 0, .int 0, .ref (b 35), .ref (b 36), .ref (b 37), .ref (b 38), .ref (b 39), .ref (b 40), .int 0, .ref (b 42), .ref (b 43), .ref (b 44), .int 0, .ref (b 46), .ref (b 47), .int 0, .ref (b 49)])), (b 13, .inl (cI, 7, .inl fc))] [(cI, .int)])) (va_Qi (fun (r : Int32) (_ : Unit) => r = an_says p0) (fun _ _ => True) (va_A [] sz)) 0 0 (va_A [] sz) := by
  refine Met.ofW (cc := cX8_says) (maxL := 2) (ret := (some .int)) (by decide) rfl ?_
  intro p e s m args below meth c s₁ B hml hv
  obtain ⟨rfl, hsz, hP, hK, hD0, hN⟩ := hv
  have hx := B.exec
  have hb := B.bytes
  have hr := B.returns
  have hts := atoms_spec (ws := zz_w yX8_says cX8_says 2 (some .int)) B.pre
  have hw : ∀ w ∈ zz_all, w.before _ s = true := fun w h => hts w (List.mem_cons_of_mem _ h)
  have hown : s.vm.findClass RX8 = some m.cls := findClass_of_methodNamed B.named
  have hlocks := B.notSynchronized
  subst hsz
  have hD := hD0
  generalize hAe : va_A [] s.heap.size = A
  have hA : ∀ q : Nat, s.heap.size ≤ q → A q := fun q h => by rw [← hAe]; exact Or.inr h
  have hS : va_S A s.heap s.heap [] := va_S.rf
  have hP : va_P (dC, dI) vwCl [(b 0, .inr (8, [.ref (b 1), .int 0, .int 0, .int 0, .int 0, .int 0, .int 0, .int 0, .int (-1), .int (-1), .ref (b 11), .ref (b 12), .ref (b 13), .int 0, .int 0, .ref (b 16), .ref (b 17), .ref (b 18), .ref (b 19), .ref (b 20), .ref (b 21), .ref (b 22), .ref (b 23), .ref (b 24), .int 0, .ref (b 26), .ref (b 27), .ref (b 28), .ref (b 29), .ref (b 30), .ref (b 31), .ref (b 32), .int 0, .int 0, .ref (b 35), .ref (b 36), .ref (b 37), .ref (b 38), .ref (b 39), .ref (b 40), .int 0, .ref (b 42), .ref (b 43), .ref (b 44), .int 0, .ref (b 46), .ref (b 47), .int 0, .ref (b 49)])), (b 13, .inl (cI, 7, .inl fc))] s.heap := hP
  have hl := lv_entry ([.ref (b 0), .int p0]) (n := 2) (Nat.le_of_ble_eq_true rfl)
  rw [lg_entry_eq]
  generalize (lg_sl ([.ref (b 0), .int p0]) ++ List.replicate (2 - (lg_sl ([.ref (b 0), .int p0])).length) Slot.unset).toArray = ls at hl ⊢
  have hl : lv_has ls 2 [(0, .ref (b 0)), (1, .int p0)] := hl
  refine lv_iload_n hx hb dX8_says_0 rfl (lv_at hl 1 rfl) ?_
  refine lv_i2l (v := Int32.toInt64 p0) hx hb dX8_says_1 rfl ?_
  refine lv_lconst (v := Int32.toInt64 0) hx hb dX8_says_2 (by decide) ?_
  refine lv_ldc2 (v := 6) hx hb hown (hw _ tw_132) dX8_says_3 ?_
  refine zz_setl (Int32.toInt64 6) (by decide) ?_
  have hPc := hP.sub (ws' := []) [] rfl
  have hDc := hD.sub (ws' := []) [] (by decide) rfl
  have hKc := hK.sub (tys' := []) [] rfl
  have hFc := zz_free0 hS hA
  refine va_calli (va_runS (As := [.long (Int32.toInt64 p0), .long (Int32.toInt64 0), .long (Int32.toInt64 6)]) (rest := []) ⟨hx, hb, hml, hown, hw⟩ (k_in l dC dI p0 0 6 s.heap.size) ⟨callB_of 3 hw (zz_good tw_94) rfl rfl rfl (hw _ tw_95) (hw _ tw_96) (by decide +kernel) ⟨Nat.le_of_ble_eq_true rfl, Nat.le_of_ble_eq_true rfl⟩, (hw _ tw_97)⟩ ⟨zz_blind, zz_pre hPc hKc hDc hN⟩ rfl rfl hl.1 rfl (lv_room (Nat.le_of_ble_eq_true rfl)) dX8_says_6 ⟨Nat.le_of_ble_eq_true rfl, Nat.le_of_ble_eq_true rfl⟩) hS (fun q _ h => hFc q h) hFc (fun r_1 u_1 t H1 locs ht hvm e_1 hB hz1 hk1 hS => ?_)
  try dsimp only at e_1
  have hP := zz_keep hP hk1
  clear hk1 hB ht hvm
  generalize H1 = H at hP hS ⊢
  have hP : va_P (dC, dI) vwCl [(b 0, .inr (8, [.ref (b 1), .int 0, .int 0, .int 0, .int 0, .int 0, .int 0, .int 0, .int (-1), .int (-1), .ref (b 11), .ref (b 12), .ref (b 13), .int 0, .int 0, .ref (b 16), .ref (b 17), .ref (b 18), .ref (b 19), .ref (b 20), .ref (b 21), .ref (b 22), .ref (b 23), .ref (b 24), .int 0, .ref (b 26), .ref (b 27), .ref (b 28), .ref (b 29), .ref (b 30), .ref (b 31), .ref (b 32), .int 0, .int 0, .ref (b 35), .ref (b 36), .ref (b 37), .ref (b 38), .ref (b 39), .ref (b 40), .int 0, .ref (b 42), .ref (b 43), .ref (b 44), .int 0, .ref (b 46), .ref (b 47), .int 0, .ref (b 49)])), (b 13, .inl (cI, 7, .inl fc))] H := hP
  have hD : va_D (fun _ => True) [(b 0, .inr (8, [.ref (b 1), .int 0, .int 0, .int 0, .int 0, .int 0, .int 0, .int 0, .int (-1), .int (-1), .ref (b 11), .ref (b 12), .ref (b 13), .int 0, .int 0, .ref (b 16), .ref (b 17), .ref (b 18), .ref (b 19), .ref (b 20), .ref (b 21), .ref (b 22), .ref (b 23), .ref (b 24), .int 0, .ref (b 26), .ref (b 27), .ref (b 28), .ref (b 29), .ref (b 30), .ref (b 31), .ref (b 32), .int 0, .int 0, .ref (b 35), .ref (b 36), .ref (b 37), .ref (b 38), .ref (b 39), .ref (b 40), .int 0, .ref (b 42), .ref (b 43), .ref (b 44), .int 0, .ref (b 46), .ref (b 47), .int 0, .ref (b 49)])), (b 13, .inl (cI, 7, .inl fc))] := hD
  refine lv_if_eq (tgt := 21) hx hb dX8_says_9 (by decide) (fun c_2 => ?_) (fun c_2 => ?_)
  · refine lv_iconst (v := (-1)) hx hb dX8_says_21 (by decide) ?_
    exact W.iret (v := (-1)) hx hb hr (fun t ht hW => ⟨⟨(-1), (), rfl, (by have zc_2 := c_2; rw [e_1, zz_in0, Int32.le_iff_toInt_le, Int32.le_iff_toInt_le] at zc_2; (try rw [show (0 : Int32).toInt = 0 from by decide] at zc_2); (try rw [show (6 : Int32).toInt = 6 from by decide] at zc_2); unfold an_says; first | exact (if_pos (by omega)).symm | exact (if_neg (by omega)).symm), trivial⟩, hS.F ht⟩) hS.2.2 dX8_says_22
  · refine lv_aload_n hx hb dX8_says_12 rfl (lv_at hl 0 rfl) ?_
    refine va_get (D := (dC, dI)) (ci := 8) (v := .ref (b 13)) (C := RX8) (T := TX8) (N := 49) hx hb hw zz_inX8 hown hK hP 0 rfl rfl 12 (by decide) (hw _ tw_131) (fun _ h9 => h9) rfl dX8_says_13 ?_
    refine lv_iload_n hx hb dX8_says_16 rfl (lv_at hl 1 rfl) ?_
    refine va_iald hx hb hK hP 1 0 rfl rfl (vp_in_iff.mpr (by have zc_2 := c_2; rw [e_1, zz_in0, Int32.le_iff_toInt_le, Int32.le_iff_toInt_le] at zc_2; (try rw [show (0 : Int32).toInt = 0 from by decide] at zc_2); (try rw [show (6 : Int32).toInt = 6 from by decide] at zc_2); constructor <;> omega)) dX8_says_17 ?_
    refine lv_goto (tgt := 22) hx hb dX8_says_18 (by decide) ?_
    exact W.iret (v := (fc (Int32.toNatClampNeg p0))) hx hb hr (fun t ht hW => ⟨⟨(fc (Int32.toNatClampNeg p0)), (), rfl, (by have zc_2 := c_2; rw [e_1, zz_in0, Int32.le_iff_toInt_le, Int32.le_iff_toInt_le] at zc_2; (try rw [show (0 : Int32).toInt = 0 from by decide] at zc_2); (try rw [show (6 : Int32).toInt = 6 from by decide] at zc_2); unfold an_says; rw [if_pos (by omega)]; exact hfc _ (zz_clamp (vp_in_iff.mpr (by constructor <;> omega)))), trivial⟩, hS.F ht⟩) hS.2.2 dX8_says_22

set_option maxHeartbeats 4000000 in
set_option maxRecDepth 100000 in
theorem m_ill (l : Launch) (dC : Nat → ClassId) (dI : Nat → Nat → Nat) (b : Nat → Nat) (p0 : Int32) (p1 : Int32) (sz : Nat) : Met l yX8_ill (zz_w yX8_ill cX8_ill 3 (some .boolean)) ({ frames := 2, cells := 0, slots := 0, locals := 46 }) (va_Pc [.ref (b 0), .int p0, .int p1] (zz_B (dC, dI) sz [(b 0, .inr (8, [.ref (b 1), .int 0, .int 0, .int 0, .int 0, .int 0, .int 0, .int 0, .int (-1), .int (-1), .ref (b 11), .ref (b 12), .ref (b 13), .int 0, .int 0, .ref (b 16), .ref (b 17), .ref (b 18), .ref (b 19), .ref (b 20), .ref (b 21), .ref (b 22), .ref (b 23), .ref (b 24), .int 0, .ref (b 26), .ref (b 27), .ref (b 28), .ref (b 29), .ref (b 30), .ref (b 31), .ref (b 32), .int 0, .int 0, .ref (b 35), .ref (b 36), .ref (b 37), .ref (b 38), .ref (b 39), .ref (b 40), .int 0, .ref (b 42), .ref (b 43), .ref (b 44), .int 0, .ref (b 46), .ref (b 47), .int 0, .ref (b 49)]))] [])) (va_Qi (fun (r : Int32) (_ : Unit) => r = 0) (fun _ _ => True) (va_A [] sz)) 0 0 (va_A [] sz) := by
  refine Met.ofW (cc := cX8_ill) (maxL := 3) (ret := (some .boolean)) (by decide) rfl ?_
  intro p e s m args below meth c s₁ B hml hv
  obtain ⟨rfl, hsz, hP, hK, hD0, hN⟩ := hv
  have hx := B.exec
  have hb := B.bytes
  have hr := B.returns
  have hts := atoms_spec (ws := zz_w yX8_ill cX8_ill 3 (some .boolean)) B.pre
  have hw : ∀ w ∈ zz_all, w.before _ s = true := fun w h => hts w (List.mem_cons_of_mem _ h)
  have hown : s.vm.findClass RX8 = some m.cls := findClass_of_methodNamed B.named
  have hlocks := B.notSynchronized
  subst hsz
  have hD := hD0
  generalize hAe : va_A [] s.heap.size = A
  have hA : ∀ q : Nat, s.heap.size ≤ q → A q := fun q h => by rw [← hAe]; exact Or.inr h
  have hS : va_S A s.heap s.heap [] := va_S.rf
  have hP : va_P (dC, dI) vwCl [(b 0, .inr (8, [.ref (b 1), .int 0, .int 0, .int 0, .int 0, .int 0, .int 0, .int 0, .int (-1), .int (-1), .ref (b 11), .ref (b 12), .ref (b 13), .int 0, .int 0, .ref (b 16), .ref (b 17), .ref (b 18), .ref (b 19), .ref (b 20), .ref (b 21), .ref (b 22), .ref (b 23), .ref (b 24), .int 0, .ref (b 26), .ref (b 27), .ref (b 28), .ref (b 29), .ref (b 30), .ref (b 31), .ref (b 32), .int 0, .int 0, .ref (b 35), .ref (b 36), .ref (b 37), .ref (b 38), .ref (b 39), .ref (b 40), .int 0, .ref (b 42), .ref (b 43), .ref (b 44), .int 0, .ref (b 46), .ref (b 47), .int 0, .ref (b 49)]))] s.heap := hP
  have hl := lv_entry ([.ref (b 0), .int p0, .int p1]) (n := 3) (Nat.le_of_ble_eq_true rfl)
  rw [lg_entry_eq]
  generalize (lg_sl ([.ref (b 0), .int p0, .int p1]) ++ List.replicate (3 - (lg_sl ([.ref (b 0), .int p0, .int p1])).length) Slot.unset).toArray = ls at hl ⊢
  have hl : lv_has ls 3 [(0, .ref (b 0)), (1, .int p0), (2, .int p1)] := hl
  refine lv_aload_n hx hb dX8_ill_0 rfl (lv_at hl 0 rfl) ?_
  refine lv_iload_n hx hb dX8_ill_1 rfl (lv_at hl 1 rfl) ?_
  have hPc := hP.sub (ws' := [(b 0, .inr (8, [.ref (b 1), .int 0, .int 0, .int 0, .int 0, .int 0, .int 0, .int 0, .int (-1), .int (-1), .ref (b 11), .ref (b 12), .ref (b 13), .int 0, .int 0, .ref (b 16), .ref (b 17), .ref (b 18), .ref (b 19), .ref (b 20), .ref (b 21), .ref (b 22), .ref (b 23), .ref (b 24), .int 0, .ref (b 26), .ref (b 27), .ref (b 28), .ref (b 29), .ref (b 30), .ref (b 31), .ref (b 32), .int 0, .int 0, .ref (b 35), .ref (b 36), .ref (b 37), .ref (b 38), .ref (b 39), .ref (b 40), .int 0, .ref (b 42), .ref (b 43), .ref (b 44), .int 0, .ref (b 46), .ref (b 47), .int 0, .ref (b 49)]))]) [0] rfl
  have hDc := hD.sub (ws' := [(b 0, .inr (8, [.ref (b 1), .int 0, .int 0, .int 0, .int 0, .int 0, .int 0, .int 0, .int (-1), .int (-1), .ref (b 11), .ref (b 12), .ref (b 13), .int 0, .int 0, .ref (b 16), .ref (b 17), .ref (b 18), .ref (b 19), .ref (b 20), .ref (b 21), .ref (b 22), .ref (b 23), .ref (b 24), .int 0, .ref (b 26), .ref (b 27), .ref (b 28), .ref (b 29), .ref (b 30), .ref (b 31), .ref (b 32), .int 0, .int 0, .ref (b 35), .ref (b 36), .ref (b 37), .ref (b 38), .ref (b 39), .ref (b 40), .int 0, .ref (b 42), .ref (b 43), .ref (b 44), .int 0, .ref (b 46), .ref (b 47), .int 0, .ref (b 49)]))]) [0] (by decide) rfl
  have hKc := hK.sub (tys' := []) [] rfl
  have hFc := zz_free0 hS hA
  refine va_calli (va_runV (As := [.int p0]) (rest := []) ⟨hx, hb, hml, hown, hw⟩ (m_isHouse l dC dI b p0 s.heap.size) ⟨callB_of 1 hw (zz_good tw_106) rfl rfl rfl (hw _ tw_95) (hw _ tw_107) (by decide +kernel) ⟨Nat.le_of_ble_eq_true rfl, Nat.le_of_ble_eq_true rfl⟩, (hw _ tw_108), (hw _ tw_109)⟩ ⟨zz_blind, va_recv hKc hPc (ci := 8) (q0 := 0) rfl rfl, zz_pre hPc hKc hDc hN⟩ rfl rfl hl.1 rfl (lv_room (Nat.le_of_ble_eq_true rfl)) dX8_ill_2 ⟨Nat.le_of_ble_eq_true rfl, Nat.le_of_ble_eq_true rfl⟩) hS (fun q _ h => hFc q h) hFc (fun r_1 u_1 t H1 locs ht hvm e_1 hB hz1 hk1 hS => ?_)
  try dsimp only at e_1
  have hP := zz_keep hP hk1
  clear hk1 hB ht hvm
  generalize H1 = H at hP hS ⊢
  have hP : va_P (dC, dI) vwCl [(b 0, .inr (8, [.ref (b 1), .int 0, .int 0, .int 0, .int 0, .int 0, .int 0, .int 0, .int (-1), .int (-1), .ref (b 11), .ref (b 12), .ref (b 13), .int 0, .int 0, .ref (b 16), .ref (b 17), .ref (b 18), .ref (b 19), .ref (b 20), .ref (b 21), .ref (b 22), .ref (b 23), .ref (b 24), .int 0, .ref (b 26), .ref (b 27), .ref (b 28), .ref (b 29), .ref (b 30), .ref (b 31), .ref (b 32), .int 0, .int 0, .ref (b 35), .ref (b 36), .ref (b 37), .ref (b 38), .ref (b 39), .ref (b 40), .int 0, .ref (b 42), .ref (b 43), .ref (b 44), .int 0, .ref (b 46), .ref (b 47), .int 0, .ref (b 49)]))] H := hP
  have hD : va_D (fun _ => True) [(b 0, .inr (8, [.ref (b 1), .int 0, .int 0, .int 0, .int 0, .int 0, .int 0, .int 0, .int (-1), .int (-1), .ref (b 11), .ref (b 12), .ref (b 13), .int 0, .int 0, .ref (b 16), .ref (b 17), .ref (b 18), .ref (b 19), .ref (b 20), .ref (b 21), .ref (b 22), .ref (b 23), .ref (b 24), .int 0, .ref (b 26), .ref (b 27), .ref (b 28), .ref (b 29), .ref (b 30), .ref (b 31), .ref (b 32), .int 0, .int 0, .ref (b 35), .ref (b 36), .ref (b 37), .ref (b 38), .ref (b 39), .ref (b 40), .int 0, .ref (b 42), .ref (b 43), .ref (b 44), .int 0, .ref (b 46), .ref (b 47), .int 0, .ref (b 49)]))] := hD
  refine zz_seti 0 e_1 ?_
  refine lv_if_eq (tgt := 20) hx hb dX8_ill_5 (by decide) (fun _ => ?_) (fun c_9 => absurd c_9 (by decide))
  refine lv_iconst (v := 0) hx hb dX8_ill_20 (by decide) ?_
  exact W.zret (v := 0) hx hb hr (rfl) (fun t ht hW => ⟨⟨0, (), rfl, rfl, trivial⟩, hS.F ht⟩) hS.2.2 dX8_ill_21

set_option maxHeartbeats 4000000 in
set_option maxRecDepth 100000 in
theorem m_work (l : Launch) (dC : Nat → ClassId) (dI : Nat → Nat → Nat) (b : Nat → Nat) (p0 : Int32) (p1 : Int32) (p2 : Int32) (sz : Nat) : Met l yX8_work (zz_w yX8_work cX8_work 6 (some .int)) ({ frames := 2, cells := 0, slots := 0, locals := 46 }) (va_Pc [.ref (b 0), .int p0, .int p1, .int p2] (zz_B (dC, dI) sz [(b 0, .inr (8, [.ref (b 1), .int 0, .int 0, .int 0, .int 0, .int 0, .int 0, .int 0, .int (-1), .int (-1), .ref (b 11), .ref (b 12), .ref (b 13), .int 0, .int 0, .ref (b 16), .ref (b 17), .ref (b 18), .ref (b 19), .ref (b 20), .ref (b 21), .ref (b 22), .ref (b 23), .ref (b 24), .int 0, .ref (b 26), .ref (b 27), .ref (b 28), .ref (b 29), .ref (b 30), .ref (b 31), .ref (b 32), .int 0, .int 0, .ref (b 35), .ref (b 36), .ref (b 37), .ref (b 38), .ref (b 39), .ref (b 40), .int 0, .ref (b 42), .ref (b 43), .ref (b 44), .int 0, .ref (b 46), .ref (b 47), .int 0, .ref (b 49)]))] [])) (va_Qi (fun (r : Int32) (_ : Unit) => r = -1) (fun _ _ => True) (va_A [] sz)) 0 0 (va_A [] sz) := by
  refine Met.ofW (cc := cX8_work) (maxL := 6) (ret := (some .int)) (by decide) rfl ?_
  intro p e s m args below meth c s₁ B hml hv
  obtain ⟨rfl, hsz, hP, hK, hD0, hN⟩ := hv
  have hx := B.exec
  have hb := B.bytes
  have hr := B.returns
  have hts := atoms_spec (ws := zz_w yX8_work cX8_work 6 (some .int)) B.pre
  have hw : ∀ w ∈ zz_all, w.before _ s = true := fun w h => hts w (List.mem_cons_of_mem _ h)
  have hown : s.vm.findClass RX8 = some m.cls := findClass_of_methodNamed B.named
  have hlocks := B.notSynchronized
  subst hsz
  have hD := hD0
  generalize hAe : va_A [] s.heap.size = A
  have hA : ∀ q : Nat, s.heap.size ≤ q → A q := fun q h => by rw [← hAe]; exact Or.inr h
  have hS : va_S A s.heap s.heap [] := va_S.rf
  have hP : va_P (dC, dI) vwCl [(b 0, .inr (8, [.ref (b 1), .int 0, .int 0, .int 0, .int 0, .int 0, .int 0, .int 0, .int (-1), .int (-1), .ref (b 11), .ref (b 12), .ref (b 13), .int 0, .int 0, .ref (b 16), .ref (b 17), .ref (b 18), .ref (b 19), .ref (b 20), .ref (b 21), .ref (b 22), .ref (b 23), .ref (b 24), .int 0, .ref (b 26), .ref (b 27), .ref (b 28), .ref (b 29), .ref (b 30), .ref (b 31), .ref (b 32), .int 0, .int 0, .ref (b 35), .ref (b 36), .ref (b 37), .ref (b 38), .ref (b 39), .ref (b 40), .int 0, .ref (b 42), .ref (b 43), .ref (b 44), .int 0, .ref (b 46), .ref (b 47), .int 0, .ref (b 49)]))] s.heap := hP
  have hl := lv_entry ([.ref (b 0), .int p0, .int p1, .int p2]) (n := 6) (Nat.le_of_ble_eq_true rfl)
  rw [lg_entry_eq]
  generalize (lg_sl ([.ref (b 0), .int p0, .int p1, .int p2]) ++ List.replicate (6 - (lg_sl ([.ref (b 0), .int p0, .int p1, .int p2])).length) Slot.unset).toArray = ls at hl ⊢
  have hl : lv_has ls 6 [(0, .ref (b 0)), (1, .int p0), (2, .int p1), (3, .int p2)] := hl
  refine lv_aload_n hx hb dX8_work_0 rfl (lv_at hl 0 rfl) ?_
  refine lv_iload_n hx hb dX8_work_1 rfl (lv_at hl 1 rfl) ?_
  have hPc := hP.sub (ws' := [(b 0, .inr (8, [.ref (b 1), .int 0, .int 0, .int 0, .int 0, .int 0, .int 0, .int 0, .int (-1), .int (-1), .ref (b 11), .ref (b 12), .ref (b 13), .int 0, .int 0, .ref (b 16), .ref (b 17), .ref (b 18), .ref (b 19), .ref (b 20), .ref (b 21), .ref (b 22), .ref (b 23), .ref (b 24), .int 0, .ref (b 26), .ref (b 27), .ref (b 28), .ref (b 29), .ref (b 30), .ref (b 31), .ref (b 32), .int 0, .int 0, .ref (b 35), .ref (b 36), .ref (b 37), .ref (b 38), .ref (b 39), .ref (b 40), .int 0, .ref (b 42), .ref (b 43), .ref (b 44), .int 0, .ref (b 46), .ref (b 47), .int 0, .ref (b 49)]))]) [0] rfl
  have hDc := hD.sub (ws' := [(b 0, .inr (8, [.ref (b 1), .int 0, .int 0, .int 0, .int 0, .int 0, .int 0, .int 0, .int (-1), .int (-1), .ref (b 11), .ref (b 12), .ref (b 13), .int 0, .int 0, .ref (b 16), .ref (b 17), .ref (b 18), .ref (b 19), .ref (b 20), .ref (b 21), .ref (b 22), .ref (b 23), .ref (b 24), .int 0, .ref (b 26), .ref (b 27), .ref (b 28), .ref (b 29), .ref (b 30), .ref (b 31), .ref (b 32), .int 0, .int 0, .ref (b 35), .ref (b 36), .ref (b 37), .ref (b 38), .ref (b 39), .ref (b 40), .int 0, .ref (b 42), .ref (b 43), .ref (b 44), .int 0, .ref (b 46), .ref (b 47), .int 0, .ref (b 49)]))]) [0] (by decide) rfl
  have hKc := hK.sub (tys' := []) [] rfl
  have hFc := zz_free0 hS hA
  refine va_calli (va_runV (As := [.int p0]) (rest := []) ⟨hx, hb, hml, hown, hw⟩ (m_isHouse l dC dI b p0 s.heap.size) ⟨callB_of 1 hw (zz_good tw_106) rfl rfl rfl (hw _ tw_95) (hw _ tw_107) (by decide +kernel) ⟨Nat.le_of_ble_eq_true rfl, Nat.le_of_ble_eq_true rfl⟩, (hw _ tw_108), (hw _ tw_109)⟩ ⟨zz_blind, va_recv hKc hPc (ci := 8) (q0 := 0) rfl rfl, zz_pre hPc hKc hDc hN⟩ rfl rfl hl.1 rfl (lv_room (Nat.le_of_ble_eq_true rfl)) dX8_work_2 ⟨Nat.le_of_ble_eq_true rfl, Nat.le_of_ble_eq_true rfl⟩) hS (fun q _ h => hFc q h) hFc (fun r_1 u_1 t H1 locs ht hvm e_1 hB hz1 hk1 hS => ?_)
  try dsimp only at e_1
  have hP := zz_keep hP hk1
  clear hk1 hB ht hvm
  generalize H1 = H at hP hS ⊢
  have hP : va_P (dC, dI) vwCl [(b 0, .inr (8, [.ref (b 1), .int 0, .int 0, .int 0, .int 0, .int 0, .int 0, .int 0, .int (-1), .int (-1), .ref (b 11), .ref (b 12), .ref (b 13), .int 0, .int 0, .ref (b 16), .ref (b 17), .ref (b 18), .ref (b 19), .ref (b 20), .ref (b 21), .ref (b 22), .ref (b 23), .ref (b 24), .int 0, .ref (b 26), .ref (b 27), .ref (b 28), .ref (b 29), .ref (b 30), .ref (b 31), .ref (b 32), .int 0, .int 0, .ref (b 35), .ref (b 36), .ref (b 37), .ref (b 38), .ref (b 39), .ref (b 40), .int 0, .ref (b 42), .ref (b 43), .ref (b 44), .int 0, .ref (b 46), .ref (b 47), .int 0, .ref (b 49)]))] H := hP
  have hD : va_D (fun _ => True) [(b 0, .inr (8, [.ref (b 1), .int 0, .int 0, .int 0, .int 0, .int 0, .int 0, .int 0, .int (-1), .int (-1), .ref (b 11), .ref (b 12), .ref (b 13), .int 0, .int 0, .ref (b 16), .ref (b 17), .ref (b 18), .ref (b 19), .ref (b 20), .ref (b 21), .ref (b 22), .ref (b 23), .ref (b 24), .int 0, .ref (b 26), .ref (b 27), .ref (b 28), .ref (b 29), .ref (b 30), .ref (b 31), .ref (b 32), .int 0, .int 0, .ref (b 35), .ref (b 36), .ref (b 37), .ref (b 38), .ref (b 39), .ref (b 40), .int 0, .ref (b 42), .ref (b 43), .ref (b 44), .int 0, .ref (b 46), .ref (b 47), .int 0, .ref (b 49)]))] := hD
  refine zz_seti 0 e_1 ?_
  refine lv_if_eq (tgt := 36) hx hb dX8_work_5 (by decide) (fun _ => ?_) (fun c_9 => absurd c_9 (by decide))
  refine lv_iconst (v := (-1)) hx hb dX8_work_36 (by decide) ?_
  exact W.iret (v := (-1)) hx hb hr (fun t ht hW => ⟨⟨(-1), (), rfl, rfl, trivial⟩, hS.F ht⟩) hS.2.2 dX8_work_37

set_option maxHeartbeats 4000000 in
set_option maxRecDepth 100000 in
theorem m_hire (l : Launch) (dC : Nat → ClassId) (dI : Nat → Nat → Nat) (b : Nat → Nat) (p0 : Int32) (p1 : Int32) (sz : Nat) : Met l yX8_hire (zz_w yX8_hire cX8_hire 3 (some .int)) ({ frames := 3, cells := 0, slots := 0, locals := 68 }) (va_Pc [.ref (b 0), .int p0, .int p1] (zz_B (dC, dI) sz [(b 0, .inr (8, [.ref (b 1), .int 0, .int 0, .int 0, .int 0, .int 0, .int 0, .int 0, .int (-1), .int (-1), .ref (b 11), .ref (b 12), .ref (b 13), .int 0, .int 0, .ref (b 16), .ref (b 17), .ref (b 18), .ref (b 19), .ref (b 20), .ref (b 21), .ref (b 22), .ref (b 23), .ref (b 24), .int 0, .ref (b 26), .ref (b 27), .ref (b 28), .ref (b 29), .ref (b 30), .ref (b 31), .ref (b 32), .int 0, .int 0, .ref (b 35), .ref (b 36), .ref (b 37), .ref (b 38), .ref (b 39), .ref (b 40), .int 0, .ref (b 42), .ref (b 43), .ref (b 44), .int 0, .ref (b 46), .ref (b 47), .int 0, .ref (b 49)]))] [])) (va_Qi (fun (r : Int32) (_ : Unit) => r = -1) (fun _ _ => True) (va_A [] sz)) 0 0 (va_A [] sz) := by
  refine Met.ofW (cc := cX8_hire) (maxL := 3) (ret := (some .int)) (by decide) rfl ?_
  intro p e s m args below meth c s₁ B hml hv
  obtain ⟨rfl, hsz, hP, hK, hD0, hN⟩ := hv
  have hx := B.exec
  have hb := B.bytes
  have hr := B.returns
  have hts := atoms_spec (ws := zz_w yX8_hire cX8_hire 3 (some .int)) B.pre
  have hw : ∀ w ∈ zz_all, w.before _ s = true := fun w h => hts w (List.mem_cons_of_mem _ h)
  have hown : s.vm.findClass RX8 = some m.cls := findClass_of_methodNamed B.named
  have hlocks := B.notSynchronized
  subst hsz
  have hD := hD0
  generalize hAe : va_A [] s.heap.size = A
  have hA : ∀ q : Nat, s.heap.size ≤ q → A q := fun q h => by rw [← hAe]; exact Or.inr h
  have hS : va_S A s.heap s.heap [] := va_S.rf
  have hP : va_P (dC, dI) vwCl [(b 0, .inr (8, [.ref (b 1), .int 0, .int 0, .int 0, .int 0, .int 0, .int 0, .int 0, .int (-1), .int (-1), .ref (b 11), .ref (b 12), .ref (b 13), .int 0, .int 0, .ref (b 16), .ref (b 17), .ref (b 18), .ref (b 19), .ref (b 20), .ref (b 21), .ref (b 22), .ref (b 23), .ref (b 24), .int 0, .ref (b 26), .ref (b 27), .ref (b 28), .ref (b 29), .ref (b 30), .ref (b 31), .ref (b 32), .int 0, .int 0, .ref (b 35), .ref (b 36), .ref (b 37), .ref (b 38), .ref (b 39), .ref (b 40), .int 0, .ref (b 42), .ref (b 43), .ref (b 44), .int 0, .ref (b 46), .ref (b 47), .int 0, .ref (b 49)]))] s.heap := hP
  have hl := lv_entry ([.ref (b 0), .int p0, .int p1]) (n := 3) (Nat.le_of_ble_eq_true rfl)
  rw [lg_entry_eq]
  generalize (lg_sl ([.ref (b 0), .int p0, .int p1]) ++ List.replicate (3 - (lg_sl ([.ref (b 0), .int p0, .int p1])).length) Slot.unset).toArray = ls at hl ⊢
  have hl : lv_has ls 3 [(0, .ref (b 0)), (1, .int p0), (2, .int p1)] := hl
  refine lv_aload_n hx hb dX8_hire_0 rfl (lv_at hl 0 rfl) ?_
  refine lv_iload_n hx hb dX8_hire_1 rfl (lv_at hl 1 rfl) ?_
  refine lv_iload_n hx hb dX8_hire_2 rfl (lv_at hl 2 rfl) ?_
  have hPc := hP.sub (ws' := [(b 0, .inr (8, [.ref (b 1), .int 0, .int 0, .int 0, .int 0, .int 0, .int 0, .int 0, .int (-1), .int (-1), .ref (b 11), .ref (b 12), .ref (b 13), .int 0, .int 0, .ref (b 16), .ref (b 17), .ref (b 18), .ref (b 19), .ref (b 20), .ref (b 21), .ref (b 22), .ref (b 23), .ref (b 24), .int 0, .ref (b 26), .ref (b 27), .ref (b 28), .ref (b 29), .ref (b 30), .ref (b 31), .ref (b 32), .int 0, .int 0, .ref (b 35), .ref (b 36), .ref (b 37), .ref (b 38), .ref (b 39), .ref (b 40), .int 0, .ref (b 42), .ref (b 43), .ref (b 44), .int 0, .ref (b 46), .ref (b 47), .int 0, .ref (b 49)]))]) [0] rfl
  have hDc := hD.sub (ws' := [(b 0, .inr (8, [.ref (b 1), .int 0, .int 0, .int 0, .int 0, .int 0, .int 0, .int 0, .int (-1), .int (-1), .ref (b 11), .ref (b 12), .ref (b 13), .int 0, .int 0, .ref (b 16), .ref (b 17), .ref (b 18), .ref (b 19), .ref (b 20), .ref (b 21), .ref (b 22), .ref (b 23), .ref (b 24), .int 0, .ref (b 26), .ref (b 27), .ref (b 28), .ref (b 29), .ref (b 30), .ref (b 31), .ref (b 32), .int 0, .int 0, .ref (b 35), .ref (b 36), .ref (b 37), .ref (b 38), .ref (b 39), .ref (b 40), .int 0, .ref (b 42), .ref (b 43), .ref (b 44), .int 0, .ref (b 46), .ref (b 47), .int 0, .ref (b 49)]))]) [0] (by decide) rfl
  have hKc := hK.sub (tys' := []) [] rfl
  have hFc := zz_free0 hS hA
  refine va_calli (va_runV (As := [.int p0, .int p1]) (rest := []) ⟨hx, hb, hml, hown, hw⟩ (m_canWork l dC dI b p0 p1 s.heap.size) ⟨callB_of 2 hw (zz_good tw_133) rfl rfl rfl (hw _ tw_95) (hw _ tw_134) (by decide +kernel) ⟨Nat.le_of_ble_eq_true rfl, Nat.le_of_ble_eq_true rfl⟩, (hw _ tw_135), (hw _ tw_136)⟩ ⟨zz_blind, va_recv hKc hPc (ci := 8) (q0 := 0) rfl rfl, zz_pre hPc hKc hDc hN⟩ rfl rfl hl.1 rfl (lv_room (Nat.le_of_ble_eq_true rfl)) dX8_hire_3 ⟨Nat.le_of_ble_eq_true rfl, Nat.le_of_ble_eq_true rfl⟩) hS (fun q _ h => hFc q h) hFc (fun r_1 u_1 t H1 locs ht hvm e_1 hB hz1 hk1 hS => ?_)
  try dsimp only at e_1
  have hP := zz_keep hP hk1
  clear hk1 hB ht hvm
  generalize H1 = H at hP hS ⊢
  have hP : va_P (dC, dI) vwCl [(b 0, .inr (8, [.ref (b 1), .int 0, .int 0, .int 0, .int 0, .int 0, .int 0, .int 0, .int (-1), .int (-1), .ref (b 11), .ref (b 12), .ref (b 13), .int 0, .int 0, .ref (b 16), .ref (b 17), .ref (b 18), .ref (b 19), .ref (b 20), .ref (b 21), .ref (b 22), .ref (b 23), .ref (b 24), .int 0, .ref (b 26), .ref (b 27), .ref (b 28), .ref (b 29), .ref (b 30), .ref (b 31), .ref (b 32), .int 0, .int 0, .ref (b 35), .ref (b 36), .ref (b 37), .ref (b 38), .ref (b 39), .ref (b 40), .int 0, .ref (b 42), .ref (b 43), .ref (b 44), .int 0, .ref (b 46), .ref (b 47), .int 0, .ref (b 49)]))] H := hP
  have hD : va_D (fun _ => True) [(b 0, .inr (8, [.ref (b 1), .int 0, .int 0, .int 0, .int 0, .int 0, .int 0, .int 0, .int (-1), .int (-1), .ref (b 11), .ref (b 12), .ref (b 13), .int 0, .int 0, .ref (b 16), .ref (b 17), .ref (b 18), .ref (b 19), .ref (b 20), .ref (b 21), .ref (b 22), .ref (b 23), .ref (b 24), .int 0, .ref (b 26), .ref (b 27), .ref (b 28), .ref (b 29), .ref (b 30), .ref (b 31), .ref (b 32), .int 0, .int 0, .ref (b 35), .ref (b 36), .ref (b 37), .ref (b 38), .ref (b 39), .ref (b 40), .int 0, .ref (b 42), .ref (b 43), .ref (b 44), .int 0, .ref (b 46), .ref (b 47), .int 0, .ref (b 49)]))] := hD
  refine zz_seti 0 e_1 ?_
  refine lv_if_eq (tgt := 20) hx hb dX8_hire_6 (by decide) (fun _ => ?_) (fun c_9 => absurd c_9 (by decide))
  refine lv_iconst (v := (-1)) hx hb dX8_hire_20 (by decide) ?_
  exact W.iret (v := (-1)) hx hb hr (fun t ht hW => ⟨⟨(-1), (), rfl, rfl, trivial⟩, hS.F ht⟩) hS.2.2 dX8_hire_21

set_option maxHeartbeats 4000000 in
set_option maxRecDepth 100000 in
theorem m_drops (l : Launch) (dC : Nat → ClassId) (dI : Nat → Nat → Nat) (b : Nat → Nat) (clk : Int32) (sz : Nat) : Met l yX8_drops (zz_w yX8_drops cX8_drops 3 none) ({ frames := 0, cells := 0, slots := 0, locals := 0 }) (va_Pc [.ref (b 0)] (zz_B (dC, dI) sz [(b 0, .inr (8, [.ref (b 1), .int 0, .int 0, .int 0, .int 0, .int 0, .int 0, .int 0, .int (-1), .int (-1), .ref (b 11), .ref (b 12), .ref (b 13), .int clk, .int 0, .ref (b 16), .ref (b 17), .ref (b 18), .ref (b 19), .ref (b 20), .ref (b 21), .ref (b 22), .ref (b 23), .ref (b 24), .int 0, .ref (b 26), .ref (b 27), .ref (b 28), .ref (b 29), .ref (b 30), .ref (b 31), .ref (b 32), .int 0, .int 0, .ref (b 35), .ref (b 36), .ref (b 37), .ref (b 38), .ref (b 39), .ref (b 40), .int 0, .ref (b 42), .ref (b 43), .ref (b 44), .int 0, .ref (b 46), .ref (b 47), .int 0, .ref (b 49)]))] [])) (va_Qv (fun (_ : Unit) => True) (fun (_ : Unit) (t : State) => va_P (dC, dI) vwCl [(b 0, .inr (8, [.ref (b 1), .int 0, .int 0, .int 0, .int 0, .int 0, .int 0, .int 0, .int (-1), .int (-1), .ref (b 11), .ref (b 12), .ref (b 13), .int clk, .int 0, .ref (b 16), .ref (b 17), .ref (b 18), .ref (b 19), .ref (b 20), .ref (b 21), .ref (b 22), .ref (b 23), .ref (b 24), .int 0, .ref (b 26), .ref (b 27), .ref (b 28), .ref (b 29), .ref (b 30), .ref (b 31), .ref (b 32), .int 0, .int 0, .ref (b 35), .ref (b 36), .ref (b 37), .ref (b 38), .ref (b 39), .ref (b 40), .int 0, .ref (b 42), .ref (b 43), .ref (b 44), .int 0, .ref (b 46), .ref (b 47), .int 0, .ref (b 49)]))] t.heap ∧ va_K (dC, dI) vwCl [] t ∧ va_D (va_A [(b 0, .inr (8, [.ref (b 1), .int 0, .int 0, .int 0, .int 0, .int 0, .int 0, .int 0, .int (-1), .int (-1), .ref (b 11), .ref (b 12), .ref (b 13), .int clk, .int 0, .ref (b 16), .ref (b 17), .ref (b 18), .ref (b 19), .ref (b 20), .ref (b 21), .ref (b 22), .ref (b 23), .ref (b 24), .int 0, .ref (b 26), .ref (b 27), .ref (b 28), .ref (b 29), .ref (b 30), .ref (b 31), .ref (b 32), .int 0, .int 0, .ref (b 35), .ref (b 36), .ref (b 37), .ref (b 38), .ref (b 39), .ref (b 40), .int 0, .ref (b 42), .ref (b 43), .ref (b 44), .int 0, .ref (b 46), .ref (b 47), .int 0, .ref (b 49)]))] sz) [(b 0, .inr (8, [.ref (b 1), .int 0, .int 0, .int 0, .int 0, .int 0, .int 0, .int 0, .int (-1), .int (-1), .ref (b 11), .ref (b 12), .ref (b 13), .int clk, .int 0, .ref (b 16), .ref (b 17), .ref (b 18), .ref (b 19), .ref (b 20), .ref (b 21), .ref (b 22), .ref (b 23), .ref (b 24), .int 0, .ref (b 26), .ref (b 27), .ref (b 28), .ref (b 29), .ref (b 30), .ref (b 31), .ref (b 32), .int 0, .int 0, .ref (b 35), .ref (b 36), .ref (b 37), .ref (b 38), .ref (b 39), .ref (b 40), .int 0, .ref (b 42), .ref (b 43), .ref (b 44), .int 0, .ref (b 46), .ref (b 47), .int 0, .ref (b 49)]))]) (va_A [(b 0, .inr (8, [.ref (b 1), .int 0, .int 0, .int 0, .int 0, .int 0, .int 0, .int 0, .int (-1), .int (-1), .ref (b 11), .ref (b 12), .ref (b 13), .int clk, .int 0, .ref (b 16), .ref (b 17), .ref (b 18), .ref (b 19), .ref (b 20), .ref (b 21), .ref (b 22), .ref (b 23), .ref (b 24), .int 0, .ref (b 26), .ref (b 27), .ref (b 28), .ref (b 29), .ref (b 30), .ref (b 31), .ref (b 32), .int 0, .int 0, .ref (b 35), .ref (b 36), .ref (b 37), .ref (b 38), .ref (b 39), .ref (b 40), .int 0, .ref (b 42), .ref (b 43), .ref (b 44), .int 0, .ref (b 46), .ref (b 47), .int 0, .ref (b 49)]))] sz)) 0 0 (va_A [(b 0, .inr (8, [.ref (b 1), .int 0, .int 0, .int 0, .int 0, .int 0, .int 0, .int 0, .int (-1), .int (-1), .ref (b 11), .ref (b 12), .ref (b 13), .int clk, .int 0, .ref (b 16), .ref (b 17), .ref (b 18), .ref (b 19), .ref (b 20), .ref (b 21), .ref (b 22), .ref (b 23), .ref (b 24), .int 0, .ref (b 26), .ref (b 27), .ref (b 28), .ref (b 29), .ref (b 30), .ref (b 31), .ref (b 32), .int 0, .int 0, .ref (b 35), .ref (b 36), .ref (b 37), .ref (b 38), .ref (b 39), .ref (b 40), .int 0, .ref (b 42), .ref (b 43), .ref (b 44), .int 0, .ref (b 46), .ref (b 47), .int 0, .ref (b 49)]))] sz) := by
  refine Met.ofW (cc := cX8_drops) (maxL := 3) (ret := none) (by decide) rfl ?_
  intro p e s m args below meth c s₁ B hml hv
  obtain ⟨rfl, hsz, hP, hK, hD0, hN⟩ := hv
  have hx := B.exec
  have hb := B.bytes
  have hr := B.returns
  have hts := atoms_spec (ws := zz_w yX8_drops cX8_drops 3 none) B.pre
  have hw : ∀ w ∈ zz_all, w.before _ s = true := fun w h => hts w (List.mem_cons_of_mem _ h)
  have hown : s.vm.findClass RX8 = some m.cls := findClass_of_methodNamed B.named
  have hlocks := B.notSynchronized
  subst hsz
  have hD := hD0.self (sz := s.heap.size)
  generalize hAe : va_A [(b 0, .inr (8, [.ref (b 1), .int 0, .int 0, .int 0, .int 0, .int 0, .int 0, .int 0, .int (-1), .int (-1), .ref (b 11), .ref (b 12), .ref (b 13), .int clk, .int 0, .ref (b 16), .ref (b 17), .ref (b 18), .ref (b 19), .ref (b 20), .ref (b 21), .ref (b 22), .ref (b 23), .ref (b 24), .int 0, .ref (b 26), .ref (b 27), .ref (b 28), .ref (b 29), .ref (b 30), .ref (b 31), .ref (b 32), .int 0, .int 0, .ref (b 35), .ref (b 36), .ref (b 37), .ref (b 38), .ref (b 39), .ref (b 40), .int 0, .ref (b 42), .ref (b 43), .ref (b 44), .int 0, .ref (b 46), .ref (b 47), .int 0, .ref (b 49)]))] s.heap.size = A at hD ⊢
  have hA : ∀ q : Nat, s.heap.size ≤ q → A q := fun q h => by rw [← hAe]; exact Or.inr h
  have hS : va_S A s.heap s.heap [] := va_S.rf
  have hP : va_P (dC, dI) vwCl [(b 0, .inr (8, [.ref (b 1), .int 0, .int 0, .int 0, .int 0, .int 0, .int 0, .int 0, .int (-1), .int (-1), .ref (b 11), .ref (b 12), .ref (b 13), .int clk, .int 0, .ref (b 16), .ref (b 17), .ref (b 18), .ref (b 19), .ref (b 20), .ref (b 21), .ref (b 22), .ref (b 23), .ref (b 24), .int 0, .ref (b 26), .ref (b 27), .ref (b 28), .ref (b 29), .ref (b 30), .ref (b 31), .ref (b 32), .int 0, .int 0, .ref (b 35), .ref (b 36), .ref (b 37), .ref (b 38), .ref (b 39), .ref (b 40), .int 0, .ref (b 42), .ref (b 43), .ref (b 44), .int 0, .ref (b 46), .ref (b 47), .int 0, .ref (b 49)]))] s.heap := hP
  have hl := lv_entry ([.ref (b 0)]) (n := 3) (Nat.le_of_ble_eq_true rfl)
  rw [lg_entry_eq]
  generalize (lg_sl ([.ref (b 0)]) ++ List.replicate (3 - (lg_sl ([.ref (b 0)])).length) Slot.unset).toArray = ls at hl ⊢
  have hl : lv_has ls 3 [(0, .ref (b 0))] := hl
  refine lv_iconst (v := 0) hx hb dX8_drops_0 (by decide) ?_
  refine lv_istore_n (lv' := [(1, .int 0), (0, .ref (b 0))]) hx hb dX8_drops_1 rfl hl (by decide) rfl (fun ls hl => ?_)
  refine lv_iconst (v := 0) hx hb dX8_drops_2 (by decide) ?_
  refine lv_istore_n (lv' := [(2, .int 0), (1, .int 0), (0, .ref (b 0))]) hx hb dX8_drops_3 rfl hl (by decide) rfl (fun ls hl => ?_)
  refine lv_iload_n hx hb dX8_drops_4 rfl (lv_at hl 0 rfl) ?_
  refine lv_aload_n hx hb dX8_drops_5 rfl (lv_at hl 2 rfl) ?_
  refine va_get (D := (dC, dI)) (ci := 8) (v := .int 0) (C := RX8) (T := TX8) (N := 49) hx hb hw zz_inX8 hown hK hP 0 rfl rfl 33 (by decide) (hw _ tw_137) (fun _ h9 => h9) rfl dX8_drops_6 ?_
  refine lv_icmp_ge (tgt := 78) hx hb dX8_drops_9 (by decide) (fun _ => ?_) (fun c_9 => absurd c_9 (by decide))
  refine lv_aload_n hx hb dX8_drops_78 rfl (lv_at hl 2 rfl) ?_
  refine lv_iload_n hx hb dX8_drops_79 rfl (lv_at hl 1 rfl) ?_
  refine va_put (D := (dC, dI)) (ci := 8) (v := .int 0) (ty := .int) (C := RX8) (T := TX8) (N := 49) hx hb hw zz_inX8 tyX8 tyX8_ok nmX8 hown hK hP hD hS 0 rfl rfl 33 (by decide) (hw _ tw_137) (fun _ h9 => h9) rfl (by decide +kernel) rfl rfl (Nat.le_of_ble_eq_true rfl) dX8_drops_80 (fun H locs hP hD hS => ?_)
  have hP : va_P (dC, dI) vwCl [(b 0, .inr (8, [.ref (b 1), .int 0, .int 0, .int 0, .int 0, .int 0, .int 0, .int 0, .int (-1), .int (-1), .ref (b 11), .ref (b 12), .ref (b 13), .int clk, .int 0, .ref (b 16), .ref (b 17), .ref (b 18), .ref (b 19), .ref (b 20), .ref (b 21), .ref (b 22), .ref (b 23), .ref (b 24), .int 0, .ref (b 26), .ref (b 27), .ref (b 28), .ref (b 29), .ref (b 30), .ref (b 31), .ref (b 32), .int 0, .int 0, .ref (b 35), .ref (b 36), .ref (b 37), .ref (b 38), .ref (b 39), .ref (b 40), .int 0, .ref (b 42), .ref (b 43), .ref (b 44), .int 0, .ref (b 46), .ref (b 47), .int 0, .ref (b 49)]))] H := hP
  have hD : va_D A [(b 0, .inr (8, [.ref (b 1), .int 0, .int 0, .int 0, .int 0, .int 0, .int 0, .int 0, .int (-1), .int (-1), .ref (b 11), .ref (b 12), .ref (b 13), .int clk, .int 0, .ref (b 16), .ref (b 17), .ref (b 18), .ref (b 19), .ref (b 20), .ref (b 21), .ref (b 22), .ref (b 23), .ref (b 24), .int 0, .ref (b 26), .ref (b 27), .ref (b 28), .ref (b 29), .ref (b 30), .ref (b 31), .ref (b 32), .int 0, .int 0, .ref (b 35), .ref (b 36), .ref (b 37), .ref (b 38), .ref (b 39), .ref (b 40), .int 0, .ref (b 42), .ref (b 43), .ref (b 44), .int 0, .ref (b 46), .ref (b 47), .int 0, .ref (b 49)]))] := hD
  have hP9 := hP.sub (ws' := [(b 0, .inr (8, [.ref (b 1), .int 0, .int 0, .int 0, .int 0, .int 0, .int 0, .int 0, .int (-1), .int (-1), .ref (b 11), .ref (b 12), .ref (b 13), .int clk, .int 0, .ref (b 16), .ref (b 17), .ref (b 18), .ref (b 19), .ref (b 20), .ref (b 21), .ref (b 22), .ref (b 23), .ref (b 24), .int 0, .ref (b 26), .ref (b 27), .ref (b 28), .ref (b 29), .ref (b 30), .ref (b 31), .ref (b 32), .int 0, .int 0, .ref (b 35), .ref (b 36), .ref (b 37), .ref (b 38), .ref (b 39), .ref (b 40), .int 0, .ref (b 42), .ref (b 43), .ref (b 44), .int 0, .ref (b 46), .ref (b 47), .int 0, .ref (b 49)]))]) [0] rfl
  have hD9 := hD.sub (ws' := [(b 0, .inr (8, [.ref (b 1), .int 0, .int 0, .int 0, .int 0, .int 0, .int 0, .int 0, .int (-1), .int (-1), .ref (b 11), .ref (b 12), .ref (b 13), .int clk, .int 0, .ref (b 16), .ref (b 17), .ref (b 18), .ref (b 19), .ref (b 20), .ref (b 21), .ref (b 22), .ref (b 23), .ref (b 24), .int 0, .ref (b 26), .ref (b 27), .ref (b 28), .ref (b 29), .ref (b 30), .ref (b 31), .ref (b 32), .int 0, .int 0, .ref (b 35), .ref (b 36), .ref (b 37), .ref (b 38), .ref (b 39), .ref (b 40), .int 0, .ref (b 42), .ref (b 43), .ref (b 44), .int 0, .ref (b 46), .ref (b 47), .int 0, .ref (b 49)]))]) [0] (by decide) rfl
  have hK9 := hK.sub (tys' := []) [] rfl
  exact W.vret hx hb hr (fun t ht hW => ⟨⟨(), rfl, trivial, by rw [ht]; exact hP9, va_K.moved hW.alike hK9, hD9⟩, hS.F ht⟩) hS.2.2 dX8_drops_83

set_option maxHeartbeats 4000000 in
set_option maxRecDepth 100000 in
theorem m_goes (l : Launch) (dC : Nat → ClassId) (dI : Nat → Nat → Nat) (b : Nat → Nat) (clk : Int32) (sz : Nat) : Met l yX8_goes (zz_w yX8_goes cX8_goes 3 none) ({ frames := 1, cells := 0, slots := 0, locals := 22 }) (va_Pc [.ref (b 0)] (zz_B (dC, dI) sz [(b 0, .inr (8, [.ref (b 1), .int 0, .int 0, .int 0, .int 0, .int 0, .int 0, .int 0, .int (-1), .int (-1), .ref (b 11), .ref (b 12), .ref (b 13), .int clk, .int 0, .ref (b 16), .ref (b 17), .ref (b 18), .ref (b 19), .ref (b 20), .ref (b 21), .ref (b 22), .ref (b 23), .ref (b 24), .int 0, .ref (b 26), .ref (b 27), .ref (b 28), .ref (b 29), .ref (b 30), .ref (b 31), .ref (b 32), .int 0, .int 0, .ref (b 35), .ref (b 36), .ref (b 37), .ref (b 38), .ref (b 39), .ref (b 40), .int 0, .ref (b 42), .ref (b 43), .ref (b 44), .int 0, .ref (b 46), .ref (b 47), .int 0, .ref (b 49)]))] [])) (va_Qv (fun (_ : Unit) => True) (fun (_ : Unit) (t : State) => va_P (dC, dI) vwCl [(b 0, .inr (8, [.ref (b 1), .int 0, .int 0, .int 0, .int 0, .int 0, .int 0, .int 0, .int (-1), .int (-1), .ref (b 11), .ref (b 12), .ref (b 13), .int (clk + 1), .int 0, .ref (b 16), .ref (b 17), .ref (b 18), .ref (b 19), .ref (b 20), .ref (b 21), .ref (b 22), .ref (b 23), .ref (b 24), .int 0, .ref (b 26), .ref (b 27), .ref (b 28), .ref (b 29), .ref (b 30), .ref (b 31), .ref (b 32), .int 0, .int 0, .ref (b 35), .ref (b 36), .ref (b 37), .ref (b 38), .ref (b 39), .ref (b 40), .int 0, .ref (b 42), .ref (b 43), .ref (b 44), .int 0, .ref (b 46), .ref (b 47), .int 0, .ref (b 49)]))] t.heap ∧ va_K (dC, dI) vwCl [] t ∧ va_D (va_A [(b 0, .inr (8, [.ref (b 1), .int 0, .int 0, .int 0, .int 0, .int 0, .int 0, .int 0, .int (-1), .int (-1), .ref (b 11), .ref (b 12), .ref (b 13), .int clk, .int 0, .ref (b 16), .ref (b 17), .ref (b 18), .ref (b 19), .ref (b 20), .ref (b 21), .ref (b 22), .ref (b 23), .ref (b 24), .int 0, .ref (b 26), .ref (b 27), .ref (b 28), .ref (b 29), .ref (b 30), .ref (b 31), .ref (b 32), .int 0, .int 0, .ref (b 35), .ref (b 36), .ref (b 37), .ref (b 38), .ref (b 39), .ref (b 40), .int 0, .ref (b 42), .ref (b 43), .ref (b 44), .int 0, .ref (b 46), .ref (b 47), .int 0, .ref (b 49)]))] sz) [(b 0, .inr (8, [.ref (b 1), .int 0, .int 0, .int 0, .int 0, .int 0, .int 0, .int 0, .int (-1), .int (-1), .ref (b 11), .ref (b 12), .ref (b 13), .int (clk + 1), .int 0, .ref (b 16), .ref (b 17), .ref (b 18), .ref (b 19), .ref (b 20), .ref (b 21), .ref (b 22), .ref (b 23), .ref (b 24), .int 0, .ref (b 26), .ref (b 27), .ref (b 28), .ref (b 29), .ref (b 30), .ref (b 31), .ref (b 32), .int 0, .int 0, .ref (b 35), .ref (b 36), .ref (b 37), .ref (b 38), .ref (b 39), .ref (b 40), .int 0, .ref (b 42), .ref (b 43), .ref (b 44), .int 0, .ref (b 46), .ref (b 47), .int 0, .ref (b 49)]))]) (va_A [(b 0, .inr (8, [.ref (b 1), .int 0, .int 0, .int 0, .int 0, .int 0, .int 0, .int 0, .int (-1), .int (-1), .ref (b 11), .ref (b 12), .ref (b 13), .int clk, .int 0, .ref (b 16), .ref (b 17), .ref (b 18), .ref (b 19), .ref (b 20), .ref (b 21), .ref (b 22), .ref (b 23), .ref (b 24), .int 0, .ref (b 26), .ref (b 27), .ref (b 28), .ref (b 29), .ref (b 30), .ref (b 31), .ref (b 32), .int 0, .int 0, .ref (b 35), .ref (b 36), .ref (b 37), .ref (b 38), .ref (b 39), .ref (b 40), .int 0, .ref (b 42), .ref (b 43), .ref (b 44), .int 0, .ref (b 46), .ref (b 47), .int 0, .ref (b 49)]))] sz)) 0 0 (va_A [(b 0, .inr (8, [.ref (b 1), .int 0, .int 0, .int 0, .int 0, .int 0, .int 0, .int 0, .int (-1), .int (-1), .ref (b 11), .ref (b 12), .ref (b 13), .int clk, .int 0, .ref (b 16), .ref (b 17), .ref (b 18), .ref (b 19), .ref (b 20), .ref (b 21), .ref (b 22), .ref (b 23), .ref (b 24), .int 0, .ref (b 26), .ref (b 27), .ref (b 28), .ref (b 29), .ref (b 30), .ref (b 31), .ref (b 32), .int 0, .int 0, .ref (b 35), .ref (b 36), .ref (b 37), .ref (b 38), .ref (b 39), .ref (b 40), .int 0, .ref (b 42), .ref (b 43), .ref (b 44), .int 0, .ref (b 46), .ref (b 47), .int 0, .ref (b 49)]))] sz) := by
  refine Met.ofW (cc := cX8_goes) (maxL := 3) (ret := none) (by decide) rfl ?_
  intro p e s m args below meth c s₁ B hml hv
  obtain ⟨rfl, hsz, hP, hK, hD0, hN⟩ := hv
  have hx := B.exec
  have hb := B.bytes
  have hr := B.returns
  have hts := atoms_spec (ws := zz_w yX8_goes cX8_goes 3 none) B.pre
  have hw : ∀ w ∈ zz_all, w.before _ s = true := fun w h => hts w (List.mem_cons_of_mem _ h)
  have hown : s.vm.findClass RX8 = some m.cls := findClass_of_methodNamed B.named
  have hlocks := B.notSynchronized
  subst hsz
  have hD := hD0.self (sz := s.heap.size)
  generalize hAe : va_A [(b 0, .inr (8, [.ref (b 1), .int 0, .int 0, .int 0, .int 0, .int 0, .int 0, .int 0, .int (-1), .int (-1), .ref (b 11), .ref (b 12), .ref (b 13), .int clk, .int 0, .ref (b 16), .ref (b 17), .ref (b 18), .ref (b 19), .ref (b 20), .ref (b 21), .ref (b 22), .ref (b 23), .ref (b 24), .int 0, .ref (b 26), .ref (b 27), .ref (b 28), .ref (b 29), .ref (b 30), .ref (b 31), .ref (b 32), .int 0, .int 0, .ref (b 35), .ref (b 36), .ref (b 37), .ref (b 38), .ref (b 39), .ref (b 40), .int 0, .ref (b 42), .ref (b 43), .ref (b 44), .int 0, .ref (b 46), .ref (b 47), .int 0, .ref (b 49)]))] s.heap.size = A at hD ⊢
  have hA : ∀ q : Nat, s.heap.size ≤ q → A q := fun q h => by rw [← hAe]; exact Or.inr h
  have hS : va_S A s.heap s.heap [] := va_S.rf
  have hP : va_P (dC, dI) vwCl [(b 0, .inr (8, [.ref (b 1), .int 0, .int 0, .int 0, .int 0, .int 0, .int 0, .int 0, .int (-1), .int (-1), .ref (b 11), .ref (b 12), .ref (b 13), .int clk, .int 0, .ref (b 16), .ref (b 17), .ref (b 18), .ref (b 19), .ref (b 20), .ref (b 21), .ref (b 22), .ref (b 23), .ref (b 24), .int 0, .ref (b 26), .ref (b 27), .ref (b 28), .ref (b 29), .ref (b 30), .ref (b 31), .ref (b 32), .int 0, .int 0, .ref (b 35), .ref (b 36), .ref (b 37), .ref (b 38), .ref (b 39), .ref (b 40), .int 0, .ref (b 42), .ref (b 43), .ref (b 44), .int 0, .ref (b 46), .ref (b 47), .int 0, .ref (b 49)]))] s.heap := hP
  have hl := lv_entry ([.ref (b 0)]) (n := 3) (Nat.le_of_ble_eq_true rfl)
  rw [lg_entry_eq]
  generalize (lg_sl ([.ref (b 0)]) ++ List.replicate (3 - (lg_sl ([.ref (b 0)])).length) Slot.unset).toArray = ls at hl ⊢
  have hl : lv_has ls 3 [(0, .ref (b 0))] := hl
  refine lv_aload_n hx hb dX8_goes_0 rfl (lv_at hl 0 rfl) ?_
  refine lv_dup hx hb dX8_goes_1 rfl ?_
  refine va_get (D := (dC, dI)) (ci := 8) (v := .int clk) (C := RX8) (T := TX8) (N := 49) hx hb hw zz_inX8 hown hK hP 0 rfl rfl 13 (by decide) (hw _ tw_138) (fun _ h9 => h9) rfl dX8_goes_2 ?_
  refine lv_iconst (v := 1) hx hb dX8_goes_5 (by decide) ?_
  refine lv_iadd hx hb dX8_goes_6 ?_
  refine va_put (D := (dC, dI)) (ci := 8) (v := .int (clk + 1)) (ty := .int) (C := RX8) (T := TX8) (N := 49) hx hb hw zz_inX8 tyX8 tyX8_ok nmX8 hown hK hP hD hS 0 rfl rfl 13 (by decide) (hw _ tw_138) (fun _ h9 => h9) rfl (by decide +kernel) rfl rfl (Nat.le_of_ble_eq_true rfl) dX8_goes_7 (fun H locs hP hD hS => ?_)
  have hP : va_P (dC, dI) vwCl [(b 0, .inr (8, [.ref (b 1), .int 0, .int 0, .int 0, .int 0, .int 0, .int 0, .int 0, .int (-1), .int (-1), .ref (b 11), .ref (b 12), .ref (b 13), .int (clk + 1), .int 0, .ref (b 16), .ref (b 17), .ref (b 18), .ref (b 19), .ref (b 20), .ref (b 21), .ref (b 22), .ref (b 23), .ref (b 24), .int 0, .ref (b 26), .ref (b 27), .ref (b 28), .ref (b 29), .ref (b 30), .ref (b 31), .ref (b 32), .int 0, .int 0, .ref (b 35), .ref (b 36), .ref (b 37), .ref (b 38), .ref (b 39), .ref (b 40), .int 0, .ref (b 42), .ref (b 43), .ref (b 44), .int 0, .ref (b 46), .ref (b 47), .int 0, .ref (b 49)]))] H := hP
  have hD : va_D A [(b 0, .inr (8, [.ref (b 1), .int 0, .int 0, .int 0, .int 0, .int 0, .int 0, .int 0, .int (-1), .int (-1), .ref (b 11), .ref (b 12), .ref (b 13), .int (clk + 1), .int 0, .ref (b 16), .ref (b 17), .ref (b 18), .ref (b 19), .ref (b 20), .ref (b 21), .ref (b 22), .ref (b 23), .ref (b 24), .int 0, .ref (b 26), .ref (b 27), .ref (b 28), .ref (b 29), .ref (b 30), .ref (b 31), .ref (b 32), .int 0, .int 0, .ref (b 35), .ref (b 36), .ref (b 37), .ref (b 38), .ref (b 39), .ref (b 40), .int 0, .ref (b 42), .ref (b 43), .ref (b 44), .int 0, .ref (b 46), .ref (b 47), .int 0, .ref (b 49)]))] := hD
  refine lv_aload_n hx hb dX8_goes_10 rfl (lv_at hl 0 rfl) ?_
  refine lv_iconst (v := 0) hx hb dX8_goes_11 (by decide) ?_
  refine va_put (D := (dC, dI)) (ci := 8) (v := .int 0) (ty := .int) (C := RX8) (T := TX8) (N := 49) hx hb hw zz_inX8 tyX8 tyX8_ok nmX8 hown hK hP hD hS 0 rfl rfl 32 (by decide) (hw _ tw_139) (fun _ h9 => h9) rfl (by decide +kernel) rfl rfl (Nat.le_of_ble_eq_true rfl) dX8_goes_12 (fun H locs hP hD hS => ?_)
  have hP : va_P (dC, dI) vwCl [(b 0, .inr (8, [.ref (b 1), .int 0, .int 0, .int 0, .int 0, .int 0, .int 0, .int 0, .int (-1), .int (-1), .ref (b 11), .ref (b 12), .ref (b 13), .int (clk + 1), .int 0, .ref (b 16), .ref (b 17), .ref (b 18), .ref (b 19), .ref (b 20), .ref (b 21), .ref (b 22), .ref (b 23), .ref (b 24), .int 0, .ref (b 26), .ref (b 27), .ref (b 28), .ref (b 29), .ref (b 30), .ref (b 31), .ref (b 32), .int 0, .int 0, .ref (b 35), .ref (b 36), .ref (b 37), .ref (b 38), .ref (b 39), .ref (b 40), .int 0, .ref (b 42), .ref (b 43), .ref (b 44), .int 0, .ref (b 46), .ref (b 47), .int 0, .ref (b 49)]))] H := hP
  have hD : va_D A [(b 0, .inr (8, [.ref (b 1), .int 0, .int 0, .int 0, .int 0, .int 0, .int 0, .int 0, .int (-1), .int (-1), .ref (b 11), .ref (b 12), .ref (b 13), .int (clk + 1), .int 0, .ref (b 16), .ref (b 17), .ref (b 18), .ref (b 19), .ref (b 20), .ref (b 21), .ref (b 22), .ref (b 23), .ref (b 24), .int 0, .ref (b 26), .ref (b 27), .ref (b 28), .ref (b 29), .ref (b 30), .ref (b 31), .ref (b 32), .int 0, .int 0, .ref (b 35), .ref (b 36), .ref (b 37), .ref (b 38), .ref (b 39), .ref (b 40), .int 0, .ref (b 42), .ref (b 43), .ref (b 44), .int 0, .ref (b 46), .ref (b 47), .int 0, .ref (b 49)]))] := hD
  refine lv_iconst (v := 0) hx hb dX8_goes_15 (by decide) ?_
  refine lv_istore_n (lv' := [(1, .int 0), (0, .ref (b 0))]) hx hb dX8_goes_16 rfl hl (by decide) rfl (fun ls hl => ?_)
  refine lv_iload_n hx hb dX8_goes_17 rfl (lv_at hl 0 rfl) ?_
  refine lv_aload_n hx hb dX8_goes_18 rfl (lv_at hl 1 rfl) ?_
  refine va_get (D := (dC, dI)) (ci := 8) (v := .int 0) (C := RX8) (T := TX8) (N := 49) hx hb hw zz_inX8 hown hK hP 0 rfl rfl 14 (by decide) (hw _ tw_93) (fun _ h9 => h9) rfl dX8_goes_19 ?_
  refine lv_icmp_ge (tgt := 61) hx hb dX8_goes_22 (by decide) (fun _ => ?_) (fun c_9 => absurd c_9 (by decide))
  refine lv_iconst (v := 0) hx hb dX8_goes_61 (by decide) ?_
  refine lv_istore_n (lv' := [(1, .int 0), (0, .ref (b 0))]) hx hb dX8_goes_62 rfl hl (by decide) rfl (fun ls hl => ?_)
  refine lv_iload_n hx hb dX8_goes_63 rfl (lv_at hl 0 rfl) ?_
  refine lv_aload_n hx hb dX8_goes_64 rfl (lv_at hl 1 rfl) ?_
  refine va_get (D := (dC, dI)) (ci := 8) (v := .int 0) (C := RX8) (T := TX8) (N := 49) hx hb hw zz_inX8 hown hK hP 0 rfl rfl 33 (by decide) (hw _ tw_137) (fun _ h9 => h9) rfl dX8_goes_65 ?_
  refine lv_icmp_ge (tgt := 151) hx hb dX8_goes_68 (by decide) (fun _ => ?_) (fun c_9 => absurd c_9 (by decide))
  refine lv_aload_n hx hb dX8_goes_151 rfl (lv_at hl 1 rfl) ?_
  have hPc := hP.sub (ws' := [(b 0, .inr (8, [.ref (b 1), .int 0, .int 0, .int 0, .int 0, .int 0, .int 0, .int 0, .int (-1), .int (-1), .ref (b 11), .ref (b 12), .ref (b 13), .int (clk + 1), .int 0, .ref (b 16), .ref (b 17), .ref (b 18), .ref (b 19), .ref (b 20), .ref (b 21), .ref (b 22), .ref (b 23), .ref (b 24), .int 0, .ref (b 26), .ref (b 27), .ref (b 28), .ref (b 29), .ref (b 30), .ref (b 31), .ref (b 32), .int 0, .int 0, .ref (b 35), .ref (b 36), .ref (b 37), .ref (b 38), .ref (b 39), .ref (b 40), .int 0, .ref (b 42), .ref (b 43), .ref (b 44), .int 0, .ref (b 46), .ref (b 47), .int 0, .ref (b 49)]))]) [0] rfl
  have hDc := hD.sub (ws' := [(b 0, .inr (8, [.ref (b 1), .int 0, .int 0, .int 0, .int 0, .int 0, .int 0, .int 0, .int (-1), .int (-1), .ref (b 11), .ref (b 12), .ref (b 13), .int (clk + 1), .int 0, .ref (b 16), .ref (b 17), .ref (b 18), .ref (b 19), .ref (b 20), .ref (b 21), .ref (b 22), .ref (b 23), .ref (b 24), .int 0, .ref (b 26), .ref (b 27), .ref (b 28), .ref (b 29), .ref (b 30), .ref (b 31), .ref (b 32), .int 0, .int 0, .ref (b 35), .ref (b 36), .ref (b 37), .ref (b 38), .ref (b 39), .ref (b 40), .int 0, .ref (b 42), .ref (b 43), .ref (b 44), .int 0, .ref (b 46), .ref (b 47), .int 0, .ref (b 49)]))]) [0] (by decide) rfl
  have hKc := hK.sub (tys' := []) [] rfl
  have hFc := va_free (wc := [(b 0, .inr (8, [.ref (b 1), .int 0, .int 0, .int 0, .int 0, .int 0, .int 0, .int 0, .int (-1), .int (-1), .ref (b 11), .ref (b 12), .ref (b 13), .int (clk + 1), .int 0, .ref (b 16), .ref (b 17), .ref (b 18), .ref (b 19), .ref (b 20), .ref (b 21), .ref (b 22), .ref (b 23), .ref (b 24), .int 0, .ref (b 26), .ref (b 27), .ref (b 28), .ref (b 29), .ref (b 30), .ref (b 31), .ref (b 32), .int 0, .int 0, .ref (b 35), .ref (b 36), .ref (b 37), .ref (b 38), .ref (b 39), .ref (b 40), .int 0, .ref (b 42), .ref (b 43), .ref (b 44), .int 0, .ref (b 46), .ref (b 47), .int 0, .ref (b 49)]))]) hD hS hA [0] rfl
  refine va_callv (va_runV (As := []) (rest := []) ⟨hx, hb, hml, hown, hw⟩ (m_drops l dC dI b (clk + 1) H.size) ⟨callB_of 0 hw (zz_good tw_140) rfl rfl rfl (hw _ tw_95) (hw _ tw_141) (by decide +kernel) ⟨Nat.le_of_ble_eq_true rfl, Nat.le_of_ble_eq_true rfl⟩, (hw _ tw_142), (hw _ tw_143)⟩ ⟨zz_blind, va_recv hKc hPc (ci := 8) (q0 := 0) rfl rfl, zz_pre hPc hKc hDc hN⟩ rfl rfl hl.1 rfl (lv_room (Nat.le_of_ble_eq_true rfl)) dX8_goes_152 ⟨Nat.le_of_ble_eq_true rfl, Nat.le_of_ble_eq_true rfl⟩) hS (fun q _ h => hFc q h) hFc (fun u_1 t H1 locs ht hvm e_1 hB hz1 hk1 hS => ?_)
  try dsimp only at e_1
  obtain ⟨hP1, hK1, hD1⟩ := hB
  rw [ht] at hP1
  have hK1 := va_K.moved hvm.symm hK1
  try dsimp only at e_1
  obtain ⟨hP, hD⟩ := va_join (wr := []) (w1 := [(b 0, .inr (8, [.ref (b 1), .int 0, .int 0, .int 0, .int 0, .int 0, .int 0, .int 0, .int (-1), .int (-1), .ref (b 11), .ref (b 12), .ref (b 13), .int (clk + 1), .int 0, .ref (b 16), .ref (b 17), .ref (b 18), .ref (b 19), .ref (b 20), .ref (b 21), .ref (b 22), .ref (b 23), .ref (b 24), .int 0, .ref (b 26), .ref (b 27), .ref (b 28), .ref (b 29), .ref (b 30), .ref (b 31), .ref (b 32), .int 0, .int 0, .ref (b 35), .ref (b 36), .ref (b 37), .ref (b 38), .ref (b 39), .ref (b 40), .int 0, .ref (b 42), .ref (b 43), .ref (b 44), .int 0, .ref (b 46), .ref (b 47), .int 0, .ref (b 49)]))]) hP hD [0] [] rfl rfl (by decide) (by decide) hk1 hFc hP1 hD1
  clear hk1 ht hvm
  generalize H1 = H at hP hS ⊢
  have hP : va_P (dC, dI) vwCl [(b 0, .inr (8, [.ref (b 1), .int 0, .int 0, .int 0, .int 0, .int 0, .int 0, .int 0, .int (-1), .int (-1), .ref (b 11), .ref (b 12), .ref (b 13), .int (clk + 1), .int 0, .ref (b 16), .ref (b 17), .ref (b 18), .ref (b 19), .ref (b 20), .ref (b 21), .ref (b 22), .ref (b 23), .ref (b 24), .int 0, .ref (b 26), .ref (b 27), .ref (b 28), .ref (b 29), .ref (b 30), .ref (b 31), .ref (b 32), .int 0, .int 0, .ref (b 35), .ref (b 36), .ref (b 37), .ref (b 38), .ref (b 39), .ref (b 40), .int 0, .ref (b 42), .ref (b 43), .ref (b 44), .int 0, .ref (b 46), .ref (b 47), .int 0, .ref (b 49)]))] H := hP
  have hD : va_D A [(b 0, .inr (8, [.ref (b 1), .int 0, .int 0, .int 0, .int 0, .int 0, .int 0, .int 0, .int (-1), .int (-1), .ref (b 11), .ref (b 12), .ref (b 13), .int (clk + 1), .int 0, .ref (b 16), .ref (b 17), .ref (b 18), .ref (b 19), .ref (b 20), .ref (b 21), .ref (b 22), .ref (b 23), .ref (b 24), .int 0, .ref (b 26), .ref (b 27), .ref (b 28), .ref (b 29), .ref (b 30), .ref (b 31), .ref (b 32), .int 0, .int 0, .ref (b 35), .ref (b 36), .ref (b 37), .ref (b 38), .ref (b 39), .ref (b 40), .int 0, .ref (b 42), .ref (b 43), .ref (b 44), .int 0, .ref (b 46), .ref (b 47), .int 0, .ref (b 49)]))] := hD
  have hP9 := hP.sub (ws' := [(b 0, .inr (8, [.ref (b 1), .int 0, .int 0, .int 0, .int 0, .int 0, .int 0, .int 0, .int (-1), .int (-1), .ref (b 11), .ref (b 12), .ref (b 13), .int (clk + 1), .int 0, .ref (b 16), .ref (b 17), .ref (b 18), .ref (b 19), .ref (b 20), .ref (b 21), .ref (b 22), .ref (b 23), .ref (b 24), .int 0, .ref (b 26), .ref (b 27), .ref (b 28), .ref (b 29), .ref (b 30), .ref (b 31), .ref (b 32), .int 0, .int 0, .ref (b 35), .ref (b 36), .ref (b 37), .ref (b 38), .ref (b 39), .ref (b 40), .int 0, .ref (b 42), .ref (b 43), .ref (b 44), .int 0, .ref (b 46), .ref (b 47), .int 0, .ref (b 49)]))]) [0] rfl
  have hD9 := hD.sub (ws' := [(b 0, .inr (8, [.ref (b 1), .int 0, .int 0, .int 0, .int 0, .int 0, .int 0, .int 0, .int (-1), .int (-1), .ref (b 11), .ref (b 12), .ref (b 13), .int (clk + 1), .int 0, .ref (b 16), .ref (b 17), .ref (b 18), .ref (b 19), .ref (b 20), .ref (b 21), .ref (b 22), .ref (b 23), .ref (b 24), .int 0, .ref (b 26), .ref (b 27), .ref (b 28), .ref (b 29), .ref (b 30), .ref (b 31), .ref (b 32), .int 0, .int 0, .ref (b 35), .ref (b 36), .ref (b 37), .ref (b 38), .ref (b 39), .ref (b 40), .int 0, .ref (b 42), .ref (b 43), .ref (b 44), .int 0, .ref (b 46), .ref (b 47), .int 0, .ref (b 49)]))]) [0] (by decide) rfl
  have hK9 := hK.sub (tys' := []) [] rfl
  exact W.vret hx hb hr (fun t ht hW => ⟨⟨(), rfl, trivial, by rw [ht]; exact hP9, va_K.moved hW.alike hK9, hD9⟩, hS.F ht⟩) hS.2.2 dX8_goes_155

set_option maxHeartbeats 4000000 in
set_option maxRecDepth 100000 in
theorem m_days (l : Launch) (dC : Nat → ClassId) (dI : Nat → Nat → Nat) (b : Nat → Nat) (p0 : Int32) (sz : Nat) : Met l yX8_days (zz_w yX8_days cX8_days 3 (some .int)) ({ frames := 2, cells := 0, slots := 0, locals := 44 }) (va_Pc [.ref (b 0), .int p0] (zz_B (dC, dI) sz [(b 0, .inr (8, [.ref (b 1), .int 0, .int 0, .int 0, .int 0, .int 0, .int 0, .int 0, .int (-1), .int (-1), .ref (b 11), .ref (b 12), .ref (b 13), .int 0, .int 0, .ref (b 16), .ref (b 17), .ref (b 18), .ref (b 19), .ref (b 20), .ref (b 21), .ref (b 22), .ref (b 23), .ref (b 24), .int 0, .ref (b 26), .ref (b 27), .ref (b 28), .ref (b 29), .ref (b 30), .ref (b 31), .ref (b 32), .int 0, .int 0, .ref (b 35), .ref (b 36), .ref (b 37), .ref (b 38), .ref (b 39), .ref (b 40), .int 0, .ref (b 42), .ref (b 43), .ref (b 44), .int 0, .ref (b 46), .ref (b 47), .int 0, .ref (b 49)]))] [])) (va_Qi (fun (r : Int32) (_ : Unit) => r = an_days p0) (fun _ _ => True) (va_A [(b 0, .inr (8, [.ref (b 1), .int 0, .int 0, .int 0, .int 0, .int 0, .int 0, .int 0, .int (-1), .int (-1), .ref (b 11), .ref (b 12), .ref (b 13), .int 0, .int 0, .ref (b 16), .ref (b 17), .ref (b 18), .ref (b 19), .ref (b 20), .ref (b 21), .ref (b 22), .ref (b 23), .ref (b 24), .int 0, .ref (b 26), .ref (b 27), .ref (b 28), .ref (b 29), .ref (b 30), .ref (b 31), .ref (b 32), .int 0, .int 0, .ref (b 35), .ref (b 36), .ref (b 37), .ref (b 38), .ref (b 39), .ref (b 40), .int 0, .ref (b 42), .ref (b 43), .ref (b 44), .int 0, .ref (b 46), .ref (b 47), .int 0, .ref (b 49)]))] sz)) 0 0 (va_A [(b 0, .inr (8, [.ref (b 1), .int 0, .int 0, .int 0, .int 0, .int 0, .int 0, .int 0, .int (-1), .int (-1), .ref (b 11), .ref (b 12), .ref (b 13), .int 0, .int 0, .ref (b 16), .ref (b 17), .ref (b 18), .ref (b 19), .ref (b 20), .ref (b 21), .ref (b 22), .ref (b 23), .ref (b 24), .int 0, .ref (b 26), .ref (b 27), .ref (b 28), .ref (b 29), .ref (b 30), .ref (b 31), .ref (b 32), .int 0, .int 0, .ref (b 35), .ref (b 36), .ref (b 37), .ref (b 38), .ref (b 39), .ref (b 40), .int 0, .ref (b 42), .ref (b 43), .ref (b 44), .int 0, .ref (b 46), .ref (b 47), .int 0, .ref (b 49)]))] sz) := by
  refine Met.ofW (cc := cX8_days) (maxL := 3) (ret := (some .int)) (by decide) rfl ?_
  intro p e s m args below meth c s₁ B hml hv
  obtain ⟨rfl, hsz, hP, hK, hD0, hN⟩ := hv
  have hx := B.exec
  have hb := B.bytes
  have hr := B.returns
  have hts := atoms_spec (ws := zz_w yX8_days cX8_days 3 (some .int)) B.pre
  have hw : ∀ w ∈ zz_all, w.before _ s = true := fun w h => hts w (List.mem_cons_of_mem _ h)
  have hown : s.vm.findClass RX8 = some m.cls := findClass_of_methodNamed B.named
  have hlocks := B.notSynchronized
  subst hsz
  have hD := hD0.self (sz := s.heap.size)
  generalize hAe : va_A [(b 0, .inr (8, [.ref (b 1), .int 0, .int 0, .int 0, .int 0, .int 0, .int 0, .int 0, .int (-1), .int (-1), .ref (b 11), .ref (b 12), .ref (b 13), .int 0, .int 0, .ref (b 16), .ref (b 17), .ref (b 18), .ref (b 19), .ref (b 20), .ref (b 21), .ref (b 22), .ref (b 23), .ref (b 24), .int 0, .ref (b 26), .ref (b 27), .ref (b 28), .ref (b 29), .ref (b 30), .ref (b 31), .ref (b 32), .int 0, .int 0, .ref (b 35), .ref (b 36), .ref (b 37), .ref (b 38), .ref (b 39), .ref (b 40), .int 0, .ref (b 42), .ref (b 43), .ref (b 44), .int 0, .ref (b 46), .ref (b 47), .int 0, .ref (b 49)]))] s.heap.size = A at hD ⊢
  have hA : ∀ q : Nat, s.heap.size ≤ q → A q := fun q h => by rw [← hAe]; exact Or.inr h
  have hS : va_S A s.heap s.heap [] := va_S.rf
  have hP : va_P (dC, dI) vwCl [(b 0, .inr (8, [.ref (b 1), .int 0, .int 0, .int 0, .int 0, .int 0, .int 0, .int 0, .int (-1), .int (-1), .ref (b 11), .ref (b 12), .ref (b 13), .int 0, .int 0, .ref (b 16), .ref (b 17), .ref (b 18), .ref (b 19), .ref (b 20), .ref (b 21), .ref (b 22), .ref (b 23), .ref (b 24), .int 0, .ref (b 26), .ref (b 27), .ref (b 28), .ref (b 29), .ref (b 30), .ref (b 31), .ref (b 32), .int 0, .int 0, .ref (b 35), .ref (b 36), .ref (b 37), .ref (b 38), .ref (b 39), .ref (b 40), .int 0, .ref (b 42), .ref (b 43), .ref (b 44), .int 0, .ref (b 46), .ref (b 47), .int 0, .ref (b 49)]))] s.heap := hP
  have hl := lv_entry ([.ref (b 0), .int p0]) (n := 3) (Nat.le_of_ble_eq_true rfl)
  rw [lg_entry_eq]
  generalize (lg_sl ([.ref (b 0), .int p0]) ++ List.replicate (3 - (lg_sl ([.ref (b 0), .int p0])).length) Slot.unset).toArray = ls at hl ⊢
  have hl : lv_has ls 3 [(0, .ref (b 0)), (1, .int p0)] := hl
  refine lv_iload_n hx hb dX8_days_0 rfl (lv_at hl 1 rfl) ?_
  refine lv_i2l (v := Int32.toInt64 p0) hx hb dX8_days_1 rfl ?_
  refine lv_lconst (v := Int32.toInt64 1) hx hb dX8_days_2 (by decide) ?_
  refine lv_ldc2 (v := 100) hx hb hown (hw _ tw_110) dX8_days_3 ?_
  refine zz_setl (Int32.toInt64 100) (by decide) ?_
  have hPc := hP.sub (ws' := []) [] rfl
  have hDc := hD.sub (ws' := []) [] (by decide) rfl
  have hKc := hK.sub (tys' := []) [] rfl
  have hFc := zz_free0 hS hA
  refine va_calli (va_runS (As := [.long (Int32.toInt64 p0), .long (Int32.toInt64 1), .long (Int32.toInt64 100)]) (rest := []) ⟨hx, hb, hml, hown, hw⟩ (k_in l dC dI p0 1 100 s.heap.size) ⟨callB_of 3 hw (zz_good tw_94) rfl rfl rfl (hw _ tw_95) (hw _ tw_96) (by decide +kernel) ⟨Nat.le_of_ble_eq_true rfl, Nat.le_of_ble_eq_true rfl⟩, (hw _ tw_97)⟩ ⟨zz_blind, zz_pre hPc hKc hDc hN⟩ rfl rfl hl.1 rfl (lv_room (Nat.le_of_ble_eq_true rfl)) dX8_days_6 ⟨Nat.le_of_ble_eq_true rfl, Nat.le_of_ble_eq_true rfl⟩) hS (fun q _ h => hFc q h) hFc (fun r_1 u_1 t H1 locs ht hvm e_1 hB hz1 hk1 hS => ?_)
  try dsimp only at e_1
  have hP := zz_keep hP hk1
  clear hk1 hB ht hvm
  generalize H1 = H at hP hS ⊢
  have hP : va_P (dC, dI) vwCl [(b 0, .inr (8, [.ref (b 1), .int 0, .int 0, .int 0, .int 0, .int 0, .int 0, .int 0, .int (-1), .int (-1), .ref (b 11), .ref (b 12), .ref (b 13), .int 0, .int 0, .ref (b 16), .ref (b 17), .ref (b 18), .ref (b 19), .ref (b 20), .ref (b 21), .ref (b 22), .ref (b 23), .ref (b 24), .int 0, .ref (b 26), .ref (b 27), .ref (b 28), .ref (b 29), .ref (b 30), .ref (b 31), .ref (b 32), .int 0, .int 0, .ref (b 35), .ref (b 36), .ref (b 37), .ref (b 38), .ref (b 39), .ref (b 40), .int 0, .ref (b 42), .ref (b 43), .ref (b 44), .int 0, .ref (b 46), .ref (b 47), .int 0, .ref (b 49)]))] H := hP
  have hD : va_D A [(b 0, .inr (8, [.ref (b 1), .int 0, .int 0, .int 0, .int 0, .int 0, .int 0, .int 0, .int (-1), .int (-1), .ref (b 11), .ref (b 12), .ref (b 13), .int 0, .int 0, .ref (b 16), .ref (b 17), .ref (b 18), .ref (b 19), .ref (b 20), .ref (b 21), .ref (b 22), .ref (b 23), .ref (b 24), .int 0, .ref (b 26), .ref (b 27), .ref (b 28), .ref (b 29), .ref (b 30), .ref (b 31), .ref (b 32), .int 0, .int 0, .ref (b 35), .ref (b 36), .ref (b 37), .ref (b 38), .ref (b 39), .ref (b 40), .int 0, .ref (b 42), .ref (b 43), .ref (b 44), .int 0, .ref (b 46), .ref (b 47), .int 0, .ref (b 49)]))] := hD
  refine lv_if_eq (tgt := 24) hx hb dX8_days_9 (by decide) (fun c_2 => ?_) (fun c_2 => ?_)
  · refine lv_iconst (v := (-1)) hx hb dX8_days_24 (by decide) ?_
    exact W.iret (v := (-1)) hx hb hr (fun t ht hW => ⟨⟨(-1), (), rfl, (by have zc_2 := c_2; rw [e_1, zz_in0, Int32.le_iff_toInt_le, Int32.le_iff_toInt_le] at zc_2; (try rw [show (1 : Int32).toInt = 1 from by decide] at zc_2); (try rw [show (100 : Int32).toInt = 100 from by decide] at zc_2); unfold an_days; first | exact (if_pos (by omega)).symm | exact (if_neg (by omega)).symm), trivial⟩, hS.F ht⟩) hS.2.2 dX8_days_25
  · refine lv_aload_n hx hb dX8_days_12 rfl (lv_at hl 0 rfl) ?_
    refine va_get (D := (dC, dI)) (ci := 8) (v := .int 0) (C := RX8) (T := TX8) (N := 49) hx hb hw zz_inX8 hown hK hP 0 rfl rfl 13 (by decide) (hw _ tw_138) (fun _ h9 => h9) rfl dX8_days_13 ?_
    refine lv_iload_n hx hb dX8_days_16 rfl (lv_at hl 1 rfl) ?_
    refine lv_iadd hx hb dX8_days_17 ?_
    refine zz_seti p0 (Int32.zero_add _) ?_
    refine lv_sipush (v := 400) hx hb dX8_days_18 (by decide) ?_
    refine lv_icmp_le (tgt := 26) hx hb dX8_days_21 (by decide) (fun c_3 => ?_) (fun c_3 => ?_)
    · refine lv_iconst (v := 0) hx hb dX8_days_26 (by decide) ?_
      refine lv_istore_n (lv' := [(2, .int 0), (0, .ref (b 0)), (1, .int p0)]) hx hb dX8_days_27 rfl hl (by decide) rfl (fun ls hl => ?_)
      obtain ⟨N, hNn, eN⟩ := nI_of2 (x := p0) (M := 100) (n := 100) (by decide) (by have zc_2 := c_2; rw [e_1, zz_in0, Int32.le_iff_toInt_le, Int32.le_iff_toInt_le] at zc_2; (try rw [show (1 : Int32).toInt = 1 from by decide] at zc_2); (try rw [show (100 : Int32).toInt = 100 from by decide] at zc_2); have zc_3 := c_3; rw [Int32.le_iff_toInt_le] at zc_3; (try rw [show (400 : Int32).toInt = 400 from by decide] at zc_3); rw [Int32.lt_iff_toInt_lt, show (0 : Int32).toInt = 0 from by decide]; omega) (by have zc_2 := c_2; rw [e_1, zz_in0, Int32.le_iff_toInt_le, Int32.le_iff_toInt_le] at zc_2; (try rw [show (1 : Int32).toInt = 1 from by decide] at zc_2); (try rw [show (100 : Int32).toInt = 100 from by decide] at zc_2); have zc_3 := c_3; rw [Int32.le_iff_toInt_le] at zc_3; (try rw [show (400 : Int32).toInt = 400 from by decide] at zc_3); rw [Int32.le_iff_toInt_le, show (100 : Int32).toInt = 100 from by decide]; omega)
      refine zz_loop (fun j => [(b 0, .inr (8, [.ref (b 1), .int 0, .int 0, .int 0, .int 0, .int 0, .int 0, .int 0, .int (-1), .int (-1), .ref (b 11), .ref (b 12), .ref (b 13), .int (nI j), .int 0, .ref (b 16), .ref (b 17), .ref (b 18), .ref (b 19), .ref (b 20), .ref (b 21), .ref (b 22), .ref (b 23), .ref (b 24), .int 0, .ref (b 26), .ref (b 27), .ref (b 28), .ref (b 29), .ref (b 30), .ref (b 31), .ref (b 32), .int 0, .int 0, .ref (b 35), .ref (b 36), .ref (b 37), .ref (b 38), .ref (b 39), .ref (b 40), .int 0, .ref (b 42), .ref (b 43), .ref (b 44), .int 0, .ref (b 46), .ref (b 47), .int 0, .ref (b 49)]))]) (fun j => [(2, .int (nI j)), (0, .ref (b 0)), (1, .int p0)]) N (fun j hj H locs ls hP hD hS hl ih => ?_) (fun H locs ls hP hD hS hl => ?_) N 0 (Nat.zero_add N) _ _ _ (hP.sub [0] rfl) (hD.sub [0] (by decide) rfl) hS (lv_sub hl [0, 1, 2] rfl)
      · have hP : va_P (dC, dI) vwCl [(b 0, .inr (8, [.ref (b 1), .int 0, .int 0, .int 0, .int 0, .int 0, .int 0, .int 0, .int (-1), .int (-1), .ref (b 11), .ref (b 12), .ref (b 13), .int (nI j), .int 0, .ref (b 16), .ref (b 17), .ref (b 18), .ref (b 19), .ref (b 20), .ref (b 21), .ref (b 22), .ref (b 23), .ref (b 24), .int 0, .ref (b 26), .ref (b 27), .ref (b 28), .ref (b 29), .ref (b 30), .ref (b 31), .ref (b 32), .int 0, .int 0, .ref (b 35), .ref (b 36), .ref (b 37), .ref (b 38), .ref (b 39), .ref (b 40), .int 0, .ref (b 42), .ref (b 43), .ref (b 44), .int 0, .ref (b 46), .ref (b 47), .int 0, .ref (b 49)]))] H := hP
        have hD : va_D A [(b 0, .inr (8, [.ref (b 1), .int 0, .int 0, .int 0, .int 0, .int 0, .int 0, .int 0, .int (-1), .int (-1), .ref (b 11), .ref (b 12), .ref (b 13), .int (nI j), .int 0, .ref (b 16), .ref (b 17), .ref (b 18), .ref (b 19), .ref (b 20), .ref (b 21), .ref (b 22), .ref (b 23), .ref (b 24), .int 0, .ref (b 26), .ref (b 27), .ref (b 28), .ref (b 29), .ref (b 30), .ref (b 31), .ref (b 32), .int 0, .int 0, .ref (b 35), .ref (b 36), .ref (b 37), .ref (b 38), .ref (b 39), .ref (b 40), .int 0, .ref (b 42), .ref (b 43), .ref (b 44), .int 0, .ref (b 46), .ref (b 47), .int 0, .ref (b 49)]))] := hD
        have hl : lv_has ls 3 [(2, .int (nI j)), (0, .ref (b 0)), (1, .int p0)] := hl
        refine lv_iload_n hx hb dX8_days_28 rfl (lv_at hl 0 rfl) ?_
        refine lv_iload_n hx hb dX8_days_29 rfl (lv_at hl 2 rfl) ?_
        refine lv_icmp_ge (tgt := 43) hx hb dX8_days_30 (by decide) (fun c_4 => absurd c_4 (by rw [eN]; exact nI_ge hj (by omega))) (fun _ => ?_)
        refine lv_aload_n hx hb dX8_days_33 rfl (lv_at hl 1 rfl) ?_
        have hPc := hP.sub (ws' := [(b 0, .inr (8, [.ref (b 1), .int 0, .int 0, .int 0, .int 0, .int 0, .int 0, .int 0, .int (-1), .int (-1), .ref (b 11), .ref (b 12), .ref (b 13), .int (nI j), .int 0, .ref (b 16), .ref (b 17), .ref (b 18), .ref (b 19), .ref (b 20), .ref (b 21), .ref (b 22), .ref (b 23), .ref (b 24), .int 0, .ref (b 26), .ref (b 27), .ref (b 28), .ref (b 29), .ref (b 30), .ref (b 31), .ref (b 32), .int 0, .int 0, .ref (b 35), .ref (b 36), .ref (b 37), .ref (b 38), .ref (b 39), .ref (b 40), .int 0, .ref (b 42), .ref (b 43), .ref (b 44), .int 0, .ref (b 46), .ref (b 47), .int 0, .ref (b 49)]))]) [0] rfl
        have hDc := hD.sub (ws' := [(b 0, .inr (8, [.ref (b 1), .int 0, .int 0, .int 0, .int 0, .int 0, .int 0, .int 0, .int (-1), .int (-1), .ref (b 11), .ref (b 12), .ref (b 13), .int (nI j), .int 0, .ref (b 16), .ref (b 17), .ref (b 18), .ref (b 19), .ref (b 20), .ref (b 21), .ref (b 22), .ref (b 23), .ref (b 24), .int 0, .ref (b 26), .ref (b 27), .ref (b 28), .ref (b 29), .ref (b 30), .ref (b 31), .ref (b 32), .int 0, .int 0, .ref (b 35), .ref (b 36), .ref (b 37), .ref (b 38), .ref (b 39), .ref (b 40), .int 0, .ref (b 42), .ref (b 43), .ref (b 44), .int 0, .ref (b 46), .ref (b 47), .int 0, .ref (b 49)]))]) [0] (by decide) rfl
        have hKc := hK.sub (tys' := []) [] rfl
        have hFc := va_free (wc := [(b 0, .inr (8, [.ref (b 1), .int 0, .int 0, .int 0, .int 0, .int 0, .int 0, .int 0, .int (-1), .int (-1), .ref (b 11), .ref (b 12), .ref (b 13), .int (nI j), .int 0, .ref (b 16), .ref (b 17), .ref (b 18), .ref (b 19), .ref (b 20), .ref (b 21), .ref (b 22), .ref (b 23), .ref (b 24), .int 0, .ref (b 26), .ref (b 27), .ref (b 28), .ref (b 29), .ref (b 30), .ref (b 31), .ref (b 32), .int 0, .int 0, .ref (b 35), .ref (b 36), .ref (b 37), .ref (b 38), .ref (b 39), .ref (b 40), .int 0, .ref (b 42), .ref (b 43), .ref (b 44), .int 0, .ref (b 46), .ref (b 47), .int 0, .ref (b 49)]))]) hD hS hA [0] rfl
        refine va_callv (va_runV (As := []) (rest := []) ⟨hx, hb, hml, hown, hw⟩ (m_goes l dC dI b (nI j) H.size) ⟨callB_of 0 hw (zz_good tw_144) rfl rfl rfl (hw _ tw_95) (hw _ tw_145) (by decide +kernel) ⟨Nat.le_of_ble_eq_true rfl, Nat.le_of_ble_eq_true rfl⟩, (hw _ tw_146), (hw _ tw_147)⟩ ⟨zz_blind, va_recv hKc hPc (ci := 8) (q0 := 0) rfl rfl, zz_pre hPc hKc hDc hN⟩ rfl rfl hl.1 rfl (lv_room (Nat.le_of_ble_eq_true rfl)) dX8_days_34 ⟨Nat.le_of_ble_eq_true rfl, Nat.le_of_ble_eq_true rfl⟩) hS (fun q _ h => hFc q h) hFc (fun u_5 t H1 locs ht hvm e_5 hB hz1 hk1 hS => ?_)
        try dsimp only at e_5
        obtain ⟨hP1, hK1, hD1⟩ := hB
        rw [ht] at hP1
        have hK1 := va_K.moved hvm.symm hK1
        try dsimp only at e_5
        obtain ⟨hP, hD⟩ := va_join (wr := []) (w1 := [(b 0, .inr (8, [.ref (b 1), .int 0, .int 0, .int 0, .int 0, .int 0, .int 0, .int 0, .int (-1), .int (-1), .ref (b 11), .ref (b 12), .ref (b 13), .int ((nI j) + 1), .int 0, .ref (b 16), .ref (b 17), .ref (b 18), .ref (b 19), .ref (b 20), .ref (b 21), .ref (b 22), .ref (b 23), .ref (b 24), .int 0, .ref (b 26), .ref (b 27), .ref (b 28), .ref (b 29), .ref (b 30), .ref (b 31), .ref (b 32), .int 0, .int 0, .ref (b 35), .ref (b 36), .ref (b 37), .ref (b 38), .ref (b 39), .ref (b 40), .int 0, .ref (b 42), .ref (b 43), .ref (b 44), .int 0, .ref (b 46), .ref (b 47), .int 0, .ref (b 49)]))]) hP hD [0] [] rfl rfl (by decide) (by decide) hk1 hFc hP1 hD1
        clear hk1 ht hvm
        generalize H1 = H at hP hS ⊢
        have hP : va_P (dC, dI) vwCl [(b 0, .inr (8, [.ref (b 1), .int 0, .int 0, .int 0, .int 0, .int 0, .int 0, .int 0, .int (-1), .int (-1), .ref (b 11), .ref (b 12), .ref (b 13), .int ((nI j) + 1), .int 0, .ref (b 16), .ref (b 17), .ref (b 18), .ref (b 19), .ref (b 20), .ref (b 21), .ref (b 22), .ref (b 23), .ref (b 24), .int 0, .ref (b 26), .ref (b 27), .ref (b 28), .ref (b 29), .ref (b 30), .ref (b 31), .ref (b 32), .int 0, .int 0, .ref (b 35), .ref (b 36), .ref (b 37), .ref (b 38), .ref (b 39), .ref (b 40), .int 0, .ref (b 42), .ref (b 43), .ref (b 44), .int 0, .ref (b 46), .ref (b 47), .int 0, .ref (b 49)]))] H := hP
        have hD : va_D A [(b 0, .inr (8, [.ref (b 1), .int 0, .int 0, .int 0, .int 0, .int 0, .int 0, .int 0, .int (-1), .int (-1), .ref (b 11), .ref (b 12), .ref (b 13), .int ((nI j) + 1), .int 0, .ref (b 16), .ref (b 17), .ref (b 18), .ref (b 19), .ref (b 20), .ref (b 21), .ref (b 22), .ref (b 23), .ref (b 24), .int 0, .ref (b 26), .ref (b 27), .ref (b 28), .ref (b 29), .ref (b 30), .ref (b 31), .ref (b 32), .int 0, .int 0, .ref (b 35), .ref (b 36), .ref (b 37), .ref (b 38), .ref (b 39), .ref (b 40), .int 0, .ref (b 42), .ref (b 43), .ref (b 44), .int 0, .ref (b 46), .ref (b 47), .int 0, .ref (b 49)]))] := hD
        refine lv_iinc (v := ((nI j) + 1)) (lv' := [(2, .int ((nI j) + 1)), (0, .ref (b 0)), (1, .int p0)]) hx hb dX8_days_37 hl (k := 0) rfl rfl (by decide) rfl (fun ls hl => ?_)
        refine lv_goto (tgt := 28) hx hb dX8_days_40 (by decide) ?_
        rw [nI_1] at hP hD hl
        exact ih _ _ _ (hP.sub [0] rfl) (hD.sub [0] (by decide) rfl) hS (lv_sub hl [0, 1, 2] rfl)
      · have hP : va_P (dC, dI) vwCl [(b 0, .inr (8, [.ref (b 1), .int 0, .int 0, .int 0, .int 0, .int 0, .int 0, .int 0, .int (-1), .int (-1), .ref (b 11), .ref (b 12), .ref (b 13), .int (nI N), .int 0, .ref (b 16), .ref (b 17), .ref (b 18), .ref (b 19), .ref (b 20), .ref (b 21), .ref (b 22), .ref (b 23), .ref (b 24), .int 0, .ref (b 26), .ref (b 27), .ref (b 28), .ref (b 29), .ref (b 30), .ref (b 31), .ref (b 32), .int 0, .int 0, .ref (b 35), .ref (b 36), .ref (b 37), .ref (b 38), .ref (b 39), .ref (b 40), .int 0, .ref (b 42), .ref (b 43), .ref (b 44), .int 0, .ref (b 46), .ref (b 47), .int 0, .ref (b 49)]))] H := hP
        have hD : va_D A [(b 0, .inr (8, [.ref (b 1), .int 0, .int 0, .int 0, .int 0, .int 0, .int 0, .int 0, .int (-1), .int (-1), .ref (b 11), .ref (b 12), .ref (b 13), .int (nI N), .int 0, .ref (b 16), .ref (b 17), .ref (b 18), .ref (b 19), .ref (b 20), .ref (b 21), .ref (b 22), .ref (b 23), .ref (b 24), .int 0, .ref (b 26), .ref (b 27), .ref (b 28), .ref (b 29), .ref (b 30), .ref (b 31), .ref (b 32), .int 0, .int 0, .ref (b 35), .ref (b 36), .ref (b 37), .ref (b 38), .ref (b 39), .ref (b 40), .int 0, .ref (b 42), .ref (b 43), .ref (b 44), .int 0, .ref (b 46), .ref (b 47), .int 0, .ref (b 49)]))] := hD
        have hl : lv_has ls 3 [(2, .int (nI N)), (0, .ref (b 0)), (1, .int p0)] := hl
        refine lv_iload_n hx hb dX8_days_28 rfl (lv_at hl 0 rfl) ?_
        refine lv_iload_n hx hb dX8_days_29 rfl (lv_at hl 2 rfl) ?_
        refine lv_icmp_ge (tgt := 43) hx hb dX8_days_30 (by decide) (fun _ => ?_) (fun c_6 => absurd c_6 (by rw [eN]; exact fun z9 => z9 (Int32.le_refl _)))
        refine lv_aload_n hx hb dX8_days_43 rfl (lv_at hl 1 rfl) ?_
        refine va_get (D := (dC, dI)) (ci := 8) (v := .int (nI N)) (C := RX8) (T := TX8) (N := 49) hx hb hw zz_inX8 hown hK hP 0 rfl rfl 13 (by decide) (hw _ tw_138) (fun _ h9 => h9) rfl dX8_days_44 ?_
        exact W.iret (v := (nI N)) hx hb hr (fun t ht hW => ⟨⟨(nI N), (), rfl, (by have zc_2 := c_2; rw [e_1, zz_in0, Int32.le_iff_toInt_le, Int32.le_iff_toInt_le] at zc_2; (try rw [show (1 : Int32).toInt = 1 from by decide] at zc_2); (try rw [show (100 : Int32).toInt = 100 from by decide] at zc_2); have zc_3 := c_3; rw [Int32.le_iff_toInt_le] at zc_3; (try rw [show (400 : Int32).toInt = 400 from by decide] at zc_3); unfold an_days; rw [if_pos (by omega)]; exact eN.symm), trivial⟩, hS.F ht⟩) hS.2.2 dX8_days_47
    · refine lv_iconst (v := (-1)) hx hb dX8_days_24 (by decide) ?_
      exact W.iret (v := (-1)) hx hb hr (fun t ht hW => ⟨⟨(-1), (), rfl, (by have zc_2 := c_2; rw [e_1, zz_in0, Int32.le_iff_toInt_le, Int32.le_iff_toInt_le] at zc_2; (try rw [show (1 : Int32).toInt = 1 from by decide] at zc_2); (try rw [show (100 : Int32).toInt = 100 from by decide] at zc_2); have zc_3 := c_3; rw [Int32.le_iff_toInt_le] at zc_3; (try rw [show (400 : Int32).toInt = 400 from by decide] at zc_3); unfold an_days; first | exact (if_pos (by omega)).symm | exact (if_neg (by omega)).symm), trivial⟩, hS.F ht⟩) hS.2.2 dX8_days_25

set_option maxHeartbeats 4000000 in
set_option maxRecDepth 100000 in
theorem m_houseOf (l : Launch) (dC : Nat → ClassId) (dI : Nat → Nat → Nat) (b : Nat → Nat) (p0 : Int32) (p1 : Int32) (sz : Nat) : Met l yX8_houseOf (zz_w yX8_houseOf cX8_houseOf 5 (some .int)) ({ frames := 2, cells := 0, slots := 0, locals := 46 }) (va_Pc [.ref (b 0), .int p0, .int p1] (zz_B (dC, dI) sz [(b 0, .inr (8, [.ref (b 1), .int 0, .int 0, .int 0, .int 0, .int 0, .int 0, .int 0, .int (-1), .int (-1), .ref (b 11), .ref (b 12), .ref (b 13), .int 0, .int 0, .ref (b 16), .ref (b 17), .ref (b 18), .ref (b 19), .ref (b 20), .ref (b 21), .ref (b 22), .ref (b 23), .ref (b 24), .int 0, .ref (b 26), .ref (b 27), .ref (b 28), .ref (b 29), .ref (b 30), .ref (b 31), .ref (b 32), .int 0, .int 0, .ref (b 35), .ref (b 36), .ref (b 37), .ref (b 38), .ref (b 39), .ref (b 40), .int 0, .ref (b 42), .ref (b 43), .ref (b 44), .int 0, .ref (b 46), .ref (b 47), .int 0, .ref (b 49)]))] [])) (va_Qi (fun (r : Int32) (_ : Unit) => r = (-1000000)) (fun _ _ => True) (va_A [] sz)) 0 0 (va_A [] sz) := by
  refine Met.ofW (cc := cX8_houseOf) (maxL := 5) (ret := (some .int)) (by decide) rfl ?_
  intro p e s m args below meth c s₁ B hml hv
  obtain ⟨rfl, hsz, hP, hK, hD0, hN⟩ := hv
  have hx := B.exec
  have hb := B.bytes
  have hr := B.returns
  have hts := atoms_spec (ws := zz_w yX8_houseOf cX8_houseOf 5 (some .int)) B.pre
  have hw : ∀ w ∈ zz_all, w.before _ s = true := fun w h => hts w (List.mem_cons_of_mem _ h)
  have hown : s.vm.findClass RX8 = some m.cls := findClass_of_methodNamed B.named
  have hlocks := B.notSynchronized
  subst hsz
  have hD := hD0
  generalize hAe : va_A [] s.heap.size = A
  have hA : ∀ q : Nat, s.heap.size ≤ q → A q := fun q h => by rw [← hAe]; exact Or.inr h
  have hS : va_S A s.heap s.heap [] := va_S.rf
  have hP : va_P (dC, dI) vwCl [(b 0, .inr (8, [.ref (b 1), .int 0, .int 0, .int 0, .int 0, .int 0, .int 0, .int 0, .int (-1), .int (-1), .ref (b 11), .ref (b 12), .ref (b 13), .int 0, .int 0, .ref (b 16), .ref (b 17), .ref (b 18), .ref (b 19), .ref (b 20), .ref (b 21), .ref (b 22), .ref (b 23), .ref (b 24), .int 0, .ref (b 26), .ref (b 27), .ref (b 28), .ref (b 29), .ref (b 30), .ref (b 31), .ref (b 32), .int 0, .int 0, .ref (b 35), .ref (b 36), .ref (b 37), .ref (b 38), .ref (b 39), .ref (b 40), .int 0, .ref (b 42), .ref (b 43), .ref (b 44), .int 0, .ref (b 46), .ref (b 47), .int 0, .ref (b 49)]))] s.heap := hP
  have hl := lv_entry ([.ref (b 0), .int p0, .int p1]) (n := 5) (Nat.le_of_ble_eq_true rfl)
  rw [lg_entry_eq]
  generalize (lg_sl ([.ref (b 0), .int p0, .int p1]) ++ List.replicate (5 - (lg_sl ([.ref (b 0), .int p0, .int p1])).length) Slot.unset).toArray = ls at hl ⊢
  have hl : lv_has ls 5 [(0, .ref (b 0)), (1, .int p0), (2, .int p1)] := hl
  refine lv_aload_n hx hb dX8_houseOf_0 rfl (lv_at hl 0 rfl) ?_
  refine lv_iload_n hx hb dX8_houseOf_1 rfl (lv_at hl 1 rfl) ?_
  have hPc := hP.sub (ws' := [(b 0, .inr (8, [.ref (b 1), .int 0, .int 0, .int 0, .int 0, .int 0, .int 0, .int 0, .int (-1), .int (-1), .ref (b 11), .ref (b 12), .ref (b 13), .int 0, .int 0, .ref (b 16), .ref (b 17), .ref (b 18), .ref (b 19), .ref (b 20), .ref (b 21), .ref (b 22), .ref (b 23), .ref (b 24), .int 0, .ref (b 26), .ref (b 27), .ref (b 28), .ref (b 29), .ref (b 30), .ref (b 31), .ref (b 32), .int 0, .int 0, .ref (b 35), .ref (b 36), .ref (b 37), .ref (b 38), .ref (b 39), .ref (b 40), .int 0, .ref (b 42), .ref (b 43), .ref (b 44), .int 0, .ref (b 46), .ref (b 47), .int 0, .ref (b 49)]))]) [0] rfl
  have hDc := hD.sub (ws' := [(b 0, .inr (8, [.ref (b 1), .int 0, .int 0, .int 0, .int 0, .int 0, .int 0, .int 0, .int (-1), .int (-1), .ref (b 11), .ref (b 12), .ref (b 13), .int 0, .int 0, .ref (b 16), .ref (b 17), .ref (b 18), .ref (b 19), .ref (b 20), .ref (b 21), .ref (b 22), .ref (b 23), .ref (b 24), .int 0, .ref (b 26), .ref (b 27), .ref (b 28), .ref (b 29), .ref (b 30), .ref (b 31), .ref (b 32), .int 0, .int 0, .ref (b 35), .ref (b 36), .ref (b 37), .ref (b 38), .ref (b 39), .ref (b 40), .int 0, .ref (b 42), .ref (b 43), .ref (b 44), .int 0, .ref (b 46), .ref (b 47), .int 0, .ref (b 49)]))]) [0] (by decide) rfl
  have hKc := hK.sub (tys' := []) [] rfl
  have hFc := zz_free0 hS hA
  refine va_calli (va_runV (As := [.int p0]) (rest := []) ⟨hx, hb, hml, hown, hw⟩ (m_isHouse l dC dI b p0 s.heap.size) ⟨callB_of 1 hw (zz_good tw_106) rfl rfl rfl (hw _ tw_95) (hw _ tw_107) (by decide +kernel) ⟨Nat.le_of_ble_eq_true rfl, Nat.le_of_ble_eq_true rfl⟩, (hw _ tw_108), (hw _ tw_109)⟩ ⟨zz_blind, va_recv hKc hPc (ci := 8) (q0 := 0) rfl rfl, zz_pre hPc hKc hDc hN⟩ rfl rfl hl.1 rfl (lv_room (Nat.le_of_ble_eq_true rfl)) dX8_houseOf_2 ⟨Nat.le_of_ble_eq_true rfl, Nat.le_of_ble_eq_true rfl⟩) hS (fun q _ h => hFc q h) hFc (fun r_1 u_1 t H1 locs ht hvm e_1 hB hz1 hk1 hS => ?_)
  try dsimp only at e_1
  have hP := zz_keep hP hk1
  clear hk1 hB ht hvm
  generalize H1 = H at hP hS ⊢
  have hP : va_P (dC, dI) vwCl [(b 0, .inr (8, [.ref (b 1), .int 0, .int 0, .int 0, .int 0, .int 0, .int 0, .int 0, .int (-1), .int (-1), .ref (b 11), .ref (b 12), .ref (b 13), .int 0, .int 0, .ref (b 16), .ref (b 17), .ref (b 18), .ref (b 19), .ref (b 20), .ref (b 21), .ref (b 22), .ref (b 23), .ref (b 24), .int 0, .ref (b 26), .ref (b 27), .ref (b 28), .ref (b 29), .ref (b 30), .ref (b 31), .ref (b 32), .int 0, .int 0, .ref (b 35), .ref (b 36), .ref (b 37), .ref (b 38), .ref (b 39), .ref (b 40), .int 0, .ref (b 42), .ref (b 43), .ref (b 44), .int 0, .ref (b 46), .ref (b 47), .int 0, .ref (b 49)]))] H := hP
  have hD : va_D (fun _ => True) [(b 0, .inr (8, [.ref (b 1), .int 0, .int 0, .int 0, .int 0, .int 0, .int 0, .int 0, .int (-1), .int (-1), .ref (b 11), .ref (b 12), .ref (b 13), .int 0, .int 0, .ref (b 16), .ref (b 17), .ref (b 18), .ref (b 19), .ref (b 20), .ref (b 21), .ref (b 22), .ref (b 23), .ref (b 24), .int 0, .ref (b 26), .ref (b 27), .ref (b 28), .ref (b 29), .ref (b 30), .ref (b 31), .ref (b 32), .int 0, .int 0, .ref (b 35), .ref (b 36), .ref (b 37), .ref (b 38), .ref (b 39), .ref (b 40), .int 0, .ref (b 42), .ref (b 43), .ref (b 44), .int 0, .ref (b 46), .ref (b 47), .int 0, .ref (b 49)]))] := hD
  refine zz_seti 0 e_1 ?_
  refine lv_if_ne (tgt := 12) hx hb dX8_houseOf_5 (by decide) (fun c_9 => absurd c_9 (by decide)) (fun _ => ?_)
  refine lv_ldcw (v := (-1000000)) hx hb hown (hw _ tw_148) dX8_houseOf_8 ?_
  exact W.iret (v := (-1000000)) hx hb hr (fun t ht hW => ⟨⟨(-1000000), (), rfl, rfl, trivial⟩, hS.F ht⟩) hS.2.2 dX8_houseOf_11

set_option maxHeartbeats 4000000 in
set_option maxRecDepth 100000 in
theorem m_fieldOf (l : Launch) (dC : Nat → ClassId) (dI : Nat → Nat → Nat) (b : Nat → Nat) (p0 : Int32) (p1 : Int32) (sz : Nat) : Met l yX8_fieldOf (zz_w yX8_fieldOf cX8_fieldOf 3 (some .int)) ({ frames := 2, cells := 0, slots := 0, locals := 46 }) (va_Pc [.ref (b 0), .int p0, .int p1] (zz_B (dC, dI) sz [(b 0, .inr (8, [.ref (b 1), .int 0, .int 0, .int 0, .int 0, .int 0, .int 0, .int 0, .int (-1), .int (-1), .ref (b 11), .ref (b 12), .ref (b 13), .int 0, .int 0, .ref (b 16), .ref (b 17), .ref (b 18), .ref (b 19), .ref (b 20), .ref (b 21), .ref (b 22), .ref (b 23), .ref (b 24), .int 0, .ref (b 26), .ref (b 27), .ref (b 28), .ref (b 29), .ref (b 30), .ref (b 31), .ref (b 32), .int 0, .int 0, .ref (b 35), .ref (b 36), .ref (b 37), .ref (b 38), .ref (b 39), .ref (b 40), .int 0, .ref (b 42), .ref (b 43), .ref (b 44), .int 0, .ref (b 46), .ref (b 47), .int 0, .ref (b 49)]))] [])) (va_Qi (fun (r : Int32) (_ : Unit) => r = -1) (fun _ _ => True) (va_A [] sz)) 0 0 (va_A [] sz) := by
  refine Met.ofW (cc := cX8_fieldOf) (maxL := 3) (ret := (some .int)) (by decide) rfl ?_
  intro p e s m args below meth c s₁ B hml hv
  obtain ⟨rfl, hsz, hP, hK, hD0, hN⟩ := hv
  have hx := B.exec
  have hb := B.bytes
  have hr := B.returns
  have hts := atoms_spec (ws := zz_w yX8_fieldOf cX8_fieldOf 3 (some .int)) B.pre
  have hw : ∀ w ∈ zz_all, w.before _ s = true := fun w h => hts w (List.mem_cons_of_mem _ h)
  have hown : s.vm.findClass RX8 = some m.cls := findClass_of_methodNamed B.named
  have hlocks := B.notSynchronized
  subst hsz
  have hD := hD0
  generalize hAe : va_A [] s.heap.size = A
  have hA : ∀ q : Nat, s.heap.size ≤ q → A q := fun q h => by rw [← hAe]; exact Or.inr h
  have hS : va_S A s.heap s.heap [] := va_S.rf
  have hP : va_P (dC, dI) vwCl [(b 0, .inr (8, [.ref (b 1), .int 0, .int 0, .int 0, .int 0, .int 0, .int 0, .int 0, .int (-1), .int (-1), .ref (b 11), .ref (b 12), .ref (b 13), .int 0, .int 0, .ref (b 16), .ref (b 17), .ref (b 18), .ref (b 19), .ref (b 20), .ref (b 21), .ref (b 22), .ref (b 23), .ref (b 24), .int 0, .ref (b 26), .ref (b 27), .ref (b 28), .ref (b 29), .ref (b 30), .ref (b 31), .ref (b 32), .int 0, .int 0, .ref (b 35), .ref (b 36), .ref (b 37), .ref (b 38), .ref (b 39), .ref (b 40), .int 0, .ref (b 42), .ref (b 43), .ref (b 44), .int 0, .ref (b 46), .ref (b 47), .int 0, .ref (b 49)]))] s.heap := hP
  have hl := lv_entry ([.ref (b 0), .int p0, .int p1]) (n := 3) (Nat.le_of_ble_eq_true rfl)
  rw [lg_entry_eq]
  generalize (lg_sl ([.ref (b 0), .int p0, .int p1]) ++ List.replicate (3 - (lg_sl ([.ref (b 0), .int p0, .int p1])).length) Slot.unset).toArray = ls at hl ⊢
  have hl : lv_has ls 3 [(0, .ref (b 0)), (1, .int p0), (2, .int p1)] := hl
  refine lv_aload_n hx hb dX8_fieldOf_0 rfl (lv_at hl 0 rfl) ?_
  refine lv_iload_n hx hb dX8_fieldOf_1 rfl (lv_at hl 1 rfl) ?_
  have hPc := hP.sub (ws' := [(b 0, .inr (8, [.ref (b 1), .int 0, .int 0, .int 0, .int 0, .int 0, .int 0, .int 0, .int (-1), .int (-1), .ref (b 11), .ref (b 12), .ref (b 13), .int 0, .int 0, .ref (b 16), .ref (b 17), .ref (b 18), .ref (b 19), .ref (b 20), .ref (b 21), .ref (b 22), .ref (b 23), .ref (b 24), .int 0, .ref (b 26), .ref (b 27), .ref (b 28), .ref (b 29), .ref (b 30), .ref (b 31), .ref (b 32), .int 0, .int 0, .ref (b 35), .ref (b 36), .ref (b 37), .ref (b 38), .ref (b 39), .ref (b 40), .int 0, .ref (b 42), .ref (b 43), .ref (b 44), .int 0, .ref (b 46), .ref (b 47), .int 0, .ref (b 49)]))]) [0] rfl
  have hDc := hD.sub (ws' := [(b 0, .inr (8, [.ref (b 1), .int 0, .int 0, .int 0, .int 0, .int 0, .int 0, .int 0, .int (-1), .int (-1), .ref (b 11), .ref (b 12), .ref (b 13), .int 0, .int 0, .ref (b 16), .ref (b 17), .ref (b 18), .ref (b 19), .ref (b 20), .ref (b 21), .ref (b 22), .ref (b 23), .ref (b 24), .int 0, .ref (b 26), .ref (b 27), .ref (b 28), .ref (b 29), .ref (b 30), .ref (b 31), .ref (b 32), .int 0, .int 0, .ref (b 35), .ref (b 36), .ref (b 37), .ref (b 38), .ref (b 39), .ref (b 40), .int 0, .ref (b 42), .ref (b 43), .ref (b 44), .int 0, .ref (b 46), .ref (b 47), .int 0, .ref (b 49)]))]) [0] (by decide) rfl
  have hKc := hK.sub (tys' := []) [] rfl
  have hFc := zz_free0 hS hA
  refine va_calli (va_runV (As := [.int p0]) (rest := []) ⟨hx, hb, hml, hown, hw⟩ (m_isField l dC dI b p0 s.heap.size) ⟨callB_of 1 hw (zz_good tw_99) rfl rfl rfl (hw _ tw_95) (hw _ tw_100) (by decide +kernel) ⟨Nat.le_of_ble_eq_true rfl, Nat.le_of_ble_eq_true rfl⟩, (hw _ tw_101), (hw _ tw_102)⟩ ⟨zz_blind, va_recv hKc hPc (ci := 8) (q0 := 0) rfl rfl, zz_pre hPc hKc hDc hN⟩ rfl rfl hl.1 rfl (lv_room (Nat.le_of_ble_eq_true rfl)) dX8_fieldOf_2 ⟨Nat.le_of_ble_eq_true rfl, Nat.le_of_ble_eq_true rfl⟩) hS (fun q _ h => hFc q h) hFc (fun r_1 u_1 t H1 locs ht hvm e_1 hB hz1 hk1 hS => ?_)
  try dsimp only at e_1
  have hP := zz_keep hP hk1
  clear hk1 hB ht hvm
  generalize H1 = H at hP hS ⊢
  have hP : va_P (dC, dI) vwCl [(b 0, .inr (8, [.ref (b 1), .int 0, .int 0, .int 0, .int 0, .int 0, .int 0, .int 0, .int (-1), .int (-1), .ref (b 11), .ref (b 12), .ref (b 13), .int 0, .int 0, .ref (b 16), .ref (b 17), .ref (b 18), .ref (b 19), .ref (b 20), .ref (b 21), .ref (b 22), .ref (b 23), .ref (b 24), .int 0, .ref (b 26), .ref (b 27), .ref (b 28), .ref (b 29), .ref (b 30), .ref (b 31), .ref (b 32), .int 0, .int 0, .ref (b 35), .ref (b 36), .ref (b 37), .ref (b 38), .ref (b 39), .ref (b 40), .int 0, .ref (b 42), .ref (b 43), .ref (b 44), .int 0, .ref (b 46), .ref (b 47), .int 0, .ref (b 49)]))] H := hP
  have hD : va_D (fun _ => True) [(b 0, .inr (8, [.ref (b 1), .int 0, .int 0, .int 0, .int 0, .int 0, .int 0, .int 0, .int (-1), .int (-1), .ref (b 11), .ref (b 12), .ref (b 13), .int 0, .int 0, .ref (b 16), .ref (b 17), .ref (b 18), .ref (b 19), .ref (b 20), .ref (b 21), .ref (b 22), .ref (b 23), .ref (b 24), .int 0, .ref (b 26), .ref (b 27), .ref (b 28), .ref (b 29), .ref (b 30), .ref (b 31), .ref (b 32), .int 0, .int 0, .ref (b 35), .ref (b 36), .ref (b 37), .ref (b 38), .ref (b 39), .ref (b 40), .int 0, .ref (b 42), .ref (b 43), .ref (b 44), .int 0, .ref (b 46), .ref (b 47), .int 0, .ref (b 49)]))] := hD
  refine zz_seti 0 e_1 ?_
  refine lv_if_ne (tgt := 10) hx hb dX8_fieldOf_5 (by decide) (fun c_9 => absurd c_9 (by decide)) (fun _ => ?_)
  refine lv_iconst (v := (-1)) hx hb dX8_fieldOf_8 (by decide) ?_
  exact W.iret (v := (-1)) hx hb hr (fun t ht hW => ⟨⟨(-1), (), rfl, rfl, trivial⟩, hS.F ht⟩) hS.2.2 dX8_fieldOf_9

set_option maxHeartbeats 4000000 in
set_option maxRecDepth 100000 in
theorem m_owes (l : Launch) (dC : Nat → ClassId) (dI : Nat → Nat → Nat) (b : Nat → Nat) (p0 : Int32) (p1 : Int32) (sz : Nat) : Met l yX8_owes (zz_w yX8_owes cX8_owes 3 (some .int)) ({ frames := 2, cells := 0, slots := 0, locals := 46 }) (va_Pc [.ref (b 0), .int p0, .int p1] (zz_B (dC, dI) sz [(b 0, .inr (8, [.ref (b 1), .int 0, .int 0, .int 0, .int 0, .int 0, .int 0, .int 0, .int (-1), .int (-1), .ref (b 11), .ref (b 12), .ref (b 13), .int 0, .int 0, .ref (b 16), .ref (b 17), .ref (b 18), .ref (b 19), .ref (b 20), .ref (b 21), .ref (b 22), .ref (b 23), .ref (b 24), .int 0, .ref (b 26), .ref (b 27), .ref (b 28), .ref (b 29), .ref (b 30), .ref (b 31), .ref (b 32), .int 0, .int 0, .ref (b 35), .ref (b 36), .ref (b 37), .ref (b 38), .ref (b 39), .ref (b 40), .int 0, .ref (b 42), .ref (b 43), .ref (b 44), .int 0, .ref (b 46), .ref (b 47), .int 0, .ref (b 49)]))] [])) (va_Qi (fun (r : Int32) (_ : Unit) => r = -1) (fun _ _ => True) (va_A [] sz)) 0 0 (va_A [] sz) := by
  refine Met.ofW (cc := cX8_owes) (maxL := 3) (ret := (some .int)) (by decide) rfl ?_
  intro p e s m args below meth c s₁ B hml hv
  obtain ⟨rfl, hsz, hP, hK, hD0, hN⟩ := hv
  have hx := B.exec
  have hb := B.bytes
  have hr := B.returns
  have hts := atoms_spec (ws := zz_w yX8_owes cX8_owes 3 (some .int)) B.pre
  have hw : ∀ w ∈ zz_all, w.before _ s = true := fun w h => hts w (List.mem_cons_of_mem _ h)
  have hown : s.vm.findClass RX8 = some m.cls := findClass_of_methodNamed B.named
  have hlocks := B.notSynchronized
  subst hsz
  have hD := hD0
  generalize hAe : va_A [] s.heap.size = A
  have hA : ∀ q : Nat, s.heap.size ≤ q → A q := fun q h => by rw [← hAe]; exact Or.inr h
  have hS : va_S A s.heap s.heap [] := va_S.rf
  have hP : va_P (dC, dI) vwCl [(b 0, .inr (8, [.ref (b 1), .int 0, .int 0, .int 0, .int 0, .int 0, .int 0, .int 0, .int (-1), .int (-1), .ref (b 11), .ref (b 12), .ref (b 13), .int 0, .int 0, .ref (b 16), .ref (b 17), .ref (b 18), .ref (b 19), .ref (b 20), .ref (b 21), .ref (b 22), .ref (b 23), .ref (b 24), .int 0, .ref (b 26), .ref (b 27), .ref (b 28), .ref (b 29), .ref (b 30), .ref (b 31), .ref (b 32), .int 0, .int 0, .ref (b 35), .ref (b 36), .ref (b 37), .ref (b 38), .ref (b 39), .ref (b 40), .int 0, .ref (b 42), .ref (b 43), .ref (b 44), .int 0, .ref (b 46), .ref (b 47), .int 0, .ref (b 49)]))] s.heap := hP
  have hl := lv_entry ([.ref (b 0), .int p0, .int p1]) (n := 3) (Nat.le_of_ble_eq_true rfl)
  rw [lg_entry_eq]
  generalize (lg_sl ([.ref (b 0), .int p0, .int p1]) ++ List.replicate (3 - (lg_sl ([.ref (b 0), .int p0, .int p1])).length) Slot.unset).toArray = ls at hl ⊢
  have hl : lv_has ls 3 [(0, .ref (b 0)), (1, .int p0), (2, .int p1)] := hl
  refine lv_aload_n hx hb dX8_owes_0 rfl (lv_at hl 0 rfl) ?_
  refine lv_iload_n hx hb dX8_owes_1 rfl (lv_at hl 1 rfl) ?_
  have hPc := hP.sub (ws' := [(b 0, .inr (8, [.ref (b 1), .int 0, .int 0, .int 0, .int 0, .int 0, .int 0, .int 0, .int (-1), .int (-1), .ref (b 11), .ref (b 12), .ref (b 13), .int 0, .int 0, .ref (b 16), .ref (b 17), .ref (b 18), .ref (b 19), .ref (b 20), .ref (b 21), .ref (b 22), .ref (b 23), .ref (b 24), .int 0, .ref (b 26), .ref (b 27), .ref (b 28), .ref (b 29), .ref (b 30), .ref (b 31), .ref (b 32), .int 0, .int 0, .ref (b 35), .ref (b 36), .ref (b 37), .ref (b 38), .ref (b 39), .ref (b 40), .int 0, .ref (b 42), .ref (b 43), .ref (b 44), .int 0, .ref (b 46), .ref (b 47), .int 0, .ref (b 49)]))]) [0] rfl
  have hDc := hD.sub (ws' := [(b 0, .inr (8, [.ref (b 1), .int 0, .int 0, .int 0, .int 0, .int 0, .int 0, .int 0, .int (-1), .int (-1), .ref (b 11), .ref (b 12), .ref (b 13), .int 0, .int 0, .ref (b 16), .ref (b 17), .ref (b 18), .ref (b 19), .ref (b 20), .ref (b 21), .ref (b 22), .ref (b 23), .ref (b 24), .int 0, .ref (b 26), .ref (b 27), .ref (b 28), .ref (b 29), .ref (b 30), .ref (b 31), .ref (b 32), .int 0, .int 0, .ref (b 35), .ref (b 36), .ref (b 37), .ref (b 38), .ref (b 39), .ref (b 40), .int 0, .ref (b 42), .ref (b 43), .ref (b 44), .int 0, .ref (b 46), .ref (b 47), .int 0, .ref (b 49)]))]) [0] (by decide) rfl
  have hKc := hK.sub (tys' := []) [] rfl
  have hFc := zz_free0 hS hA
  refine va_calli (va_runV (As := [.int p0]) (rest := []) ⟨hx, hb, hml, hown, hw⟩ (m_isHouse l dC dI b p0 s.heap.size) ⟨callB_of 1 hw (zz_good tw_106) rfl rfl rfl (hw _ tw_95) (hw _ tw_107) (by decide +kernel) ⟨Nat.le_of_ble_eq_true rfl, Nat.le_of_ble_eq_true rfl⟩, (hw _ tw_108), (hw _ tw_109)⟩ ⟨zz_blind, va_recv hKc hPc (ci := 8) (q0 := 0) rfl rfl, zz_pre hPc hKc hDc hN⟩ rfl rfl hl.1 rfl (lv_room (Nat.le_of_ble_eq_true rfl)) dX8_owes_2 ⟨Nat.le_of_ble_eq_true rfl, Nat.le_of_ble_eq_true rfl⟩) hS (fun q _ h => hFc q h) hFc (fun r_1 u_1 t H1 locs ht hvm e_1 hB hz1 hk1 hS => ?_)
  try dsimp only at e_1
  have hP := zz_keep hP hk1
  clear hk1 hB ht hvm
  generalize H1 = H at hP hS ⊢
  have hP : va_P (dC, dI) vwCl [(b 0, .inr (8, [.ref (b 1), .int 0, .int 0, .int 0, .int 0, .int 0, .int 0, .int 0, .int (-1), .int (-1), .ref (b 11), .ref (b 12), .ref (b 13), .int 0, .int 0, .ref (b 16), .ref (b 17), .ref (b 18), .ref (b 19), .ref (b 20), .ref (b 21), .ref (b 22), .ref (b 23), .ref (b 24), .int 0, .ref (b 26), .ref (b 27), .ref (b 28), .ref (b 29), .ref (b 30), .ref (b 31), .ref (b 32), .int 0, .int 0, .ref (b 35), .ref (b 36), .ref (b 37), .ref (b 38), .ref (b 39), .ref (b 40), .int 0, .ref (b 42), .ref (b 43), .ref (b 44), .int 0, .ref (b 46), .ref (b 47), .int 0, .ref (b 49)]))] H := hP
  have hD : va_D (fun _ => True) [(b 0, .inr (8, [.ref (b 1), .int 0, .int 0, .int 0, .int 0, .int 0, .int 0, .int 0, .int (-1), .int (-1), .ref (b 11), .ref (b 12), .ref (b 13), .int 0, .int 0, .ref (b 16), .ref (b 17), .ref (b 18), .ref (b 19), .ref (b 20), .ref (b 21), .ref (b 22), .ref (b 23), .ref (b 24), .int 0, .ref (b 26), .ref (b 27), .ref (b 28), .ref (b 29), .ref (b 30), .ref (b 31), .ref (b 32), .int 0, .int 0, .ref (b 35), .ref (b 36), .ref (b 37), .ref (b 38), .ref (b 39), .ref (b 40), .int 0, .ref (b 42), .ref (b 43), .ref (b 44), .int 0, .ref (b 46), .ref (b 47), .int 0, .ref (b 49)]))] := hD
  refine zz_seti 0 e_1 ?_
  refine lv_if_eq (tgt := 21) hx hb dX8_owes_5 (by decide) (fun _ => ?_) (fun c_9 => absurd c_9 (by decide))
  refine lv_iconst (v := (-1)) hx hb dX8_owes_21 (by decide) ?_
  refine lv_goto (tgt := 31) hx hb dX8_owes_22 (by decide) ?_
  exact W.iret (v := (-1)) hx hb hr (fun t ht hW => ⟨⟨(-1), (), rfl, rfl, trivial⟩, hS.F ht⟩) hS.2.2 dX8_owes_31

set_option maxHeartbeats 4000000 in
set_option maxRecDepth 100000 in
theorem m_oldest (l : Launch) (dC : Nat → ClassId) (dI : Nat → Nat → Nat) (b : Nat → Nat) (p0 : Int32) (p1 : Int32) (sz : Nat) : Met l yX8_oldest (zz_w yX8_oldest cX8_oldest 4 (some .int)) ({ frames := 2, cells := 0, slots := 0, locals := 46 }) (va_Pc [.ref (b 0), .int p0, .int p1] (zz_B (dC, dI) sz [(b 0, .inr (8, [.ref (b 1), .int 0, .int 0, .int 0, .int 0, .int 0, .int 0, .int 0, .int (-1), .int (-1), .ref (b 11), .ref (b 12), .ref (b 13), .int 0, .int 0, .ref (b 16), .ref (b 17), .ref (b 18), .ref (b 19), .ref (b 20), .ref (b 21), .ref (b 22), .ref (b 23), .ref (b 24), .int 0, .ref (b 26), .ref (b 27), .ref (b 28), .ref (b 29), .ref (b 30), .ref (b 31), .ref (b 32), .int 0, .int 0, .ref (b 35), .ref (b 36), .ref (b 37), .ref (b 38), .ref (b 39), .ref (b 40), .int 0, .ref (b 42), .ref (b 43), .ref (b 44), .int 0, .ref (b 46), .ref (b 47), .int 0, .ref (b 49)]))] [])) (va_Qi (fun (r : Int32) (_ : Unit) => r = -1) (fun _ _ => True) (va_A [] sz)) 0 0 (va_A [] sz) := by
  refine Met.ofW (cc := cX8_oldest) (maxL := 4) (ret := (some .int)) (by decide) rfl ?_
  intro p e s m args below meth c s₁ B hml hv
  obtain ⟨rfl, hsz, hP, hK, hD0, hN⟩ := hv
  have hx := B.exec
  have hb := B.bytes
  have hr := B.returns
  have hts := atoms_spec (ws := zz_w yX8_oldest cX8_oldest 4 (some .int)) B.pre
  have hw : ∀ w ∈ zz_all, w.before _ s = true := fun w h => hts w (List.mem_cons_of_mem _ h)
  have hown : s.vm.findClass RX8 = some m.cls := findClass_of_methodNamed B.named
  have hlocks := B.notSynchronized
  subst hsz
  have hD := hD0
  generalize hAe : va_A [] s.heap.size = A
  have hA : ∀ q : Nat, s.heap.size ≤ q → A q := fun q h => by rw [← hAe]; exact Or.inr h
  have hS : va_S A s.heap s.heap [] := va_S.rf
  have hP : va_P (dC, dI) vwCl [(b 0, .inr (8, [.ref (b 1), .int 0, .int 0, .int 0, .int 0, .int 0, .int 0, .int 0, .int (-1), .int (-1), .ref (b 11), .ref (b 12), .ref (b 13), .int 0, .int 0, .ref (b 16), .ref (b 17), .ref (b 18), .ref (b 19), .ref (b 20), .ref (b 21), .ref (b 22), .ref (b 23), .ref (b 24), .int 0, .ref (b 26), .ref (b 27), .ref (b 28), .ref (b 29), .ref (b 30), .ref (b 31), .ref (b 32), .int 0, .int 0, .ref (b 35), .ref (b 36), .ref (b 37), .ref (b 38), .ref (b 39), .ref (b 40), .int 0, .ref (b 42), .ref (b 43), .ref (b 44), .int 0, .ref (b 46), .ref (b 47), .int 0, .ref (b 49)]))] s.heap := hP
  have hl := lv_entry ([.ref (b 0), .int p0, .int p1]) (n := 4) (Nat.le_of_ble_eq_true rfl)
  rw [lg_entry_eq]
  generalize (lg_sl ([.ref (b 0), .int p0, .int p1]) ++ List.replicate (4 - (lg_sl ([.ref (b 0), .int p0, .int p1])).length) Slot.unset).toArray = ls at hl ⊢
  have hl : lv_has ls 4 [(0, .ref (b 0)), (1, .int p0), (2, .int p1)] := hl
  refine lv_aload_n hx hb dX8_oldest_0 rfl (lv_at hl 0 rfl) ?_
  refine lv_iload_n hx hb dX8_oldest_1 rfl (lv_at hl 1 rfl) ?_
  have hPc := hP.sub (ws' := [(b 0, .inr (8, [.ref (b 1), .int 0, .int 0, .int 0, .int 0, .int 0, .int 0, .int 0, .int (-1), .int (-1), .ref (b 11), .ref (b 12), .ref (b 13), .int 0, .int 0, .ref (b 16), .ref (b 17), .ref (b 18), .ref (b 19), .ref (b 20), .ref (b 21), .ref (b 22), .ref (b 23), .ref (b 24), .int 0, .ref (b 26), .ref (b 27), .ref (b 28), .ref (b 29), .ref (b 30), .ref (b 31), .ref (b 32), .int 0, .int 0, .ref (b 35), .ref (b 36), .ref (b 37), .ref (b 38), .ref (b 39), .ref (b 40), .int 0, .ref (b 42), .ref (b 43), .ref (b 44), .int 0, .ref (b 46), .ref (b 47), .int 0, .ref (b 49)]))]) [0] rfl
  have hDc := hD.sub (ws' := [(b 0, .inr (8, [.ref (b 1), .int 0, .int 0, .int 0, .int 0, .int 0, .int 0, .int 0, .int (-1), .int (-1), .ref (b 11), .ref (b 12), .ref (b 13), .int 0, .int 0, .ref (b 16), .ref (b 17), .ref (b 18), .ref (b 19), .ref (b 20), .ref (b 21), .ref (b 22), .ref (b 23), .ref (b 24), .int 0, .ref (b 26), .ref (b 27), .ref (b 28), .ref (b 29), .ref (b 30), .ref (b 31), .ref (b 32), .int 0, .int 0, .ref (b 35), .ref (b 36), .ref (b 37), .ref (b 38), .ref (b 39), .ref (b 40), .int 0, .ref (b 42), .ref (b 43), .ref (b 44), .int 0, .ref (b 46), .ref (b 47), .int 0, .ref (b 49)]))]) [0] (by decide) rfl
  have hKc := hK.sub (tys' := []) [] rfl
  have hFc := zz_free0 hS hA
  refine va_calli (va_runV (As := [.int p0]) (rest := []) ⟨hx, hb, hml, hown, hw⟩ (m_isHouse l dC dI b p0 s.heap.size) ⟨callB_of 1 hw (zz_good tw_106) rfl rfl rfl (hw _ tw_95) (hw _ tw_107) (by decide +kernel) ⟨Nat.le_of_ble_eq_true rfl, Nat.le_of_ble_eq_true rfl⟩, (hw _ tw_108), (hw _ tw_109)⟩ ⟨zz_blind, va_recv hKc hPc (ci := 8) (q0 := 0) rfl rfl, zz_pre hPc hKc hDc hN⟩ rfl rfl hl.1 rfl (lv_room (Nat.le_of_ble_eq_true rfl)) dX8_oldest_2 ⟨Nat.le_of_ble_eq_true rfl, Nat.le_of_ble_eq_true rfl⟩) hS (fun q _ h => hFc q h) hFc (fun r_1 u_1 t H1 locs ht hvm e_1 hB hz1 hk1 hS => ?_)
  try dsimp only at e_1
  have hP := zz_keep hP hk1
  clear hk1 hB ht hvm
  generalize H1 = H at hP hS ⊢
  have hP : va_P (dC, dI) vwCl [(b 0, .inr (8, [.ref (b 1), .int 0, .int 0, .int 0, .int 0, .int 0, .int 0, .int 0, .int (-1), .int (-1), .ref (b 11), .ref (b 12), .ref (b 13), .int 0, .int 0, .ref (b 16), .ref (b 17), .ref (b 18), .ref (b 19), .ref (b 20), .ref (b 21), .ref (b 22), .ref (b 23), .ref (b 24), .int 0, .ref (b 26), .ref (b 27), .ref (b 28), .ref (b 29), .ref (b 30), .ref (b 31), .ref (b 32), .int 0, .int 0, .ref (b 35), .ref (b 36), .ref (b 37), .ref (b 38), .ref (b 39), .ref (b 40), .int 0, .ref (b 42), .ref (b 43), .ref (b 44), .int 0, .ref (b 46), .ref (b 47), .int 0, .ref (b 49)]))] H := hP
  have hD : va_D (fun _ => True) [(b 0, .inr (8, [.ref (b 1), .int 0, .int 0, .int 0, .int 0, .int 0, .int 0, .int 0, .int (-1), .int (-1), .ref (b 11), .ref (b 12), .ref (b 13), .int 0, .int 0, .ref (b 16), .ref (b 17), .ref (b 18), .ref (b 19), .ref (b 20), .ref (b 21), .ref (b 22), .ref (b 23), .ref (b 24), .int 0, .ref (b 26), .ref (b 27), .ref (b 28), .ref (b 29), .ref (b 30), .ref (b 31), .ref (b 32), .int 0, .int 0, .ref (b 35), .ref (b 36), .ref (b 37), .ref (b 38), .ref (b 39), .ref (b 40), .int 0, .ref (b 42), .ref (b 43), .ref (b 44), .int 0, .ref (b 46), .ref (b 47), .int 0, .ref (b 49)]))] := hD
  refine zz_seti 0 e_1 ?_
  refine lv_if_eq (tgt := 16) hx hb dX8_oldest_5 (by decide) (fun _ => ?_) (fun c_9 => absurd c_9 (by decide))
  refine lv_iconst (v := (-1)) hx hb dX8_oldest_16 (by decide) ?_
  exact W.iret (v := (-1)) hx hb hr (fun t ht hW => ⟨⟨(-1), (), rfl, rfl, trivial⟩, hS.F ht⟩) hS.2.2 dX8_oldest_17

set_option maxHeartbeats 4000000 in
set_option maxRecDepth 100000 in
theorem m_parts (l : Launch) (dC : Nat → ClassId) (dI : Nat → Nat → Nat) (b : Nat → Nat) (cI : ClassId) (sz : Nat) : Met l yX8_parts (zz_w yX8_parts cX8_parts 5 none) ({ frames := 0, cells := 0, slots := 0, locals := 0 }) (va_Pc [.ref (b 0), .int 0] (zz_B (dC, dI) sz [(b 0, .inr (8, [.ref (b 1), .int 0, .int 0, .int 0, .int 0, .int 0, .int 0, .int 0, .int (-1), .int (-1), .ref (b 11), .ref (b 12), .ref (b 13), .int 0, .int 0, .ref (b 16), .ref (b 17), .ref (b 18), .ref (b 19), .ref (b 20), .ref (b 21), .ref (b 22), .ref (b 23), .ref (b 24), .int 0, .ref (b 26), .ref (b 27), .ref (b 28), .ref (b 29), .ref (b 30), .ref (b 31), .ref (b 32), .int 0, .int 0, .ref (b 35), .ref (b 36), .ref (b 37), .ref (b 38), .ref (b 39), .ref (b 40), .int 0, .ref (b 42), .ref (b 43), .ref (b 44), .int 0, .ref (b 46), .ref (b 47), .int 0, .ref (b 49)])), (b 40, .inl (cI, 256, .inl (fun _ => (0 : Int32))))] [(cI, .int)])) (va_Qv (fun (_ : Nat → Int32) => True) (fun (u0 : Nat → Int32) (t : State) => va_P (dC, dI) vwCl [(b 0, .inr (8, [.ref (b 1), .int 0, .int 0, .int 0, .int 0, .int 0, .int 0, .int 0, .int (-1), .int (-1), .ref (b 11), .ref (b 12), .ref (b 13), .int 0, .int 0, .ref (b 16), .ref (b 17), .ref (b 18), .ref (b 19), .ref (b 20), .ref (b 21), .ref (b 22), .ref (b 23), .ref (b 24), .int 0, .ref (b 26), .ref (b 27), .ref (b 28), .ref (b 29), .ref (b 30), .ref (b 31), .ref (b 32), .int 0, .int 0, .ref (b 35), .ref (b 36), .ref (b 37), .ref (b 38), .ref (b 39), .ref (b 40), .int 0, .ref (b 42), .ref (b 43), .ref (b 44), .int 0, .ref (b 46), .ref (b 47), .int 0, .ref (b 49)])), (b 40, .inl (cI, 256, .inl u0))] t.heap ∧ va_K (dC, dI) vwCl [(cI, .int)] t ∧ va_D (va_A [(b 0, .inr (8, [.ref (b 1), .int 0, .int 0, .int 0, .int 0, .int 0, .int 0, .int 0, .int (-1), .int (-1), .ref (b 11), .ref (b 12), .ref (b 13), .int 0, .int 0, .ref (b 16), .ref (b 17), .ref (b 18), .ref (b 19), .ref (b 20), .ref (b 21), .ref (b 22), .ref (b 23), .ref (b 24), .int 0, .ref (b 26), .ref (b 27), .ref (b 28), .ref (b 29), .ref (b 30), .ref (b 31), .ref (b 32), .int 0, .int 0, .ref (b 35), .ref (b 36), .ref (b 37), .ref (b 38), .ref (b 39), .ref (b 40), .int 0, .ref (b 42), .ref (b 43), .ref (b 44), .int 0, .ref (b 46), .ref (b 47), .int 0, .ref (b 49)])), (b 40, .inl (cI, 256, .inl (fun _ => (0 : Int32))))] sz) [(b 0, .inr (8, [.ref (b 1), .int 0, .int 0, .int 0, .int 0, .int 0, .int 0, .int 0, .int (-1), .int (-1), .ref (b 11), .ref (b 12), .ref (b 13), .int 0, .int 0, .ref (b 16), .ref (b 17), .ref (b 18), .ref (b 19), .ref (b 20), .ref (b 21), .ref (b 22), .ref (b 23), .ref (b 24), .int 0, .ref (b 26), .ref (b 27), .ref (b 28), .ref (b 29), .ref (b 30), .ref (b 31), .ref (b 32), .int 0, .int 0, .ref (b 35), .ref (b 36), .ref (b 37), .ref (b 38), .ref (b 39), .ref (b 40), .int 0, .ref (b 42), .ref (b 43), .ref (b 44), .int 0, .ref (b 46), .ref (b 47), .int 0, .ref (b 49)])), (b 40, .inl (cI, 256, .inl u0))]) (va_A [(b 0, .inr (8, [.ref (b 1), .int 0, .int 0, .int 0, .int 0, .int 0, .int 0, .int 0, .int (-1), .int (-1), .ref (b 11), .ref (b 12), .ref (b 13), .int 0, .int 0, .ref (b 16), .ref (b 17), .ref (b 18), .ref (b 19), .ref (b 20), .ref (b 21), .ref (b 22), .ref (b 23), .ref (b 24), .int 0, .ref (b 26), .ref (b 27), .ref (b 28), .ref (b 29), .ref (b 30), .ref (b 31), .ref (b 32), .int 0, .int 0, .ref (b 35), .ref (b 36), .ref (b 37), .ref (b 38), .ref (b 39), .ref (b 40), .int 0, .ref (b 42), .ref (b 43), .ref (b 44), .int 0, .ref (b 46), .ref (b 47), .int 0, .ref (b 49)])), (b 40, .inl (cI, 256, .inl (fun _ => (0 : Int32))))] sz)) 0 0 (va_A [(b 0, .inr (8, [.ref (b 1), .int 0, .int 0, .int 0, .int 0, .int 0, .int 0, .int 0, .int (-1), .int (-1), .ref (b 11), .ref (b 12), .ref (b 13), .int 0, .int 0, .ref (b 16), .ref (b 17), .ref (b 18), .ref (b 19), .ref (b 20), .ref (b 21), .ref (b 22), .ref (b 23), .ref (b 24), .int 0, .ref (b 26), .ref (b 27), .ref (b 28), .ref (b 29), .ref (b 30), .ref (b 31), .ref (b 32), .int 0, .int 0, .ref (b 35), .ref (b 36), .ref (b 37), .ref (b 38), .ref (b 39), .ref (b 40), .int 0, .ref (b 42), .ref (b 43), .ref (b 44), .int 0, .ref (b 46), .ref (b 47), .int 0, .ref (b 49)])), (b 40, .inl (cI, 256, .inl (fun _ => (0 : Int32))))] sz) := by
  refine Met.ofW (cc := cX8_parts) (maxL := 5) (ret := none) (by decide) rfl ?_
  intro p e s m args below meth c s₁ B hml hv
  obtain ⟨rfl, hsz, hP, hK, hD0, hN⟩ := hv
  have hx := B.exec
  have hb := B.bytes
  have hr := B.returns
  have hts := atoms_spec (ws := zz_w yX8_parts cX8_parts 5 none) B.pre
  have hw : ∀ w ∈ zz_all, w.before _ s = true := fun w h => hts w (List.mem_cons_of_mem _ h)
  have hown : s.vm.findClass RX8 = some m.cls := findClass_of_methodNamed B.named
  have hlocks := B.notSynchronized
  subst hsz
  have hD := hD0.self (sz := s.heap.size)
  generalize hAe : va_A [(b 0, .inr (8, [.ref (b 1), .int 0, .int 0, .int 0, .int 0, .int 0, .int 0, .int 0, .int (-1), .int (-1), .ref (b 11), .ref (b 12), .ref (b 13), .int 0, .int 0, .ref (b 16), .ref (b 17), .ref (b 18), .ref (b 19), .ref (b 20), .ref (b 21), .ref (b 22), .ref (b 23), .ref (b 24), .int 0, .ref (b 26), .ref (b 27), .ref (b 28), .ref (b 29), .ref (b 30), .ref (b 31), .ref (b 32), .int 0, .int 0, .ref (b 35), .ref (b 36), .ref (b 37), .ref (b 38), .ref (b 39), .ref (b 40), .int 0, .ref (b 42), .ref (b 43), .ref (b 44), .int 0, .ref (b 46), .ref (b 47), .int 0, .ref (b 49)])), (b 40, .inl (cI, 256, .inl (fun _ => (0 : Int32))))] s.heap.size = A at hD ⊢
  have hA : ∀ q : Nat, s.heap.size ≤ q → A q := fun q h => by rw [← hAe]; exact Or.inr h
  have hS : va_S A s.heap s.heap [] := va_S.rf
  have hP : va_P (dC, dI) vwCl [(b 0, .inr (8, [.ref (b 1), .int 0, .int 0, .int 0, .int 0, .int 0, .int 0, .int 0, .int (-1), .int (-1), .ref (b 11), .ref (b 12), .ref (b 13), .int 0, .int 0, .ref (b 16), .ref (b 17), .ref (b 18), .ref (b 19), .ref (b 20), .ref (b 21), .ref (b 22), .ref (b 23), .ref (b 24), .int 0, .ref (b 26), .ref (b 27), .ref (b 28), .ref (b 29), .ref (b 30), .ref (b 31), .ref (b 32), .int 0, .int 0, .ref (b 35), .ref (b 36), .ref (b 37), .ref (b 38), .ref (b 39), .ref (b 40), .int 0, .ref (b 42), .ref (b 43), .ref (b 44), .int 0, .ref (b 46), .ref (b 47), .int 0, .ref (b 49)])), (b 40, .inl (cI, 256, .inl (fun _ => (0 : Int32))))] s.heap := hP
  have hl := lv_entry ([.ref (b 0), .int 0]) (n := 5) (Nat.le_of_ble_eq_true rfl)
  rw [lg_entry_eq]
  generalize (lg_sl ([.ref (b 0), .int 0]) ++ List.replicate (5 - (lg_sl ([.ref (b 0), .int 0])).length) Slot.unset).toArray = ls at hl ⊢
  have hl : lv_has ls 5 [(0, .ref (b 0)), (1, .int 0)] := hl
  refine lv_aload_n hx hb dX8_parts_0 rfl (lv_at hl 0 rfl) ?_
  refine va_get (D := (dC, dI)) (ci := 8) (v := .ref (b 40)) (C := RX8) (T := TX8) (N := 49) hx hb hw zz_inX8 hown hK hP 0 rfl rfl 39 (by decide) (hw _ tw_149) (fun _ h9 => h9) rfl dX8_parts_1 ?_
  refine lv_iconst (v := 0) hx hb dX8_parts_4 (by decide) ?_
  refine lv_iconst (v := 0) hx hb dX8_parts_5 (by decide) ?_
  refine va_iast hx hb hK hP hD hS 1 0 rfl rfl (zz_vin (by decide)) dX8_parts_6 (fun H locs hP hD hS => ?_)
  have hP : va_P (dC, dI) vwCl [(b 0, .inr (8, [.ref (b 1), .int 0, .int 0, .int 0, .int 0, .int 0, .int 0, .int 0, .int (-1), .int (-1), .ref (b 11), .ref (b 12), .ref (b 13), .int 0, .int 0, .ref (b 16), .ref (b 17), .ref (b 18), .ref (b 19), .ref (b 20), .ref (b 21), .ref (b 22), .ref (b 23), .ref (b 24), .int 0, .ref (b 26), .ref (b 27), .ref (b 28), .ref (b 29), .ref (b 30), .ref (b 31), .ref (b 32), .int 0, .int 0, .ref (b 35), .ref (b 36), .ref (b 37), .ref (b 38), .ref (b 39), .ref (b 40), .int 0, .ref (b 42), .ref (b 43), .ref (b 44), .int 0, .ref (b 46), .ref (b 47), .int 0, .ref (b 49)])), (b 40, .inl (cI, 256, .inl (upd (fun _ => (0 : Int32)) (Int32.toNatClampNeg 0) 0)))] H := hP
  have hD : va_D A [(b 0, .inr (8, [.ref (b 1), .int 0, .int 0, .int 0, .int 0, .int 0, .int 0, .int 0, .int (-1), .int (-1), .ref (b 11), .ref (b 12), .ref (b 13), .int 0, .int 0, .ref (b 16), .ref (b 17), .ref (b 18), .ref (b 19), .ref (b 20), .ref (b 21), .ref (b 22), .ref (b 23), .ref (b 24), .int 0, .ref (b 26), .ref (b 27), .ref (b 28), .ref (b 29), .ref (b 30), .ref (b 31), .ref (b 32), .int 0, .int 0, .ref (b 35), .ref (b 36), .ref (b 37), .ref (b 38), .ref (b 39), .ref (b 40), .int 0, .ref (b 42), .ref (b 43), .ref (b 44), .int 0, .ref (b 46), .ref (b 47), .int 0, .ref (b 49)])), (b 40, .inl (cI, 256, .inl (upd (fun _ => (0 : Int32)) (Int32.toNatClampNeg 0) 0)))] := hD
  refine lv_iconst (v := 1) hx hb dX8_parts_7 (by decide) ?_
  refine lv_istore_n (lv' := [(2, .int 1), (0, .ref (b 0)), (1, .int 0)]) hx hb dX8_parts_8 rfl hl (by decide) rfl (fun ls hl => ?_)
  refine lv_iload_n hx hb dX8_parts_9 rfl (lv_at hl 0 rfl) ?_
  refine lv_iload_n hx hb dX8_parts_10 rfl (lv_at hl 2 rfl) ?_
  refine lv_icmp_gt (tgt := 125) hx hb dX8_parts_11 (by decide) (fun _ => ?_) (fun c_9 => absurd c_9 (by decide))
  have hP9 := hP.sub (ws' := [(b 0, .inr (8, [.ref (b 1), .int 0, .int 0, .int 0, .int 0, .int 0, .int 0, .int 0, .int (-1), .int (-1), .ref (b 11), .ref (b 12), .ref (b 13), .int 0, .int 0, .ref (b 16), .ref (b 17), .ref (b 18), .ref (b 19), .ref (b 20), .ref (b 21), .ref (b 22), .ref (b 23), .ref (b 24), .int 0, .ref (b 26), .ref (b 27), .ref (b 28), .ref (b 29), .ref (b 30), .ref (b 31), .ref (b 32), .int 0, .int 0, .ref (b 35), .ref (b 36), .ref (b 37), .ref (b 38), .ref (b 39), .ref (b 40), .int 0, .ref (b 42), .ref (b 43), .ref (b 44), .int 0, .ref (b 46), .ref (b 47), .int 0, .ref (b 49)])), (b 40, .inl (cI, 256, .inl (upd (fun _ => (0 : Int32)) (Int32.toNatClampNeg 0) 0)))]) [0, 1] rfl
  have hD9 := hD.sub (ws' := [(b 0, .inr (8, [.ref (b 1), .int 0, .int 0, .int 0, .int 0, .int 0, .int 0, .int 0, .int (-1), .int (-1), .ref (b 11), .ref (b 12), .ref (b 13), .int 0, .int 0, .ref (b 16), .ref (b 17), .ref (b 18), .ref (b 19), .ref (b 20), .ref (b 21), .ref (b 22), .ref (b 23), .ref (b 24), .int 0, .ref (b 26), .ref (b 27), .ref (b 28), .ref (b 29), .ref (b 30), .ref (b 31), .ref (b 32), .int 0, .int 0, .ref (b 35), .ref (b 36), .ref (b 37), .ref (b 38), .ref (b 39), .ref (b 40), .int 0, .ref (b 42), .ref (b 43), .ref (b 44), .int 0, .ref (b 46), .ref (b 47), .int 0, .ref (b 49)])), (b 40, .inl (cI, 256, .inl (upd (fun _ => (0 : Int32)) (Int32.toNatClampNeg 0) 0)))]) [0, 1] (by decide) rfl
  have hK9 := hK.sub (tys' := [(cI, .int)]) [0] rfl
  exact W.vret hx hb hr (fun t ht hW => ⟨⟨((upd (fun _ => (0 : Int32)) (Int32.toNatClampNeg 0) 0)), rfl, trivial, by rw [ht]; exact hP9, va_K.moved hW.alike hK9, hD9⟩, hS.F ht⟩) hS.2.2 dX8_parts_125

set_option maxHeartbeats 4000000 in
set_option maxRecDepth 100000 in
theorem m_pays (l : Launch) (dC : Nat → ClassId) (dI : Nat → Nat → Nat) (b : Nat → Nat) (cI : ClassId) (sz : Nat) : Met l yX8_pays (zz_w yX8_pays cX8_pays 3 none) ({ frames := 1, cells := 0, slots := 0, locals := 24 }) (va_Pc [.ref (b 0)] (zz_B (dC, dI) sz [(b 0, .inr (8, [.ref (b 1), .int 0, .int 0, .int 0, .int 0, .int 0, .int 0, .int 0, .int (-1), .int (-1), .ref (b 11), .ref (b 12), .ref (b 13), .int 0, .int 0, .ref (b 16), .ref (b 17), .ref (b 18), .ref (b 19), .ref (b 20), .ref (b 21), .ref (b 22), .ref (b 23), .ref (b 24), .int 0, .ref (b 26), .ref (b 27), .ref (b 28), .ref (b 29), .ref (b 30), .ref (b 31), .ref (b 32), .int 0, .int 0, .ref (b 35), .ref (b 36), .ref (b 37), .ref (b 38), .ref (b 39), .ref (b 40), .int 0, .ref (b 42), .ref (b 43), .ref (b 44), .int 0, .ref (b 46), .ref (b 47), .int 0, .ref (b 49)])), (b 40, .inl (cI, 256, .inl (fun _ => (0 : Int32))))] [(cI, .int)])) (va_Qv (fun (_ : Nat → Int32) => True) (fun (u0 : Nat → Int32) (t : State) => va_P (dC, dI) vwCl [(b 0, .inr (8, [.ref (b 1), .int 0, .int 0, .int 0, .int 0, .int 0, .int 0, .int 0, .int (-1), .int (-1), .ref (b 11), .ref (b 12), .ref (b 13), .int 0, .int 0, .ref (b 16), .ref (b 17), .ref (b 18), .ref (b 19), .ref (b 20), .ref (b 21), .ref (b 22), .ref (b 23), .ref (b 24), .int 0, .ref (b 26), .ref (b 27), .ref (b 28), .ref (b 29), .ref (b 30), .ref (b 31), .ref (b 32), .int 0, .int 0, .ref (b 35), .ref (b 36), .ref (b 37), .ref (b 38), .ref (b 39), .ref (b 40), .int 0, .ref (b 42), .ref (b 43), .ref (b 44), .int 0, .ref (b 46), .ref (b 47), .int 0, .ref (b 49)])), (b 40, .inl (cI, 256, .inl u0))] t.heap ∧ va_K (dC, dI) vwCl [(cI, .int)] t ∧ va_D (va_A [(b 0, .inr (8, [.ref (b 1), .int 0, .int 0, .int 0, .int 0, .int 0, .int 0, .int 0, .int (-1), .int (-1), .ref (b 11), .ref (b 12), .ref (b 13), .int 0, .int 0, .ref (b 16), .ref (b 17), .ref (b 18), .ref (b 19), .ref (b 20), .ref (b 21), .ref (b 22), .ref (b 23), .ref (b 24), .int 0, .ref (b 26), .ref (b 27), .ref (b 28), .ref (b 29), .ref (b 30), .ref (b 31), .ref (b 32), .int 0, .int 0, .ref (b 35), .ref (b 36), .ref (b 37), .ref (b 38), .ref (b 39), .ref (b 40), .int 0, .ref (b 42), .ref (b 43), .ref (b 44), .int 0, .ref (b 46), .ref (b 47), .int 0, .ref (b 49)])), (b 40, .inl (cI, 256, .inl (fun _ => (0 : Int32))))] sz) [(b 0, .inr (8, [.ref (b 1), .int 0, .int 0, .int 0, .int 0, .int 0, .int 0, .int 0, .int (-1), .int (-1), .ref (b 11), .ref (b 12), .ref (b 13), .int 0, .int 0, .ref (b 16), .ref (b 17), .ref (b 18), .ref (b 19), .ref (b 20), .ref (b 21), .ref (b 22), .ref (b 23), .ref (b 24), .int 0, .ref (b 26), .ref (b 27), .ref (b 28), .ref (b 29), .ref (b 30), .ref (b 31), .ref (b 32), .int 0, .int 0, .ref (b 35), .ref (b 36), .ref (b 37), .ref (b 38), .ref (b 39), .ref (b 40), .int 0, .ref (b 42), .ref (b 43), .ref (b 44), .int 0, .ref (b 46), .ref (b 47), .int 0, .ref (b 49)])), (b 40, .inl (cI, 256, .inl u0))]) (va_A [(b 0, .inr (8, [.ref (b 1), .int 0, .int 0, .int 0, .int 0, .int 0, .int 0, .int 0, .int (-1), .int (-1), .ref (b 11), .ref (b 12), .ref (b 13), .int 0, .int 0, .ref (b 16), .ref (b 17), .ref (b 18), .ref (b 19), .ref (b 20), .ref (b 21), .ref (b 22), .ref (b 23), .ref (b 24), .int 0, .ref (b 26), .ref (b 27), .ref (b 28), .ref (b 29), .ref (b 30), .ref (b 31), .ref (b 32), .int 0, .int 0, .ref (b 35), .ref (b 36), .ref (b 37), .ref (b 38), .ref (b 39), .ref (b 40), .int 0, .ref (b 42), .ref (b 43), .ref (b 44), .int 0, .ref (b 46), .ref (b 47), .int 0, .ref (b 49)])), (b 40, .inl (cI, 256, .inl (fun _ => (0 : Int32))))] sz)) 0 0 (va_A [(b 0, .inr (8, [.ref (b 1), .int 0, .int 0, .int 0, .int 0, .int 0, .int 0, .int 0, .int (-1), .int (-1), .ref (b 11), .ref (b 12), .ref (b 13), .int 0, .int 0, .ref (b 16), .ref (b 17), .ref (b 18), .ref (b 19), .ref (b 20), .ref (b 21), .ref (b 22), .ref (b 23), .ref (b 24), .int 0, .ref (b 26), .ref (b 27), .ref (b 28), .ref (b 29), .ref (b 30), .ref (b 31), .ref (b 32), .int 0, .int 0, .ref (b 35), .ref (b 36), .ref (b 37), .ref (b 38), .ref (b 39), .ref (b 40), .int 0, .ref (b 42), .ref (b 43), .ref (b 44), .int 0, .ref (b 46), .ref (b 47), .int 0, .ref (b 49)])), (b 40, .inl (cI, 256, .inl (fun _ => (0 : Int32))))] sz) := by
  refine Met.ofW (cc := cX8_pays) (maxL := 3) (ret := none) (by decide) rfl ?_
  intro p e s m args below meth c s₁ B hml hv
  obtain ⟨rfl, hsz, hP, hK, hD0, hN⟩ := hv
  have hx := B.exec
  have hb := B.bytes
  have hr := B.returns
  have hts := atoms_spec (ws := zz_w yX8_pays cX8_pays 3 none) B.pre
  have hw : ∀ w ∈ zz_all, w.before _ s = true := fun w h => hts w (List.mem_cons_of_mem _ h)
  have hown : s.vm.findClass RX8 = some m.cls := findClass_of_methodNamed B.named
  have hlocks := B.notSynchronized
  subst hsz
  have hD := hD0.self (sz := s.heap.size)
  generalize hAe : va_A [(b 0, .inr (8, [.ref (b 1), .int 0, .int 0, .int 0, .int 0, .int 0, .int 0, .int 0, .int (-1), .int (-1), .ref (b 11), .ref (b 12), .ref (b 13), .int 0, .int 0, .ref (b 16), .ref (b 17), .ref (b 18), .ref (b 19), .ref (b 20), .ref (b 21), .ref (b 22), .ref (b 23), .ref (b 24), .int 0, .ref (b 26), .ref (b 27), .ref (b 28), .ref (b 29), .ref (b 30), .ref (b 31), .ref (b 32), .int 0, .int 0, .ref (b 35), .ref (b 36), .ref (b 37), .ref (b 38), .ref (b 39), .ref (b 40), .int 0, .ref (b 42), .ref (b 43), .ref (b 44), .int 0, .ref (b 46), .ref (b 47), .int 0, .ref (b 49)])), (b 40, .inl (cI, 256, .inl (fun _ => (0 : Int32))))] s.heap.size = A at hD ⊢
  have hA : ∀ q : Nat, s.heap.size ≤ q → A q := fun q h => by rw [← hAe]; exact Or.inr h
  have hS : va_S A s.heap s.heap [] := va_S.rf
  have hP : va_P (dC, dI) vwCl [(b 0, .inr (8, [.ref (b 1), .int 0, .int 0, .int 0, .int 0, .int 0, .int 0, .int 0, .int (-1), .int (-1), .ref (b 11), .ref (b 12), .ref (b 13), .int 0, .int 0, .ref (b 16), .ref (b 17), .ref (b 18), .ref (b 19), .ref (b 20), .ref (b 21), .ref (b 22), .ref (b 23), .ref (b 24), .int 0, .ref (b 26), .ref (b 27), .ref (b 28), .ref (b 29), .ref (b 30), .ref (b 31), .ref (b 32), .int 0, .int 0, .ref (b 35), .ref (b 36), .ref (b 37), .ref (b 38), .ref (b 39), .ref (b 40), .int 0, .ref (b 42), .ref (b 43), .ref (b 44), .int 0, .ref (b 46), .ref (b 47), .int 0, .ref (b 49)])), (b 40, .inl (cI, 256, .inl (fun _ => (0 : Int32))))] s.heap := hP
  have hl := lv_entry ([.ref (b 0)]) (n := 3) (Nat.le_of_ble_eq_true rfl)
  rw [lg_entry_eq]
  generalize (lg_sl ([.ref (b 0)]) ++ List.replicate (3 - (lg_sl ([.ref (b 0)])).length) Slot.unset).toArray = ls at hl ⊢
  have hl : lv_has ls 3 [(0, .ref (b 0))] := hl
  refine lv_iconst (v := 0) hx hb dX8_pays_0 (by decide) ?_
  refine lv_istore_n (lv' := [(1, .int 0), (0, .ref (b 0))]) hx hb dX8_pays_1 rfl hl (by decide) rfl (fun ls hl => ?_)
  refine lv_aload_n hx hb dX8_pays_2 rfl (lv_at hl 1 rfl) ?_
  refine lv_iconst (v := 0) hx hb dX8_pays_3 (by decide) ?_
  refine va_put (D := (dC, dI)) (ci := 8) (v := .int 0) (ty := .int) (C := RX8) (T := TX8) (N := 49) hx hb hw zz_inX8 tyX8 tyX8_ok nmX8 hown hK hP hD hS 0 rfl rfl 40 (by decide) (hw _ tw_150) (fun _ h9 => h9) rfl (by decide +kernel) rfl rfl (Nat.le_of_ble_eq_true rfl) dX8_pays_4 (fun H locs hP hD hS => ?_)
  have hP : va_P (dC, dI) vwCl [(b 0, .inr (8, [.ref (b 1), .int 0, .int 0, .int 0, .int 0, .int 0, .int 0, .int 0, .int (-1), .int (-1), .ref (b 11), .ref (b 12), .ref (b 13), .int 0, .int 0, .ref (b 16), .ref (b 17), .ref (b 18), .ref (b 19), .ref (b 20), .ref (b 21), .ref (b 22), .ref (b 23), .ref (b 24), .int 0, .ref (b 26), .ref (b 27), .ref (b 28), .ref (b 29), .ref (b 30), .ref (b 31), .ref (b 32), .int 0, .int 0, .ref (b 35), .ref (b 36), .ref (b 37), .ref (b 38), .ref (b 39), .ref (b 40), .int 0, .ref (b 42), .ref (b 43), .ref (b 44), .int 0, .ref (b 46), .ref (b 47), .int 0, .ref (b 49)])), (b 40, .inl (cI, 256, .inl (fun _ => (0 : Int32))))] H := hP
  have hD : va_D A [(b 0, .inr (8, [.ref (b 1), .int 0, .int 0, .int 0, .int 0, .int 0, .int 0, .int 0, .int (-1), .int (-1), .ref (b 11), .ref (b 12), .ref (b 13), .int 0, .int 0, .ref (b 16), .ref (b 17), .ref (b 18), .ref (b 19), .ref (b 20), .ref (b 21), .ref (b 22), .ref (b 23), .ref (b 24), .int 0, .ref (b 26), .ref (b 27), .ref (b 28), .ref (b 29), .ref (b 30), .ref (b 31), .ref (b 32), .int 0, .int 0, .ref (b 35), .ref (b 36), .ref (b 37), .ref (b 38), .ref (b 39), .ref (b 40), .int 0, .ref (b 42), .ref (b 43), .ref (b 44), .int 0, .ref (b 46), .ref (b 47), .int 0, .ref (b 49)])), (b 40, .inl (cI, 256, .inl (fun _ => (0 : Int32))))] := hD
  refine lv_iconst (v := 0) hx hb dX8_pays_7 (by decide) ?_
  refine lv_istore_n (lv' := [(2, .int 0), (1, .int 0), (0, .ref (b 0))]) hx hb dX8_pays_8 rfl hl (by decide) rfl (fun ls hl => ?_)
  refine lv_iload_n hx hb dX8_pays_9 rfl (lv_at hl 0 rfl) ?_
  refine lv_aload_n hx hb dX8_pays_10 rfl (lv_at hl 2 rfl) ?_
  refine va_get (D := (dC, dI)) (ci := 8) (v := .int 0) (C := RX8) (T := TX8) (N := 49) hx hb hw zz_inX8 hown hK hP 0 rfl rfl 14 (by decide) (hw _ tw_93) (fun _ h9 => h9) rfl dX8_pays_11 ?_
  refine lv_icmp_ge (tgt := 53) hx hb dX8_pays_14 (by decide) (fun _ => ?_) (fun c_9 => absurd c_9 (by decide))
  refine lv_aload_n hx hb dX8_pays_53 rfl (lv_at hl 2 rfl) ?_
  refine lv_iload_n hx hb dX8_pays_54 rfl (lv_at hl 1 rfl) ?_
  have hPc := hP.sub (ws' := [(b 0, .inr (8, [.ref (b 1), .int 0, .int 0, .int 0, .int 0, .int 0, .int 0, .int 0, .int (-1), .int (-1), .ref (b 11), .ref (b 12), .ref (b 13), .int 0, .int 0, .ref (b 16), .ref (b 17), .ref (b 18), .ref (b 19), .ref (b 20), .ref (b 21), .ref (b 22), .ref (b 23), .ref (b 24), .int 0, .ref (b 26), .ref (b 27), .ref (b 28), .ref (b 29), .ref (b 30), .ref (b 31), .ref (b 32), .int 0, .int 0, .ref (b 35), .ref (b 36), .ref (b 37), .ref (b 38), .ref (b 39), .ref (b 40), .int 0, .ref (b 42), .ref (b 43), .ref (b 44), .int 0, .ref (b 46), .ref (b 47), .int 0, .ref (b 49)])), (b 40, .inl (cI, 256, .inl (fun _ => (0 : Int32))))]) [0, 1] rfl
  have hDc := hD.sub (ws' := [(b 0, .inr (8, [.ref (b 1), .int 0, .int 0, .int 0, .int 0, .int 0, .int 0, .int 0, .int (-1), .int (-1), .ref (b 11), .ref (b 12), .ref (b 13), .int 0, .int 0, .ref (b 16), .ref (b 17), .ref (b 18), .ref (b 19), .ref (b 20), .ref (b 21), .ref (b 22), .ref (b 23), .ref (b 24), .int 0, .ref (b 26), .ref (b 27), .ref (b 28), .ref (b 29), .ref (b 30), .ref (b 31), .ref (b 32), .int 0, .int 0, .ref (b 35), .ref (b 36), .ref (b 37), .ref (b 38), .ref (b 39), .ref (b 40), .int 0, .ref (b 42), .ref (b 43), .ref (b 44), .int 0, .ref (b 46), .ref (b 47), .int 0, .ref (b 49)])), (b 40, .inl (cI, 256, .inl (fun _ => (0 : Int32))))]) [0, 1] (by decide) rfl
  have hKc := hK.sub (tys' := [(cI, .int)]) [0] rfl
  have hFc := va_free (wc := [(b 0, .inr (8, [.ref (b 1), .int 0, .int 0, .int 0, .int 0, .int 0, .int 0, .int 0, .int (-1), .int (-1), .ref (b 11), .ref (b 12), .ref (b 13), .int 0, .int 0, .ref (b 16), .ref (b 17), .ref (b 18), .ref (b 19), .ref (b 20), .ref (b 21), .ref (b 22), .ref (b 23), .ref (b 24), .int 0, .ref (b 26), .ref (b 27), .ref (b 28), .ref (b 29), .ref (b 30), .ref (b 31), .ref (b 32), .int 0, .int 0, .ref (b 35), .ref (b 36), .ref (b 37), .ref (b 38), .ref (b 39), .ref (b 40), .int 0, .ref (b 42), .ref (b 43), .ref (b 44), .int 0, .ref (b 46), .ref (b 47), .int 0, .ref (b 49)])), (b 40, .inl (cI, 256, .inl (fun _ => (0 : Int32))))]) hD hS hA [0, 1] rfl
  refine va_callv (va_runV (As := [.int 0]) (rest := []) ⟨hx, hb, hml, hown, hw⟩ (m_parts l dC dI b cI H.size) ⟨callB_of 1 hw (zz_good tw_151) rfl rfl rfl (hw _ tw_95) (hw _ tw_152) (by decide +kernel) ⟨Nat.le_of_ble_eq_true rfl, Nat.le_of_ble_eq_true rfl⟩, (hw _ tw_153), (hw _ tw_154)⟩ ⟨zz_blind, va_recv hKc hPc (ci := 8) (q0 := 0) rfl rfl, zz_pre hPc hKc hDc hN⟩ rfl rfl hl.1 rfl (lv_room (Nat.le_of_ble_eq_true rfl)) dX8_pays_55 ⟨Nat.le_of_ble_eq_true rfl, Nat.le_of_ble_eq_true rfl⟩) hS (fun q _ h => hFc q h) hFc (fun u_1 t H1 locs ht hvm e_1 hB hz1 hk1 hS => ?_)
  try dsimp only at e_1
  obtain ⟨v_1_0, rfl⟩ : ∃ z, z = u_1 := ⟨_, rfl⟩
  obtain ⟨hP1, hK1, hD1⟩ := hB
  rw [ht] at hP1
  have hK1 := va_K.moved hvm.symm hK1
  try dsimp only at e_1
  obtain ⟨hP, hD⟩ := va_join (wr := []) (w1 := [(b 0, .inr (8, [.ref (b 1), .int 0, .int 0, .int 0, .int 0, .int 0, .int 0, .int 0, .int (-1), .int (-1), .ref (b 11), .ref (b 12), .ref (b 13), .int 0, .int 0, .ref (b 16), .ref (b 17), .ref (b 18), .ref (b 19), .ref (b 20), .ref (b 21), .ref (b 22), .ref (b 23), .ref (b 24), .int 0, .ref (b 26), .ref (b 27), .ref (b 28), .ref (b 29), .ref (b 30), .ref (b 31), .ref (b 32), .int 0, .int 0, .ref (b 35), .ref (b 36), .ref (b 37), .ref (b 38), .ref (b 39), .ref (b 40), .int 0, .ref (b 42), .ref (b 43), .ref (b 44), .int 0, .ref (b 46), .ref (b 47), .int 0, .ref (b 49)])), (b 40, .inl (cI, 256, .inl v_1_0))]) hP hD [0, 1] [] rfl rfl (by decide) (by decide) hk1 hFc hP1 hD1
  clear hk1 ht hvm
  generalize H1 = H at hP hS ⊢
  have hP : va_P (dC, dI) vwCl [(b 0, .inr (8, [.ref (b 1), .int 0, .int 0, .int 0, .int 0, .int 0, .int 0, .int 0, .int (-1), .int (-1), .ref (b 11), .ref (b 12), .ref (b 13), .int 0, .int 0, .ref (b 16), .ref (b 17), .ref (b 18), .ref (b 19), .ref (b 20), .ref (b 21), .ref (b 22), .ref (b 23), .ref (b 24), .int 0, .ref (b 26), .ref (b 27), .ref (b 28), .ref (b 29), .ref (b 30), .ref (b 31), .ref (b 32), .int 0, .int 0, .ref (b 35), .ref (b 36), .ref (b 37), .ref (b 38), .ref (b 39), .ref (b 40), .int 0, .ref (b 42), .ref (b 43), .ref (b 44), .int 0, .ref (b 46), .ref (b 47), .int 0, .ref (b 49)])), (b 40, .inl (cI, 256, .inl v_1_0))] H := hP
  have hD : va_D A [(b 0, .inr (8, [.ref (b 1), .int 0, .int 0, .int 0, .int 0, .int 0, .int 0, .int 0, .int (-1), .int (-1), .ref (b 11), .ref (b 12), .ref (b 13), .int 0, .int 0, .ref (b 16), .ref (b 17), .ref (b 18), .ref (b 19), .ref (b 20), .ref (b 21), .ref (b 22), .ref (b 23), .ref (b 24), .int 0, .ref (b 26), .ref (b 27), .ref (b 28), .ref (b 29), .ref (b 30), .ref (b 31), .ref (b 32), .int 0, .int 0, .ref (b 35), .ref (b 36), .ref (b 37), .ref (b 38), .ref (b 39), .ref (b 40), .int 0, .ref (b 42), .ref (b 43), .ref (b 44), .int 0, .ref (b 46), .ref (b 47), .int 0, .ref (b 49)])), (b 40, .inl (cI, 256, .inl v_1_0))] := hD
  refine lv_iload_n hx hb dX8_pays_58 rfl (lv_at hl 1 rfl) ?_
  refine lv_if_le (tgt := 127) hx hb dX8_pays_59 (by decide) (fun _ => ?_) (fun c_9 => absurd c_9 (by decide))
  have hP9 := hP.sub (ws' := [(b 0, .inr (8, [.ref (b 1), .int 0, .int 0, .int 0, .int 0, .int 0, .int 0, .int 0, .int (-1), .int (-1), .ref (b 11), .ref (b 12), .ref (b 13), .int 0, .int 0, .ref (b 16), .ref (b 17), .ref (b 18), .ref (b 19), .ref (b 20), .ref (b 21), .ref (b 22), .ref (b 23), .ref (b 24), .int 0, .ref (b 26), .ref (b 27), .ref (b 28), .ref (b 29), .ref (b 30), .ref (b 31), .ref (b 32), .int 0, .int 0, .ref (b 35), .ref (b 36), .ref (b 37), .ref (b 38), .ref (b 39), .ref (b 40), .int 0, .ref (b 42), .ref (b 43), .ref (b 44), .int 0, .ref (b 46), .ref (b 47), .int 0, .ref (b 49)])), (b 40, .inl (cI, 256, .inl v_1_0))]) [0, 1] rfl
  have hD9 := hD.sub (ws' := [(b 0, .inr (8, [.ref (b 1), .int 0, .int 0, .int 0, .int 0, .int 0, .int 0, .int 0, .int (-1), .int (-1), .ref (b 11), .ref (b 12), .ref (b 13), .int 0, .int 0, .ref (b 16), .ref (b 17), .ref (b 18), .ref (b 19), .ref (b 20), .ref (b 21), .ref (b 22), .ref (b 23), .ref (b 24), .int 0, .ref (b 26), .ref (b 27), .ref (b 28), .ref (b 29), .ref (b 30), .ref (b 31), .ref (b 32), .int 0, .int 0, .ref (b 35), .ref (b 36), .ref (b 37), .ref (b 38), .ref (b 39), .ref (b 40), .int 0, .ref (b 42), .ref (b 43), .ref (b 44), .int 0, .ref (b 46), .ref (b 47), .int 0, .ref (b 49)])), (b 40, .inl (cI, 256, .inl v_1_0))]) [0, 1] (by decide) rfl
  have hK9 := hK.sub (tys' := [(cI, .int)]) [0] rfl
  exact W.vret hx hb hr (fun t ht hW => ⟨⟨(v_1_0), rfl, trivial, by rw [ht]; exact hP9, va_K.moved hW.alike hK9, hD9⟩, hS.F ht⟩) hS.2.2 dX8_pays_127

set_option maxHeartbeats 4000000 in
set_option maxRecDepth 100000 in
theorem m_payments (l : Launch) (dC : Nat → ClassId) (dI : Nat → Nat → Nat) (b : Nat → Nat) (cI : ClassId) (sz : Nat) : Met l yX8_payments (zz_w yX8_payments cX8_payments 1 (some .int)) ({ frames := 2, cells := 0, slots := 0, locals := 46 }) (va_Pc [.ref (b 0)] (zz_B (dC, dI) sz [(b 0, .inr (8, [.ref (b 1), .int 0, .int 0, .int 0, .int 0, .int 0, .int 0, .int 0, .int (-1), .int (-1), .ref (b 11), .ref (b 12), .ref (b 13), .int 0, .int 0, .ref (b 16), .ref (b 17), .ref (b 18), .ref (b 19), .ref (b 20), .ref (b 21), .ref (b 22), .ref (b 23), .ref (b 24), .int 0, .ref (b 26), .ref (b 27), .ref (b 28), .ref (b 29), .ref (b 30), .ref (b 31), .ref (b 32), .int 0, .int 0, .ref (b 35), .ref (b 36), .ref (b 37), .ref (b 38), .ref (b 39), .ref (b 40), .int 0, .ref (b 42), .ref (b 43), .ref (b 44), .int 0, .ref (b 46), .ref (b 47), .int 0, .ref (b 49)])), (b 40, .inl (cI, 256, .inl (fun _ => (0 : Int32))))] [(cI, .int)])) (va_Qi (fun (r : Int32) (_ : Unit) => r = 0) (fun _ _ => True) (va_A [(b 0, .inr (8, [.ref (b 1), .int 0, .int 0, .int 0, .int 0, .int 0, .int 0, .int 0, .int (-1), .int (-1), .ref (b 11), .ref (b 12), .ref (b 13), .int 0, .int 0, .ref (b 16), .ref (b 17), .ref (b 18), .ref (b 19), .ref (b 20), .ref (b 21), .ref (b 22), .ref (b 23), .ref (b 24), .int 0, .ref (b 26), .ref (b 27), .ref (b 28), .ref (b 29), .ref (b 30), .ref (b 31), .ref (b 32), .int 0, .int 0, .ref (b 35), .ref (b 36), .ref (b 37), .ref (b 38), .ref (b 39), .ref (b 40), .int 0, .ref (b 42), .ref (b 43), .ref (b 44), .int 0, .ref (b 46), .ref (b 47), .int 0, .ref (b 49)])), (b 40, .inl (cI, 256, .inl (fun _ => (0 : Int32))))] sz)) 0 0 (va_A [(b 0, .inr (8, [.ref (b 1), .int 0, .int 0, .int 0, .int 0, .int 0, .int 0, .int 0, .int (-1), .int (-1), .ref (b 11), .ref (b 12), .ref (b 13), .int 0, .int 0, .ref (b 16), .ref (b 17), .ref (b 18), .ref (b 19), .ref (b 20), .ref (b 21), .ref (b 22), .ref (b 23), .ref (b 24), .int 0, .ref (b 26), .ref (b 27), .ref (b 28), .ref (b 29), .ref (b 30), .ref (b 31), .ref (b 32), .int 0, .int 0, .ref (b 35), .ref (b 36), .ref (b 37), .ref (b 38), .ref (b 39), .ref (b 40), .int 0, .ref (b 42), .ref (b 43), .ref (b 44), .int 0, .ref (b 46), .ref (b 47), .int 0, .ref (b 49)])), (b 40, .inl (cI, 256, .inl (fun _ => (0 : Int32))))] sz) := by
  refine Met.ofW (cc := cX8_payments) (maxL := 1) (ret := (some .int)) (by decide) rfl ?_
  intro p e s m args below meth c s₁ B hml hv
  obtain ⟨rfl, hsz, hP, hK, hD0, hN⟩ := hv
  have hx := B.exec
  have hb := B.bytes
  have hr := B.returns
  have hts := atoms_spec (ws := zz_w yX8_payments cX8_payments 1 (some .int)) B.pre
  have hw : ∀ w ∈ zz_all, w.before _ s = true := fun w h => hts w (List.mem_cons_of_mem _ h)
  have hown : s.vm.findClass RX8 = some m.cls := findClass_of_methodNamed B.named
  have hlocks := B.notSynchronized
  subst hsz
  have hD := hD0.self (sz := s.heap.size)
  generalize hAe : va_A [(b 0, .inr (8, [.ref (b 1), .int 0, .int 0, .int 0, .int 0, .int 0, .int 0, .int 0, .int (-1), .int (-1), .ref (b 11), .ref (b 12), .ref (b 13), .int 0, .int 0, .ref (b 16), .ref (b 17), .ref (b 18), .ref (b 19), .ref (b 20), .ref (b 21), .ref (b 22), .ref (b 23), .ref (b 24), .int 0, .ref (b 26), .ref (b 27), .ref (b 28), .ref (b 29), .ref (b 30), .ref (b 31), .ref (b 32), .int 0, .int 0, .ref (b 35), .ref (b 36), .ref (b 37), .ref (b 38), .ref (b 39), .ref (b 40), .int 0, .ref (b 42), .ref (b 43), .ref (b 44), .int 0, .ref (b 46), .ref (b 47), .int 0, .ref (b 49)])), (b 40, .inl (cI, 256, .inl (fun _ => (0 : Int32))))] s.heap.size = A at hD ⊢
  have hA : ∀ q : Nat, s.heap.size ≤ q → A q := fun q h => by rw [← hAe]; exact Or.inr h
  have hS : va_S A s.heap s.heap [] := va_S.rf
  have hP : va_P (dC, dI) vwCl [(b 0, .inr (8, [.ref (b 1), .int 0, .int 0, .int 0, .int 0, .int 0, .int 0, .int 0, .int (-1), .int (-1), .ref (b 11), .ref (b 12), .ref (b 13), .int 0, .int 0, .ref (b 16), .ref (b 17), .ref (b 18), .ref (b 19), .ref (b 20), .ref (b 21), .ref (b 22), .ref (b 23), .ref (b 24), .int 0, .ref (b 26), .ref (b 27), .ref (b 28), .ref (b 29), .ref (b 30), .ref (b 31), .ref (b 32), .int 0, .int 0, .ref (b 35), .ref (b 36), .ref (b 37), .ref (b 38), .ref (b 39), .ref (b 40), .int 0, .ref (b 42), .ref (b 43), .ref (b 44), .int 0, .ref (b 46), .ref (b 47), .int 0, .ref (b 49)])), (b 40, .inl (cI, 256, .inl (fun _ => (0 : Int32))))] s.heap := hP
  have hl := lv_entry ([.ref (b 0)]) (n := 1) (Nat.le_of_ble_eq_true rfl)
  rw [lg_entry_eq]
  generalize (lg_sl ([.ref (b 0)]) ++ List.replicate (1 - (lg_sl ([.ref (b 0)])).length) Slot.unset).toArray = ls at hl ⊢
  have hl : lv_has ls 1 [(0, .ref (b 0))] := hl
  refine lv_aload_n hx hb dX8_payments_0 rfl (lv_at hl 0 rfl) ?_
  have hPc := hP.sub (ws' := [(b 0, .inr (8, [.ref (b 1), .int 0, .int 0, .int 0, .int 0, .int 0, .int 0, .int 0, .int (-1), .int (-1), .ref (b 11), .ref (b 12), .ref (b 13), .int 0, .int 0, .ref (b 16), .ref (b 17), .ref (b 18), .ref (b 19), .ref (b 20), .ref (b 21), .ref (b 22), .ref (b 23), .ref (b 24), .int 0, .ref (b 26), .ref (b 27), .ref (b 28), .ref (b 29), .ref (b 30), .ref (b 31), .ref (b 32), .int 0, .int 0, .ref (b 35), .ref (b 36), .ref (b 37), .ref (b 38), .ref (b 39), .ref (b 40), .int 0, .ref (b 42), .ref (b 43), .ref (b 44), .int 0, .ref (b 46), .ref (b 47), .int 0, .ref (b 49)])), (b 40, .inl (cI, 256, .inl (fun _ => (0 : Int32))))]) [0, 1] rfl
  have hDc := hD.sub (ws' := [(b 0, .inr (8, [.ref (b 1), .int 0, .int 0, .int 0, .int 0, .int 0, .int 0, .int 0, .int (-1), .int (-1), .ref (b 11), .ref (b 12), .ref (b 13), .int 0, .int 0, .ref (b 16), .ref (b 17), .ref (b 18), .ref (b 19), .ref (b 20), .ref (b 21), .ref (b 22), .ref (b 23), .ref (b 24), .int 0, .ref (b 26), .ref (b 27), .ref (b 28), .ref (b 29), .ref (b 30), .ref (b 31), .ref (b 32), .int 0, .int 0, .ref (b 35), .ref (b 36), .ref (b 37), .ref (b 38), .ref (b 39), .ref (b 40), .int 0, .ref (b 42), .ref (b 43), .ref (b 44), .int 0, .ref (b 46), .ref (b 47), .int 0, .ref (b 49)])), (b 40, .inl (cI, 256, .inl (fun _ => (0 : Int32))))]) [0, 1] (by decide) rfl
  have hKc := hK.sub (tys' := [(cI, .int)]) [0] rfl
  have hFc := va_free (wc := [(b 0, .inr (8, [.ref (b 1), .int 0, .int 0, .int 0, .int 0, .int 0, .int 0, .int 0, .int (-1), .int (-1), .ref (b 11), .ref (b 12), .ref (b 13), .int 0, .int 0, .ref (b 16), .ref (b 17), .ref (b 18), .ref (b 19), .ref (b 20), .ref (b 21), .ref (b 22), .ref (b 23), .ref (b 24), .int 0, .ref (b 26), .ref (b 27), .ref (b 28), .ref (b 29), .ref (b 30), .ref (b 31), .ref (b 32), .int 0, .int 0, .ref (b 35), .ref (b 36), .ref (b 37), .ref (b 38), .ref (b 39), .ref (b 40), .int 0, .ref (b 42), .ref (b 43), .ref (b 44), .int 0, .ref (b 46), .ref (b 47), .int 0, .ref (b 49)])), (b 40, .inl (cI, 256, .inl (fun _ => (0 : Int32))))]) hD hS hA [0, 1] rfl
  refine va_callv (va_runV (As := []) (rest := []) ⟨hx, hb, hml, hown, hw⟩ (m_pays l dC dI b cI s.heap.size) ⟨callB_of 0 hw (zz_good tw_155) rfl rfl rfl (hw _ tw_95) (hw _ tw_156) (by decide +kernel) ⟨Nat.le_of_ble_eq_true rfl, Nat.le_of_ble_eq_true rfl⟩, (hw _ tw_157), (hw _ tw_158)⟩ ⟨zz_blind, va_recv hKc hPc (ci := 8) (q0 := 0) rfl rfl, zz_pre hPc hKc hDc hN⟩ rfl rfl hl.1 rfl (lv_room (Nat.le_of_ble_eq_true rfl)) dX8_payments_1 ⟨Nat.le_of_ble_eq_true rfl, Nat.le_of_ble_eq_true rfl⟩) hS (fun q _ h => hFc q h) hFc (fun u_1 t H1 locs ht hvm e_1 hB hz1 hk1 hS => ?_)
  try dsimp only at e_1
  obtain ⟨v_1_0, rfl⟩ : ∃ z, z = u_1 := ⟨_, rfl⟩
  obtain ⟨hP1, hK1, hD1⟩ := hB
  rw [ht] at hP1
  have hK1 := va_K.moved hvm.symm hK1
  try dsimp only at e_1
  obtain ⟨hP, hD⟩ := va_join (wr := []) (w1 := [(b 0, .inr (8, [.ref (b 1), .int 0, .int 0, .int 0, .int 0, .int 0, .int 0, .int 0, .int (-1), .int (-1), .ref (b 11), .ref (b 12), .ref (b 13), .int 0, .int 0, .ref (b 16), .ref (b 17), .ref (b 18), .ref (b 19), .ref (b 20), .ref (b 21), .ref (b 22), .ref (b 23), .ref (b 24), .int 0, .ref (b 26), .ref (b 27), .ref (b 28), .ref (b 29), .ref (b 30), .ref (b 31), .ref (b 32), .int 0, .int 0, .ref (b 35), .ref (b 36), .ref (b 37), .ref (b 38), .ref (b 39), .ref (b 40), .int 0, .ref (b 42), .ref (b 43), .ref (b 44), .int 0, .ref (b 46), .ref (b 47), .int 0, .ref (b 49)])), (b 40, .inl (cI, 256, .inl v_1_0))]) hP hD [0, 1] [] rfl rfl (by decide) (by decide) hk1 hFc hP1 hD1
  clear hk1 ht hvm
  generalize H1 = H at hP hS ⊢
  have hP : va_P (dC, dI) vwCl [(b 0, .inr (8, [.ref (b 1), .int 0, .int 0, .int 0, .int 0, .int 0, .int 0, .int 0, .int (-1), .int (-1), .ref (b 11), .ref (b 12), .ref (b 13), .int 0, .int 0, .ref (b 16), .ref (b 17), .ref (b 18), .ref (b 19), .ref (b 20), .ref (b 21), .ref (b 22), .ref (b 23), .ref (b 24), .int 0, .ref (b 26), .ref (b 27), .ref (b 28), .ref (b 29), .ref (b 30), .ref (b 31), .ref (b 32), .int 0, .int 0, .ref (b 35), .ref (b 36), .ref (b 37), .ref (b 38), .ref (b 39), .ref (b 40), .int 0, .ref (b 42), .ref (b 43), .ref (b 44), .int 0, .ref (b 46), .ref (b 47), .int 0, .ref (b 49)])), (b 40, .inl (cI, 256, .inl v_1_0))] H := hP
  have hD : va_D A [(b 0, .inr (8, [.ref (b 1), .int 0, .int 0, .int 0, .int 0, .int 0, .int 0, .int 0, .int (-1), .int (-1), .ref (b 11), .ref (b 12), .ref (b 13), .int 0, .int 0, .ref (b 16), .ref (b 17), .ref (b 18), .ref (b 19), .ref (b 20), .ref (b 21), .ref (b 22), .ref (b 23), .ref (b 24), .int 0, .ref (b 26), .ref (b 27), .ref (b 28), .ref (b 29), .ref (b 30), .ref (b 31), .ref (b 32), .int 0, .int 0, .ref (b 35), .ref (b 36), .ref (b 37), .ref (b 38), .ref (b 39), .ref (b 40), .int 0, .ref (b 42), .ref (b 43), .ref (b 44), .int 0, .ref (b 46), .ref (b 47), .int 0, .ref (b 49)])), (b 40, .inl (cI, 256, .inl v_1_0))] := hD
  refine lv_aload_n hx hb dX8_payments_4 rfl (lv_at hl 0 rfl) ?_
  refine va_get (D := (dC, dI)) (ci := 8) (v := .int 0) (C := RX8) (T := TX8) (N := 49) hx hb hw zz_inX8 hown hK hP 0 rfl rfl 40 (by decide) (hw _ tw_150) (fun _ h9 => h9) rfl dX8_payments_5 ?_
  exact W.iret (v := 0) hx hb hr (fun t ht hW => ⟨⟨0, (), rfl, rfl, trivial⟩, hS.F ht⟩) hS.2.2 dX8_payments_8

set_option maxHeartbeats 4000000 in
set_option maxRecDepth 100000 in
theorem m_payment (l : Launch) (dC : Nat → ClassId) (dI : Nat → Nat → Nat) (b : Nat → Nat) (cI : ClassId) (p0 : Int32) (p1 : Int32) (sz : Nat) : Met l yX8_payment (zz_w yX8_payment cX8_payment 3 (some .int)) ({ frames := 2, cells := 0, slots := 0, locals := 46 }) (va_Pc [.ref (b 0), .int p0, .int p1] (zz_B (dC, dI) sz [(b 0, .inr (8, [.ref (b 1), .int 0, .int 0, .int 0, .int 0, .int 0, .int 0, .int 0, .int (-1), .int (-1), .ref (b 11), .ref (b 12), .ref (b 13), .int 0, .int 0, .ref (b 16), .ref (b 17), .ref (b 18), .ref (b 19), .ref (b 20), .ref (b 21), .ref (b 22), .ref (b 23), .ref (b 24), .int 0, .ref (b 26), .ref (b 27), .ref (b 28), .ref (b 29), .ref (b 30), .ref (b 31), .ref (b 32), .int 0, .int 0, .ref (b 35), .ref (b 36), .ref (b 37), .ref (b 38), .ref (b 39), .ref (b 40), .int 0, .ref (b 42), .ref (b 43), .ref (b 44), .int 0, .ref (b 46), .ref (b 47), .int 0, .ref (b 49)])), (b 40, .inl (cI, 256, .inl (fun _ => (0 : Int32))))] [(cI, .int)])) (va_Qi (fun (r : Int32) (_ : Unit) => r = -1) (fun _ _ => True) (va_A [(b 0, .inr (8, [.ref (b 1), .int 0, .int 0, .int 0, .int 0, .int 0, .int 0, .int 0, .int (-1), .int (-1), .ref (b 11), .ref (b 12), .ref (b 13), .int 0, .int 0, .ref (b 16), .ref (b 17), .ref (b 18), .ref (b 19), .ref (b 20), .ref (b 21), .ref (b 22), .ref (b 23), .ref (b 24), .int 0, .ref (b 26), .ref (b 27), .ref (b 28), .ref (b 29), .ref (b 30), .ref (b 31), .ref (b 32), .int 0, .int 0, .ref (b 35), .ref (b 36), .ref (b 37), .ref (b 38), .ref (b 39), .ref (b 40), .int 0, .ref (b 42), .ref (b 43), .ref (b 44), .int 0, .ref (b 46), .ref (b 47), .int 0, .ref (b 49)])), (b 40, .inl (cI, 256, .inl (fun _ => (0 : Int32))))] sz)) 0 0 (va_A [(b 0, .inr (8, [.ref (b 1), .int 0, .int 0, .int 0, .int 0, .int 0, .int 0, .int 0, .int (-1), .int (-1), .ref (b 11), .ref (b 12), .ref (b 13), .int 0, .int 0, .ref (b 16), .ref (b 17), .ref (b 18), .ref (b 19), .ref (b 20), .ref (b 21), .ref (b 22), .ref (b 23), .ref (b 24), .int 0, .ref (b 26), .ref (b 27), .ref (b 28), .ref (b 29), .ref (b 30), .ref (b 31), .ref (b 32), .int 0, .int 0, .ref (b 35), .ref (b 36), .ref (b 37), .ref (b 38), .ref (b 39), .ref (b 40), .int 0, .ref (b 42), .ref (b 43), .ref (b 44), .int 0, .ref (b 46), .ref (b 47), .int 0, .ref (b 49)])), (b 40, .inl (cI, 256, .inl (fun _ => (0 : Int32))))] sz) := by
  refine Met.ofW (cc := cX8_payment) (maxL := 3) (ret := (some .int)) (by decide) rfl ?_
  intro p e s m args below meth c s₁ B hml hv
  obtain ⟨rfl, hsz, hP, hK, hD0, hN⟩ := hv
  have hx := B.exec
  have hb := B.bytes
  have hr := B.returns
  have hts := atoms_spec (ws := zz_w yX8_payment cX8_payment 3 (some .int)) B.pre
  have hw : ∀ w ∈ zz_all, w.before _ s = true := fun w h => hts w (List.mem_cons_of_mem _ h)
  have hown : s.vm.findClass RX8 = some m.cls := findClass_of_methodNamed B.named
  have hlocks := B.notSynchronized
  subst hsz
  have hD := hD0.self (sz := s.heap.size)
  generalize hAe : va_A [(b 0, .inr (8, [.ref (b 1), .int 0, .int 0, .int 0, .int 0, .int 0, .int 0, .int 0, .int (-1), .int (-1), .ref (b 11), .ref (b 12), .ref (b 13), .int 0, .int 0, .ref (b 16), .ref (b 17), .ref (b 18), .ref (b 19), .ref (b 20), .ref (b 21), .ref (b 22), .ref (b 23), .ref (b 24), .int 0, .ref (b 26), .ref (b 27), .ref (b 28), .ref (b 29), .ref (b 30), .ref (b 31), .ref (b 32), .int 0, .int 0, .ref (b 35), .ref (b 36), .ref (b 37), .ref (b 38), .ref (b 39), .ref (b 40), .int 0, .ref (b 42), .ref (b 43), .ref (b 44), .int 0, .ref (b 46), .ref (b 47), .int 0, .ref (b 49)])), (b 40, .inl (cI, 256, .inl (fun _ => (0 : Int32))))] s.heap.size = A at hD ⊢
  have hA : ∀ q : Nat, s.heap.size ≤ q → A q := fun q h => by rw [← hAe]; exact Or.inr h
  have hS : va_S A s.heap s.heap [] := va_S.rf
  have hP : va_P (dC, dI) vwCl [(b 0, .inr (8, [.ref (b 1), .int 0, .int 0, .int 0, .int 0, .int 0, .int 0, .int 0, .int (-1), .int (-1), .ref (b 11), .ref (b 12), .ref (b 13), .int 0, .int 0, .ref (b 16), .ref (b 17), .ref (b 18), .ref (b 19), .ref (b 20), .ref (b 21), .ref (b 22), .ref (b 23), .ref (b 24), .int 0, .ref (b 26), .ref (b 27), .ref (b 28), .ref (b 29), .ref (b 30), .ref (b 31), .ref (b 32), .int 0, .int 0, .ref (b 35), .ref (b 36), .ref (b 37), .ref (b 38), .ref (b 39), .ref (b 40), .int 0, .ref (b 42), .ref (b 43), .ref (b 44), .int 0, .ref (b 46), .ref (b 47), .int 0, .ref (b 49)])), (b 40, .inl (cI, 256, .inl (fun _ => (0 : Int32))))] s.heap := hP
  have hl := lv_entry ([.ref (b 0), .int p0, .int p1]) (n := 3) (Nat.le_of_ble_eq_true rfl)
  rw [lg_entry_eq]
  generalize (lg_sl ([.ref (b 0), .int p0, .int p1]) ++ List.replicate (3 - (lg_sl ([.ref (b 0), .int p0, .int p1])).length) Slot.unset).toArray = ls at hl ⊢
  have hl : lv_has ls 3 [(0, .ref (b 0)), (1, .int p0), (2, .int p1)] := hl
  refine lv_aload_n hx hb dX8_payment_0 rfl (lv_at hl 0 rfl) ?_
  have hPc := hP.sub (ws' := [(b 0, .inr (8, [.ref (b 1), .int 0, .int 0, .int 0, .int 0, .int 0, .int 0, .int 0, .int (-1), .int (-1), .ref (b 11), .ref (b 12), .ref (b 13), .int 0, .int 0, .ref (b 16), .ref (b 17), .ref (b 18), .ref (b 19), .ref (b 20), .ref (b 21), .ref (b 22), .ref (b 23), .ref (b 24), .int 0, .ref (b 26), .ref (b 27), .ref (b 28), .ref (b 29), .ref (b 30), .ref (b 31), .ref (b 32), .int 0, .int 0, .ref (b 35), .ref (b 36), .ref (b 37), .ref (b 38), .ref (b 39), .ref (b 40), .int 0, .ref (b 42), .ref (b 43), .ref (b 44), .int 0, .ref (b 46), .ref (b 47), .int 0, .ref (b 49)])), (b 40, .inl (cI, 256, .inl (fun _ => (0 : Int32))))]) [0, 1] rfl
  have hDc := hD.sub (ws' := [(b 0, .inr (8, [.ref (b 1), .int 0, .int 0, .int 0, .int 0, .int 0, .int 0, .int 0, .int (-1), .int (-1), .ref (b 11), .ref (b 12), .ref (b 13), .int 0, .int 0, .ref (b 16), .ref (b 17), .ref (b 18), .ref (b 19), .ref (b 20), .ref (b 21), .ref (b 22), .ref (b 23), .ref (b 24), .int 0, .ref (b 26), .ref (b 27), .ref (b 28), .ref (b 29), .ref (b 30), .ref (b 31), .ref (b 32), .int 0, .int 0, .ref (b 35), .ref (b 36), .ref (b 37), .ref (b 38), .ref (b 39), .ref (b 40), .int 0, .ref (b 42), .ref (b 43), .ref (b 44), .int 0, .ref (b 46), .ref (b 47), .int 0, .ref (b 49)])), (b 40, .inl (cI, 256, .inl (fun _ => (0 : Int32))))]) [0, 1] (by decide) rfl
  have hKc := hK.sub (tys' := [(cI, .int)]) [0] rfl
  have hFc := va_free (wc := [(b 0, .inr (8, [.ref (b 1), .int 0, .int 0, .int 0, .int 0, .int 0, .int 0, .int 0, .int (-1), .int (-1), .ref (b 11), .ref (b 12), .ref (b 13), .int 0, .int 0, .ref (b 16), .ref (b 17), .ref (b 18), .ref (b 19), .ref (b 20), .ref (b 21), .ref (b 22), .ref (b 23), .ref (b 24), .int 0, .ref (b 26), .ref (b 27), .ref (b 28), .ref (b 29), .ref (b 30), .ref (b 31), .ref (b 32), .int 0, .int 0, .ref (b 35), .ref (b 36), .ref (b 37), .ref (b 38), .ref (b 39), .ref (b 40), .int 0, .ref (b 42), .ref (b 43), .ref (b 44), .int 0, .ref (b 46), .ref (b 47), .int 0, .ref (b 49)])), (b 40, .inl (cI, 256, .inl (fun _ => (0 : Int32))))]) hD hS hA [0, 1] rfl
  refine va_callv (va_runV (As := []) (rest := []) ⟨hx, hb, hml, hown, hw⟩ (m_pays l dC dI b cI s.heap.size) ⟨callB_of 0 hw (zz_good tw_155) rfl rfl rfl (hw _ tw_95) (hw _ tw_156) (by decide +kernel) ⟨Nat.le_of_ble_eq_true rfl, Nat.le_of_ble_eq_true rfl⟩, (hw _ tw_157), (hw _ tw_158)⟩ ⟨zz_blind, va_recv hKc hPc (ci := 8) (q0 := 0) rfl rfl, zz_pre hPc hKc hDc hN⟩ rfl rfl hl.1 rfl (lv_room (Nat.le_of_ble_eq_true rfl)) dX8_payment_1 ⟨Nat.le_of_ble_eq_true rfl, Nat.le_of_ble_eq_true rfl⟩) hS (fun q _ h => hFc q h) hFc (fun u_1 t H1 locs ht hvm e_1 hB hz1 hk1 hS => ?_)
  try dsimp only at e_1
  obtain ⟨v_1_0, rfl⟩ : ∃ z, z = u_1 := ⟨_, rfl⟩
  obtain ⟨hP1, hK1, hD1⟩ := hB
  rw [ht] at hP1
  have hK1 := va_K.moved hvm.symm hK1
  try dsimp only at e_1
  obtain ⟨hP, hD⟩ := va_join (wr := []) (w1 := [(b 0, .inr (8, [.ref (b 1), .int 0, .int 0, .int 0, .int 0, .int 0, .int 0, .int 0, .int (-1), .int (-1), .ref (b 11), .ref (b 12), .ref (b 13), .int 0, .int 0, .ref (b 16), .ref (b 17), .ref (b 18), .ref (b 19), .ref (b 20), .ref (b 21), .ref (b 22), .ref (b 23), .ref (b 24), .int 0, .ref (b 26), .ref (b 27), .ref (b 28), .ref (b 29), .ref (b 30), .ref (b 31), .ref (b 32), .int 0, .int 0, .ref (b 35), .ref (b 36), .ref (b 37), .ref (b 38), .ref (b 39), .ref (b 40), .int 0, .ref (b 42), .ref (b 43), .ref (b 44), .int 0, .ref (b 46), .ref (b 47), .int 0, .ref (b 49)])), (b 40, .inl (cI, 256, .inl v_1_0))]) hP hD [0, 1] [] rfl rfl (by decide) (by decide) hk1 hFc hP1 hD1
  clear hk1 ht hvm
  generalize H1 = H at hP hS ⊢
  have hP : va_P (dC, dI) vwCl [(b 0, .inr (8, [.ref (b 1), .int 0, .int 0, .int 0, .int 0, .int 0, .int 0, .int 0, .int (-1), .int (-1), .ref (b 11), .ref (b 12), .ref (b 13), .int 0, .int 0, .ref (b 16), .ref (b 17), .ref (b 18), .ref (b 19), .ref (b 20), .ref (b 21), .ref (b 22), .ref (b 23), .ref (b 24), .int 0, .ref (b 26), .ref (b 27), .ref (b 28), .ref (b 29), .ref (b 30), .ref (b 31), .ref (b 32), .int 0, .int 0, .ref (b 35), .ref (b 36), .ref (b 37), .ref (b 38), .ref (b 39), .ref (b 40), .int 0, .ref (b 42), .ref (b 43), .ref (b 44), .int 0, .ref (b 46), .ref (b 47), .int 0, .ref (b 49)])), (b 40, .inl (cI, 256, .inl v_1_0))] H := hP
  have hD : va_D A [(b 0, .inr (8, [.ref (b 1), .int 0, .int 0, .int 0, .int 0, .int 0, .int 0, .int 0, .int (-1), .int (-1), .ref (b 11), .ref (b 12), .ref (b 13), .int 0, .int 0, .ref (b 16), .ref (b 17), .ref (b 18), .ref (b 19), .ref (b 20), .ref (b 21), .ref (b 22), .ref (b 23), .ref (b 24), .int 0, .ref (b 26), .ref (b 27), .ref (b 28), .ref (b 29), .ref (b 30), .ref (b 31), .ref (b 32), .int 0, .int 0, .ref (b 35), .ref (b 36), .ref (b 37), .ref (b 38), .ref (b 39), .ref (b 40), .int 0, .ref (b 42), .ref (b 43), .ref (b 44), .int 0, .ref (b 46), .ref (b 47), .int 0, .ref (b 49)])), (b 40, .inl (cI, 256, .inl v_1_0))] := hD
  refine lv_iload_n hx hb dX8_payment_4 rfl (lv_at hl 1 rfl) ?_
  refine lv_i2l (v := Int32.toInt64 p0) hx hb dX8_payment_5 rfl ?_
  refine lv_lconst (v := Int32.toInt64 0) hx hb dX8_payment_6 (by decide) ?_
  refine lv_aload_n hx hb dX8_payment_7 rfl (lv_at hl 0 rfl) ?_
  refine va_get (D := (dC, dI)) (ci := 8) (v := .int 0) (C := RX8) (T := TX8) (N := 49) hx hb hw zz_inX8 hown hK hP 0 rfl rfl 40 (by decide) (hw _ tw_150) (fun _ h9 => h9) rfl dX8_payment_8 ?_
  refine lv_iconst (v := 1) hx hb dX8_payment_11 (by decide) ?_
  refine lv_isub hx hb dX8_payment_12 ?_
  refine zz_seti (-1) (by decide) ?_
  refine lv_i2l (v := Int32.toInt64 (-1)) hx hb dX8_payment_13 rfl ?_
  have hPc := hP.sub (ws' := []) [] rfl
  have hDc := hD.sub (ws' := []) [] (by decide) rfl
  have hKc := hK.sub (tys' := []) [] rfl
  have hFc := zz_free0 hS hA
  refine va_calli (va_runS (As := [.long (Int32.toInt64 p0), .long (Int32.toInt64 0), .long (Int32.toInt64 (-1))]) (rest := []) ⟨hx, hb, hml, hown, hw⟩ (k_in l dC dI p0 0 (-1) H.size) ⟨callB_of 3 hw (zz_good tw_94) rfl rfl rfl (hw _ tw_95) (hw _ tw_96) (by decide +kernel) ⟨Nat.le_of_ble_eq_true rfl, Nat.le_of_ble_eq_true rfl⟩, (hw _ tw_97)⟩ ⟨zz_blind, zz_pre hPc hKc hDc hN⟩ rfl rfl hl.1 rfl (lv_room (Nat.le_of_ble_eq_true rfl)) dX8_payment_14 ⟨Nat.le_of_ble_eq_true rfl, Nat.le_of_ble_eq_true rfl⟩) hS (fun q _ h => hFc q h) hFc (fun r_2 u_2 t H1 locs ht hvm e_2 hB hz1 hk1 hS => ?_)
  try dsimp only at e_2
  have hP := zz_keep hP hk1
  clear hk1 hB ht hvm
  generalize H1 = H at hP hS ⊢
  have hP : va_P (dC, dI) vwCl [(b 0, .inr (8, [.ref (b 1), .int 0, .int 0, .int 0, .int 0, .int 0, .int 0, .int 0, .int (-1), .int (-1), .ref (b 11), .ref (b 12), .ref (b 13), .int 0, .int 0, .ref (b 16), .ref (b 17), .ref (b 18), .ref (b 19), .ref (b 20), .ref (b 21), .ref (b 22), .ref (b 23), .ref (b 24), .int 0, .ref (b 26), .ref (b 27), .ref (b 28), .ref (b 29), .ref (b 30), .ref (b 31), .ref (b 32), .int 0, .int 0, .ref (b 35), .ref (b 36), .ref (b 37), .ref (b 38), .ref (b 39), .ref (b 40), .int 0, .ref (b 42), .ref (b 43), .ref (b 44), .int 0, .ref (b 46), .ref (b 47), .int 0, .ref (b 49)])), (b 40, .inl (cI, 256, .inl v_1_0))] H := hP
  have hD : va_D A [(b 0, .inr (8, [.ref (b 1), .int 0, .int 0, .int 0, .int 0, .int 0, .int 0, .int 0, .int (-1), .int (-1), .ref (b 11), .ref (b 12), .ref (b 13), .int 0, .int 0, .ref (b 16), .ref (b 17), .ref (b 18), .ref (b 19), .ref (b 20), .ref (b 21), .ref (b 22), .ref (b 23), .ref (b 24), .int 0, .ref (b 26), .ref (b 27), .ref (b 28), .ref (b 29), .ref (b 30), .ref (b 31), .ref (b 32), .int 0, .int 0, .ref (b 35), .ref (b 36), .ref (b 37), .ref (b 38), .ref (b 39), .ref (b 40), .int 0, .ref (b 42), .ref (b 43), .ref (b 44), .int 0, .ref (b 46), .ref (b 47), .int 0, .ref (b 49)])), (b 40, .inl (cI, 256, .inl v_1_0))] := hD
  refine zz_seti 0 (e_2.trans (zz_empty _)) ?_
  refine lv_if_ne (tgt := 22) hx hb dX8_payment_17 (by decide) (fun c_9 => absurd c_9 (by decide)) (fun _ => ?_)
  refine lv_iconst (v := (-1)) hx hb dX8_payment_20 (by decide) ?_
  exact W.iret (v := (-1)) hx hb hr (fun t ht hW => ⟨⟨(-1), (), rfl, rfl, trivial⟩, hS.F ht⟩) hS.2.2 dX8_payment_21

set_option maxHeartbeats 4000000 in
set_option maxRecDepth 100000 in
theorem m_even (l : Launch) (dC : Nat → ClassId) (dI : Nat → Nat → Nat) (b : Nat → Nat) (cI : ClassId) (sz : Nat) : Met l yX8_even (zz_w yX8_even cX8_even 1 (some .int)) ({ frames := 2, cells := 0, slots := 0, locals := 46 }) (va_Pc [.ref (b 0)] (zz_B (dC, dI) sz [(b 0, .inr (8, [.ref (b 1), .int 0, .int 0, .int 0, .int 0, .int 0, .int 0, .int 0, .int (-1), .int (-1), .ref (b 11), .ref (b 12), .ref (b 13), .int 0, .int 0, .ref (b 16), .ref (b 17), .ref (b 18), .ref (b 19), .ref (b 20), .ref (b 21), .ref (b 22), .ref (b 23), .ref (b 24), .int 0, .ref (b 26), .ref (b 27), .ref (b 28), .ref (b 29), .ref (b 30), .ref (b 31), .ref (b 32), .int 0, .int 0, .ref (b 35), .ref (b 36), .ref (b 37), .ref (b 38), .ref (b 39), .ref (b 40), .int 0, .ref (b 42), .ref (b 43), .ref (b 44), .int 0, .ref (b 46), .ref (b 47), .int 0, .ref (b 49)])), (b 40, .inl (cI, 256, .inl (fun _ => (0 : Int32))))] [(cI, .int)])) (va_Qi (fun (r : Int32) (_ : Unit) => r = 0) (fun _ _ => True) (va_A [(b 0, .inr (8, [.ref (b 1), .int 0, .int 0, .int 0, .int 0, .int 0, .int 0, .int 0, .int (-1), .int (-1), .ref (b 11), .ref (b 12), .ref (b 13), .int 0, .int 0, .ref (b 16), .ref (b 17), .ref (b 18), .ref (b 19), .ref (b 20), .ref (b 21), .ref (b 22), .ref (b 23), .ref (b 24), .int 0, .ref (b 26), .ref (b 27), .ref (b 28), .ref (b 29), .ref (b 30), .ref (b 31), .ref (b 32), .int 0, .int 0, .ref (b 35), .ref (b 36), .ref (b 37), .ref (b 38), .ref (b 39), .ref (b 40), .int 0, .ref (b 42), .ref (b 43), .ref (b 44), .int 0, .ref (b 46), .ref (b 47), .int 0, .ref (b 49)])), (b 40, .inl (cI, 256, .inl (fun _ => (0 : Int32))))] sz)) 0 0 (va_A [(b 0, .inr (8, [.ref (b 1), .int 0, .int 0, .int 0, .int 0, .int 0, .int 0, .int 0, .int (-1), .int (-1), .ref (b 11), .ref (b 12), .ref (b 13), .int 0, .int 0, .ref (b 16), .ref (b 17), .ref (b 18), .ref (b 19), .ref (b 20), .ref (b 21), .ref (b 22), .ref (b 23), .ref (b 24), .int 0, .ref (b 26), .ref (b 27), .ref (b 28), .ref (b 29), .ref (b 30), .ref (b 31), .ref (b 32), .int 0, .int 0, .ref (b 35), .ref (b 36), .ref (b 37), .ref (b 38), .ref (b 39), .ref (b 40), .int 0, .ref (b 42), .ref (b 43), .ref (b 44), .int 0, .ref (b 46), .ref (b 47), .int 0, .ref (b 49)])), (b 40, .inl (cI, 256, .inl (fun _ => (0 : Int32))))] sz) := by
  refine Met.ofW (cc := cX8_even) (maxL := 1) (ret := (some .int)) (by decide) rfl ?_
  intro p e s m args below meth c s₁ B hml hv
  obtain ⟨rfl, hsz, hP, hK, hD0, hN⟩ := hv
  have hx := B.exec
  have hb := B.bytes
  have hr := B.returns
  have hts := atoms_spec (ws := zz_w yX8_even cX8_even 1 (some .int)) B.pre
  have hw : ∀ w ∈ zz_all, w.before _ s = true := fun w h => hts w (List.mem_cons_of_mem _ h)
  have hown : s.vm.findClass RX8 = some m.cls := findClass_of_methodNamed B.named
  have hlocks := B.notSynchronized
  subst hsz
  have hD := hD0.self (sz := s.heap.size)
  generalize hAe : va_A [(b 0, .inr (8, [.ref (b 1), .int 0, .int 0, .int 0, .int 0, .int 0, .int 0, .int 0, .int (-1), .int (-1), .ref (b 11), .ref (b 12), .ref (b 13), .int 0, .int 0, .ref (b 16), .ref (b 17), .ref (b 18), .ref (b 19), .ref (b 20), .ref (b 21), .ref (b 22), .ref (b 23), .ref (b 24), .int 0, .ref (b 26), .ref (b 27), .ref (b 28), .ref (b 29), .ref (b 30), .ref (b 31), .ref (b 32), .int 0, .int 0, .ref (b 35), .ref (b 36), .ref (b 37), .ref (b 38), .ref (b 39), .ref (b 40), .int 0, .ref (b 42), .ref (b 43), .ref (b 44), .int 0, .ref (b 46), .ref (b 47), .int 0, .ref (b 49)])), (b 40, .inl (cI, 256, .inl (fun _ => (0 : Int32))))] s.heap.size = A at hD ⊢
  have hA : ∀ q : Nat, s.heap.size ≤ q → A q := fun q h => by rw [← hAe]; exact Or.inr h
  have hS : va_S A s.heap s.heap [] := va_S.rf
  have hP : va_P (dC, dI) vwCl [(b 0, .inr (8, [.ref (b 1), .int 0, .int 0, .int 0, .int 0, .int 0, .int 0, .int 0, .int (-1), .int (-1), .ref (b 11), .ref (b 12), .ref (b 13), .int 0, .int 0, .ref (b 16), .ref (b 17), .ref (b 18), .ref (b 19), .ref (b 20), .ref (b 21), .ref (b 22), .ref (b 23), .ref (b 24), .int 0, .ref (b 26), .ref (b 27), .ref (b 28), .ref (b 29), .ref (b 30), .ref (b 31), .ref (b 32), .int 0, .int 0, .ref (b 35), .ref (b 36), .ref (b 37), .ref (b 38), .ref (b 39), .ref (b 40), .int 0, .ref (b 42), .ref (b 43), .ref (b 44), .int 0, .ref (b 46), .ref (b 47), .int 0, .ref (b 49)])), (b 40, .inl (cI, 256, .inl (fun _ => (0 : Int32))))] s.heap := hP
  have hl := lv_entry ([.ref (b 0)]) (n := 1) (Nat.le_of_ble_eq_true rfl)
  rw [lg_entry_eq]
  generalize (lg_sl ([.ref (b 0)]) ++ List.replicate (1 - (lg_sl ([.ref (b 0)])).length) Slot.unset).toArray = ls at hl ⊢
  have hl : lv_has ls 1 [(0, .ref (b 0))] := hl
  refine lv_aload_n hx hb dX8_even_0 rfl (lv_at hl 0 rfl) ?_
  have hPc := hP.sub (ws' := [(b 0, .inr (8, [.ref (b 1), .int 0, .int 0, .int 0, .int 0, .int 0, .int 0, .int 0, .int (-1), .int (-1), .ref (b 11), .ref (b 12), .ref (b 13), .int 0, .int 0, .ref (b 16), .ref (b 17), .ref (b 18), .ref (b 19), .ref (b 20), .ref (b 21), .ref (b 22), .ref (b 23), .ref (b 24), .int 0, .ref (b 26), .ref (b 27), .ref (b 28), .ref (b 29), .ref (b 30), .ref (b 31), .ref (b 32), .int 0, .int 0, .ref (b 35), .ref (b 36), .ref (b 37), .ref (b 38), .ref (b 39), .ref (b 40), .int 0, .ref (b 42), .ref (b 43), .ref (b 44), .int 0, .ref (b 46), .ref (b 47), .int 0, .ref (b 49)])), (b 40, .inl (cI, 256, .inl (fun _ => (0 : Int32))))]) [0, 1] rfl
  have hDc := hD.sub (ws' := [(b 0, .inr (8, [.ref (b 1), .int 0, .int 0, .int 0, .int 0, .int 0, .int 0, .int 0, .int (-1), .int (-1), .ref (b 11), .ref (b 12), .ref (b 13), .int 0, .int 0, .ref (b 16), .ref (b 17), .ref (b 18), .ref (b 19), .ref (b 20), .ref (b 21), .ref (b 22), .ref (b 23), .ref (b 24), .int 0, .ref (b 26), .ref (b 27), .ref (b 28), .ref (b 29), .ref (b 30), .ref (b 31), .ref (b 32), .int 0, .int 0, .ref (b 35), .ref (b 36), .ref (b 37), .ref (b 38), .ref (b 39), .ref (b 40), .int 0, .ref (b 42), .ref (b 43), .ref (b 44), .int 0, .ref (b 46), .ref (b 47), .int 0, .ref (b 49)])), (b 40, .inl (cI, 256, .inl (fun _ => (0 : Int32))))]) [0, 1] (by decide) rfl
  have hKc := hK.sub (tys' := [(cI, .int)]) [0] rfl
  have hFc := va_free (wc := [(b 0, .inr (8, [.ref (b 1), .int 0, .int 0, .int 0, .int 0, .int 0, .int 0, .int 0, .int (-1), .int (-1), .ref (b 11), .ref (b 12), .ref (b 13), .int 0, .int 0, .ref (b 16), .ref (b 17), .ref (b 18), .ref (b 19), .ref (b 20), .ref (b 21), .ref (b 22), .ref (b 23), .ref (b 24), .int 0, .ref (b 26), .ref (b 27), .ref (b 28), .ref (b 29), .ref (b 30), .ref (b 31), .ref (b 32), .int 0, .int 0, .ref (b 35), .ref (b 36), .ref (b 37), .ref (b 38), .ref (b 39), .ref (b 40), .int 0, .ref (b 42), .ref (b 43), .ref (b 44), .int 0, .ref (b 46), .ref (b 47), .int 0, .ref (b 49)])), (b 40, .inl (cI, 256, .inl (fun _ => (0 : Int32))))]) hD hS hA [0, 1] rfl
  refine va_callv (va_runV (As := []) (rest := []) ⟨hx, hb, hml, hown, hw⟩ (m_pays l dC dI b cI s.heap.size) ⟨callB_of 0 hw (zz_good tw_155) rfl rfl rfl (hw _ tw_95) (hw _ tw_156) (by decide +kernel) ⟨Nat.le_of_ble_eq_true rfl, Nat.le_of_ble_eq_true rfl⟩, (hw _ tw_157), (hw _ tw_158)⟩ ⟨zz_blind, va_recv hKc hPc (ci := 8) (q0 := 0) rfl rfl, zz_pre hPc hKc hDc hN⟩ rfl rfl hl.1 rfl (lv_room (Nat.le_of_ble_eq_true rfl)) dX8_even_1 ⟨Nat.le_of_ble_eq_true rfl, Nat.le_of_ble_eq_true rfl⟩) hS (fun q _ h => hFc q h) hFc (fun u_1 t H1 locs ht hvm e_1 hB hz1 hk1 hS => ?_)
  try dsimp only at e_1
  obtain ⟨v_1_0, rfl⟩ : ∃ z, z = u_1 := ⟨_, rfl⟩
  obtain ⟨hP1, hK1, hD1⟩ := hB
  rw [ht] at hP1
  have hK1 := va_K.moved hvm.symm hK1
  try dsimp only at e_1
  obtain ⟨hP, hD⟩ := va_join (wr := []) (w1 := [(b 0, .inr (8, [.ref (b 1), .int 0, .int 0, .int 0, .int 0, .int 0, .int 0, .int 0, .int (-1), .int (-1), .ref (b 11), .ref (b 12), .ref (b 13), .int 0, .int 0, .ref (b 16), .ref (b 17), .ref (b 18), .ref (b 19), .ref (b 20), .ref (b 21), .ref (b 22), .ref (b 23), .ref (b 24), .int 0, .ref (b 26), .ref (b 27), .ref (b 28), .ref (b 29), .ref (b 30), .ref (b 31), .ref (b 32), .int 0, .int 0, .ref (b 35), .ref (b 36), .ref (b 37), .ref (b 38), .ref (b 39), .ref (b 40), .int 0, .ref (b 42), .ref (b 43), .ref (b 44), .int 0, .ref (b 46), .ref (b 47), .int 0, .ref (b 49)])), (b 40, .inl (cI, 256, .inl v_1_0))]) hP hD [0, 1] [] rfl rfl (by decide) (by decide) hk1 hFc hP1 hD1
  clear hk1 ht hvm
  generalize H1 = H at hP hS ⊢
  have hP : va_P (dC, dI) vwCl [(b 0, .inr (8, [.ref (b 1), .int 0, .int 0, .int 0, .int 0, .int 0, .int 0, .int 0, .int (-1), .int (-1), .ref (b 11), .ref (b 12), .ref (b 13), .int 0, .int 0, .ref (b 16), .ref (b 17), .ref (b 18), .ref (b 19), .ref (b 20), .ref (b 21), .ref (b 22), .ref (b 23), .ref (b 24), .int 0, .ref (b 26), .ref (b 27), .ref (b 28), .ref (b 29), .ref (b 30), .ref (b 31), .ref (b 32), .int 0, .int 0, .ref (b 35), .ref (b 36), .ref (b 37), .ref (b 38), .ref (b 39), .ref (b 40), .int 0, .ref (b 42), .ref (b 43), .ref (b 44), .int 0, .ref (b 46), .ref (b 47), .int 0, .ref (b 49)])), (b 40, .inl (cI, 256, .inl v_1_0))] H := hP
  have hD : va_D A [(b 0, .inr (8, [.ref (b 1), .int 0, .int 0, .int 0, .int 0, .int 0, .int 0, .int 0, .int (-1), .int (-1), .ref (b 11), .ref (b 12), .ref (b 13), .int 0, .int 0, .ref (b 16), .ref (b 17), .ref (b 18), .ref (b 19), .ref (b 20), .ref (b 21), .ref (b 22), .ref (b 23), .ref (b 24), .int 0, .ref (b 26), .ref (b 27), .ref (b 28), .ref (b 29), .ref (b 30), .ref (b 31), .ref (b 32), .int 0, .int 0, .ref (b 35), .ref (b 36), .ref (b 37), .ref (b 38), .ref (b 39), .ref (b 40), .int 0, .ref (b 42), .ref (b 43), .ref (b 44), .int 0, .ref (b 46), .ref (b 47), .int 0, .ref (b 49)])), (b 40, .inl (cI, 256, .inl v_1_0))] := hD
  refine lv_aload_n hx hb dX8_even_4 rfl (lv_at hl 0 rfl) ?_
  refine lv_iconst (v := 0) hx hb dX8_even_5 (by decide) ?_
  refine va_put (D := (dC, dI)) (ci := 8) (v := .int 0) (ty := .int) (C := RX8) (T := TX8) (N := 49) hx hb hw zz_inX8 tyX8 tyX8_ok nmX8 hown hK hP hD hS 0 rfl rfl 33 (by decide) (hw _ tw_137) (fun _ h9 => h9) rfl (by decide +kernel) rfl rfl (Nat.le_of_ble_eq_true rfl) dX8_even_6 (fun H locs hP hD hS => ?_)
  have hP : va_P (dC, dI) vwCl [(b 0, .inr (8, [.ref (b 1), .int 0, .int 0, .int 0, .int 0, .int 0, .int 0, .int 0, .int (-1), .int (-1), .ref (b 11), .ref (b 12), .ref (b 13), .int 0, .int 0, .ref (b 16), .ref (b 17), .ref (b 18), .ref (b 19), .ref (b 20), .ref (b 21), .ref (b 22), .ref (b 23), .ref (b 24), .int 0, .ref (b 26), .ref (b 27), .ref (b 28), .ref (b 29), .ref (b 30), .ref (b 31), .ref (b 32), .int 0, .int 0, .ref (b 35), .ref (b 36), .ref (b 37), .ref (b 38), .ref (b 39), .ref (b 40), .int 0, .ref (b 42), .ref (b 43), .ref (b 44), .int 0, .ref (b 46), .ref (b 47), .int 0, .ref (b 49)])), (b 40, .inl (cI, 256, .inl v_1_0))] H := hP
  have hD : va_D A [(b 0, .inr (8, [.ref (b 1), .int 0, .int 0, .int 0, .int 0, .int 0, .int 0, .int 0, .int (-1), .int (-1), .ref (b 11), .ref (b 12), .ref (b 13), .int 0, .int 0, .ref (b 16), .ref (b 17), .ref (b 18), .ref (b 19), .ref (b 20), .ref (b 21), .ref (b 22), .ref (b 23), .ref (b 24), .int 0, .ref (b 26), .ref (b 27), .ref (b 28), .ref (b 29), .ref (b 30), .ref (b 31), .ref (b 32), .int 0, .int 0, .ref (b 35), .ref (b 36), .ref (b 37), .ref (b 38), .ref (b 39), .ref (b 40), .int 0, .ref (b 42), .ref (b 43), .ref (b 44), .int 0, .ref (b 46), .ref (b 47), .int 0, .ref (b 49)])), (b 40, .inl (cI, 256, .inl v_1_0))] := hD
  refine lv_aload_n hx hb dX8_even_9 rfl (lv_at hl 0 rfl) ?_
  refine va_get (D := (dC, dI)) (ci := 8) (v := .int 0) (C := RX8) (T := TX8) (N := 49) hx hb hw zz_inX8 hown hK hP 0 rfl rfl 40 (by decide) (hw _ tw_150) (fun _ h9 => h9) rfl dX8_even_10 ?_
  exact W.iret (v := 0) hx hb hr (fun t ht hW => ⟨⟨0, (), rfl, rfl, trivial⟩, hS.F ht⟩) hS.2.2 dX8_even_13

set_option maxHeartbeats 4000000 in
set_option maxRecDepth 100000 in
theorem m_lost (l : Launch) (dC : Nat → ClassId) (dI : Nat → Nat → Nat) (b : Nat → Nat) (p0 : Int32) (sz : Nat) : Met l yX8_lost (zz_w yX8_lost cX8_lost 9 (some .int)) ({ frames := 0, cells := 0, slots := 0, locals := 0 }) (va_Pc [.ref (b 0), .int p0] (zz_B (dC, dI) sz [(b 0, .inr (8, [.ref (b 1), .int 0, .int 0, .int 0, .int 0, .int 0, .int 0, .int 0, .int (-1), .int (-1), .ref (b 11), .ref (b 12), .ref (b 13), .int 0, .int 0, .ref (b 16), .ref (b 17), .ref (b 18), .ref (b 19), .ref (b 20), .ref (b 21), .ref (b 22), .ref (b 23), .ref (b 24), .int 0, .ref (b 26), .ref (b 27), .ref (b 28), .ref (b 29), .ref (b 30), .ref (b 31), .ref (b 32), .int 0, .int 0, .ref (b 35), .ref (b 36), .ref (b 37), .ref (b 38), .ref (b 39), .ref (b 40), .int 0, .ref (b 42), .ref (b 43), .ref (b 44), .int 0, .ref (b 46), .ref (b 47), .int 0, .ref (b 49)]))] [])) (va_Qi (fun (r : Int32) (_ : Unit) => r = 0) (fun _ _ => True) (va_A [] sz)) 0 0 (va_A [] sz) := by
  refine Met.ofW (cc := cX8_lost) (maxL := 9) (ret := (some .int)) (by decide) rfl ?_
  intro p e s m args below meth c s₁ B hml hv
  obtain ⟨rfl, hsz, hP, hK, hD0, hN⟩ := hv
  have hx := B.exec
  have hb := B.bytes
  have hr := B.returns
  have hts := atoms_spec (ws := zz_w yX8_lost cX8_lost 9 (some .int)) B.pre
  have hw : ∀ w ∈ zz_all, w.before _ s = true := fun w h => hts w (List.mem_cons_of_mem _ h)
  have hown : s.vm.findClass RX8 = some m.cls := findClass_of_methodNamed B.named
  have hlocks := B.notSynchronized
  subst hsz
  have hD := hD0
  generalize hAe : va_A [] s.heap.size = A
  have hA : ∀ q : Nat, s.heap.size ≤ q → A q := fun q h => by rw [← hAe]; exact Or.inr h
  have hS : va_S A s.heap s.heap [] := va_S.rf
  have hP : va_P (dC, dI) vwCl [(b 0, .inr (8, [.ref (b 1), .int 0, .int 0, .int 0, .int 0, .int 0, .int 0, .int 0, .int (-1), .int (-1), .ref (b 11), .ref (b 12), .ref (b 13), .int 0, .int 0, .ref (b 16), .ref (b 17), .ref (b 18), .ref (b 19), .ref (b 20), .ref (b 21), .ref (b 22), .ref (b 23), .ref (b 24), .int 0, .ref (b 26), .ref (b 27), .ref (b 28), .ref (b 29), .ref (b 30), .ref (b 31), .ref (b 32), .int 0, .int 0, .ref (b 35), .ref (b 36), .ref (b 37), .ref (b 38), .ref (b 39), .ref (b 40), .int 0, .ref (b 42), .ref (b 43), .ref (b 44), .int 0, .ref (b 46), .ref (b 47), .int 0, .ref (b 49)]))] s.heap := hP
  have hl := lv_entry ([.ref (b 0), .int p0]) (n := 9) (Nat.le_of_ble_eq_true rfl)
  rw [lg_entry_eq]
  generalize (lg_sl ([.ref (b 0), .int p0]) ++ List.replicate (9 - (lg_sl ([.ref (b 0), .int p0])).length) Slot.unset).toArray = ls at hl ⊢
  have hl : lv_has ls 9 [(0, .ref (b 0)), (1, .int p0)] := hl
  refine lv_aload_n hx hb dX8_lost_0 rfl (lv_at hl 0 rfl) ?_
  refine va_get (D := (dC, dI)) (ci := 8) (v := .int 0) (C := RX8) (T := TX8) (N := 49) hx hb hw zz_inX8 hown hK hP 0 rfl rfl 44 (by decide) (hw _ tw_159) (fun _ h9 => h9) rfl dX8_lost_1 ?_
  refine lv_istore_n (lv' := [(2, .int 0), (0, .ref (b 0)), (1, .int p0)]) hx hb dX8_lost_4 rfl hl (by decide) rfl (fun ls hl => ?_)
  refine lv_iconst (v := 0) hx hb dX8_lost_5 (by decide) ?_
  refine lv_istore_n (lv' := [(3, .int 0), (2, .int 0), (0, .ref (b 0)), (1, .int p0)]) hx hb dX8_lost_6 rfl hl (by decide) rfl (fun ls hl => ?_)
  refine lv_iconst (v := 0) hx hb dX8_lost_7 (by decide) ?_
  refine lv_istore (lv' := [(4, .int 0), (3, .int 0), (2, .int 0), (0, .ref (b 0)), (1, .int p0)]) hx hb dX8_lost_8 hl (by decide) rfl (fun ls hl => ?_)
  refine lv_iload hx hb dX8_lost_10 (lv_at hl 0 rfl) ?_
  refine lv_aload_n hx hb dX8_lost_12 rfl (lv_at hl 3 rfl) ?_
  refine va_get (D := (dC, dI)) (ci := 8) (v := .int 0) (C := RX8) (T := TX8) (N := 49) hx hb hw zz_inX8 hown hK hP 0 rfl rfl 44 (by decide) (hw _ tw_159) (fun _ h9 => h9) rfl dX8_lost_13 ?_
  refine lv_icmp_ge (tgt := 49) hx hb dX8_lost_16 (by decide) (fun _ => ?_) (fun c_9 => absurd c_9 (by decide))
  refine lv_aload_n hx hb dX8_lost_49 rfl (lv_at hl 3 rfl) ?_
  refine va_get (D := (dC, dI)) (ci := 8) (v := .int 0) (C := RX8) (T := TX8) (N := 49) hx hb hw zz_inX8 hown hK hP 0 rfl rfl 13 (by decide) (hw _ tw_138) (fun _ h9 => h9) rfl dX8_lost_50 ?_
  refine lv_istore (lv' := [(4, .int 0), (3, .int 0), (2, .int 0), (0, .ref (b 0)), (1, .int p0)]) hx hb dX8_lost_53 hl (by decide) rfl (fun ls hl => ?_)
  refine lv_iload_n hx hb dX8_lost_55 rfl (lv_at hl 2 rfl) ?_
  refine lv_if_le (tgt := 197) hx hb dX8_lost_56 (by decide) (fun _ => ?_) (fun c_9 => absurd c_9 (by decide))
  refine lv_iload_n hx hb dX8_lost_197 rfl (lv_at hl 1 rfl) ?_
  exact W.iret (v := 0) hx hb hr (fun t ht hW => ⟨⟨0, (), rfl, rfl, trivial⟩, hS.F ht⟩) hS.2.2 dX8_lost_198

set_option maxHeartbeats 4000000 in
set_option maxRecDepth 100000 in
theorem m_nextOrder (l : Launch) (dC : Nat → ClassId) (dI : Nat → Nat → Nat) (b : Nat → Nat) (sz : Nat) : Met l yX8_nextOrder (zz_w yX8_nextOrder cX8_nextOrder 5 (some .boolean)) ({ frames := 0, cells := 0, slots := 0, locals := 0 }) (va_Pc [.ref (b 0)] (zz_B (dC, dI) sz [(b 0, .inr (8, [.ref (b 1), .int 0, .int 0, .int 0, .int 0, .int 0, .int 0, .int 0, .int (-1), .int (-1), .ref (b 11), .ref (b 12), .ref (b 13), .int 0, .int 0, .ref (b 16), .ref (b 17), .ref (b 18), .ref (b 19), .ref (b 20), .ref (b 21), .ref (b 22), .ref (b 23), .ref (b 24), .int 0, .ref (b 26), .ref (b 27), .ref (b 28), .ref (b 29), .ref (b 30), .ref (b 31), .ref (b 32), .int 0, .int 0, .ref (b 35), .ref (b 36), .ref (b 37), .ref (b 38), .ref (b 39), .ref (b 40), .int 0, .ref (b 42), .ref (b 43), .ref (b 44), .int 0, .ref (b 46), .ref (b 47), .int 0, .ref (b 49)]))] [])) (va_Qi (fun (r : Int32) (_ : Unit) => r = 0) (fun _ _ => True) (va_A [] sz)) 0 0 (va_A [] sz) := by
  refine Met.ofW (cc := cX8_nextOrder) (maxL := 5) (ret := (some .boolean)) (by decide) rfl ?_
  intro p e s m args below meth c s₁ B hml hv
  obtain ⟨rfl, hsz, hP, hK, hD0, hN⟩ := hv
  have hx := B.exec
  have hb := B.bytes
  have hr := B.returns
  have hts := atoms_spec (ws := zz_w yX8_nextOrder cX8_nextOrder 5 (some .boolean)) B.pre
  have hw : ∀ w ∈ zz_all, w.before _ s = true := fun w h => hts w (List.mem_cons_of_mem _ h)
  have hown : s.vm.findClass RX8 = some m.cls := findClass_of_methodNamed B.named
  have hlocks := B.notSynchronized
  subst hsz
  have hD := hD0
  generalize hAe : va_A [] s.heap.size = A
  have hA : ∀ q : Nat, s.heap.size ≤ q → A q := fun q h => by rw [← hAe]; exact Or.inr h
  have hS : va_S A s.heap s.heap [] := va_S.rf
  have hP : va_P (dC, dI) vwCl [(b 0, .inr (8, [.ref (b 1), .int 0, .int 0, .int 0, .int 0, .int 0, .int 0, .int 0, .int (-1), .int (-1), .ref (b 11), .ref (b 12), .ref (b 13), .int 0, .int 0, .ref (b 16), .ref (b 17), .ref (b 18), .ref (b 19), .ref (b 20), .ref (b 21), .ref (b 22), .ref (b 23), .ref (b 24), .int 0, .ref (b 26), .ref (b 27), .ref (b 28), .ref (b 29), .ref (b 30), .ref (b 31), .ref (b 32), .int 0, .int 0, .ref (b 35), .ref (b 36), .ref (b 37), .ref (b 38), .ref (b 39), .ref (b 40), .int 0, .ref (b 42), .ref (b 43), .ref (b 44), .int 0, .ref (b 46), .ref (b 47), .int 0, .ref (b 49)]))] s.heap := hP
  have hl := lv_entry ([.ref (b 0)]) (n := 5) (Nat.le_of_ble_eq_true rfl)
  rw [lg_entry_eq]
  generalize (lg_sl ([.ref (b 0)]) ++ List.replicate (5 - (lg_sl ([.ref (b 0)])).length) Slot.unset).toArray = ls at hl ⊢
  have hl : lv_has ls 5 [(0, .ref (b 0))] := hl
  refine lv_aload_n hx hb dX8_nextOrder_0 rfl (lv_at hl 0 rfl) ?_
  refine va_get (D := (dC, dI)) (ci := 8) (v := .int 0) (C := RX8) (T := TX8) (N := 49) hx hb hw zz_inX8 hown hK hP 0 rfl rfl 44 (by decide) (hw _ tw_159) (fun _ h9 => h9) rfl dX8_nextOrder_1 ?_
  refine lv_iconst (v := 2) hx hb dX8_nextOrder_4 (by decide) ?_
  refine lv_isub hx hb dX8_nextOrder_5 ?_
  refine zz_seti (-2) (by decide) ?_
  refine lv_istore_n (lv' := [(1, .int (-2)), (0, .ref (b 0))]) hx hb dX8_nextOrder_6 rfl hl (by decide) rfl (fun ls hl => ?_)
  refine lv_iload_n hx hb dX8_nextOrder_7 rfl (lv_at hl 0 rfl) ?_
  refine lv_if_lt (tgt := 34) hx hb dX8_nextOrder_8 (by decide) (fun _ => ?_) (fun c_9 => absurd c_9 (by decide))
  refine lv_iload_n hx hb dX8_nextOrder_34 rfl (lv_at hl 0 rfl) ?_
  refine lv_if_ge (tgt := 40) hx hb dX8_nextOrder_35 (by decide) (fun c_9 => absurd c_9 (by decide)) (fun _ => ?_)
  refine lv_iconst (v := 0) hx hb dX8_nextOrder_38 (by decide) ?_
  exact W.zret (v := 0) hx hb hr (rfl) (fun t ht hW => ⟨⟨0, (), rfl, rfl, trivial⟩, hS.F ht⟩) hS.2.2 dX8_nextOrder_39

set_option maxHeartbeats 4000000 in
set_option maxRecDepth 100000 in
theorem m_plan (l : Launch) (dC : Nat → ClassId) (dI : Nat → Nat → Nat) (b : Nat → Nat) (p0 : Int32) (sz : Nat) : Met l yX8_plan (zz_w yX8_plan cX8_plan 7 (some .int)) ({ frames := 1, cells := 0, slots := 0, locals := 28 }) (va_Pc [.ref (b 0), .int p0] (zz_B (dC, dI) sz [(b 0, .inr (8, [.ref (b 1), .int 0, .int 0, .int 0, .int 0, .int 0, .int 0, .int 0, .int (-1), .int (-1), .ref (b 11), .ref (b 12), .ref (b 13), .int 0, .int 0, .ref (b 16), .ref (b 17), .ref (b 18), .ref (b 19), .ref (b 20), .ref (b 21), .ref (b 22), .ref (b 23), .ref (b 24), .int 0, .ref (b 26), .ref (b 27), .ref (b 28), .ref (b 29), .ref (b 30), .ref (b 31), .ref (b 32), .int 0, .int 0, .ref (b 35), .ref (b 36), .ref (b 37), .ref (b 38), .ref (b 39), .ref (b 40), .int 0, .ref (b 42), .ref (b 43), .ref (b 44), .int 0, .ref (b 46), .ref (b 47), .int 0, .ref (b 49)]))] [])) (va_Qi (fun (r : Int32) (_ : Unit) => r = an_plan p0) (fun _ _ => True) (va_A [(b 0, .inr (8, [.ref (b 1), .int 0, .int 0, .int 0, .int 0, .int 0, .int 0, .int 0, .int (-1), .int (-1), .ref (b 11), .ref (b 12), .ref (b 13), .int 0, .int 0, .ref (b 16), .ref (b 17), .ref (b 18), .ref (b 19), .ref (b 20), .ref (b 21), .ref (b 22), .ref (b 23), .ref (b 24), .int 0, .ref (b 26), .ref (b 27), .ref (b 28), .ref (b 29), .ref (b 30), .ref (b 31), .ref (b 32), .int 0, .int 0, .ref (b 35), .ref (b 36), .ref (b 37), .ref (b 38), .ref (b 39), .ref (b 40), .int 0, .ref (b 42), .ref (b 43), .ref (b 44), .int 0, .ref (b 46), .ref (b 47), .int 0, .ref (b 49)]))] sz)) 0 0 (va_A [(b 0, .inr (8, [.ref (b 1), .int 0, .int 0, .int 0, .int 0, .int 0, .int 0, .int 0, .int (-1), .int (-1), .ref (b 11), .ref (b 12), .ref (b 13), .int 0, .int 0, .ref (b 16), .ref (b 17), .ref (b 18), .ref (b 19), .ref (b 20), .ref (b 21), .ref (b 22), .ref (b 23), .ref (b 24), .int 0, .ref (b 26), .ref (b 27), .ref (b 28), .ref (b 29), .ref (b 30), .ref (b 31), .ref (b 32), .int 0, .int 0, .ref (b 35), .ref (b 36), .ref (b 37), .ref (b 38), .ref (b 39), .ref (b 40), .int 0, .ref (b 42), .ref (b 43), .ref (b 44), .int 0, .ref (b 46), .ref (b 47), .int 0, .ref (b 49)]))] sz) := by
  refine Met.ofW (cc := cX8_plan) (maxL := 7) (ret := (some .int)) (by decide) rfl ?_
  intro p e s m args below meth c s₁ B hml hv
  obtain ⟨rfl, hsz, hP, hK, hD0, hN⟩ := hv
  have hx := B.exec
  have hb := B.bytes
  have hr := B.returns
  have hts := atoms_spec (ws := zz_w yX8_plan cX8_plan 7 (some .int)) B.pre
  have hw : ∀ w ∈ zz_all, w.before _ s = true := fun w h => hts w (List.mem_cons_of_mem _ h)
  have hown : s.vm.findClass RX8 = some m.cls := findClass_of_methodNamed B.named
  have hlocks := B.notSynchronized
  subst hsz
  have hD := hD0.self (sz := s.heap.size)
  generalize hAe : va_A [(b 0, .inr (8, [.ref (b 1), .int 0, .int 0, .int 0, .int 0, .int 0, .int 0, .int 0, .int (-1), .int (-1), .ref (b 11), .ref (b 12), .ref (b 13), .int 0, .int 0, .ref (b 16), .ref (b 17), .ref (b 18), .ref (b 19), .ref (b 20), .ref (b 21), .ref (b 22), .ref (b 23), .ref (b 24), .int 0, .ref (b 26), .ref (b 27), .ref (b 28), .ref (b 29), .ref (b 30), .ref (b 31), .ref (b 32), .int 0, .int 0, .ref (b 35), .ref (b 36), .ref (b 37), .ref (b 38), .ref (b 39), .ref (b 40), .int 0, .ref (b 42), .ref (b 43), .ref (b 44), .int 0, .ref (b 46), .ref (b 47), .int 0, .ref (b 49)]))] s.heap.size = A at hD ⊢
  have hA : ∀ q : Nat, s.heap.size ≤ q → A q := fun q h => by rw [← hAe]; exact Or.inr h
  have hS : va_S A s.heap s.heap [] := va_S.rf
  have hP : va_P (dC, dI) vwCl [(b 0, .inr (8, [.ref (b 1), .int 0, .int 0, .int 0, .int 0, .int 0, .int 0, .int 0, .int (-1), .int (-1), .ref (b 11), .ref (b 12), .ref (b 13), .int 0, .int 0, .ref (b 16), .ref (b 17), .ref (b 18), .ref (b 19), .ref (b 20), .ref (b 21), .ref (b 22), .ref (b 23), .ref (b 24), .int 0, .ref (b 26), .ref (b 27), .ref (b 28), .ref (b 29), .ref (b 30), .ref (b 31), .ref (b 32), .int 0, .int 0, .ref (b 35), .ref (b 36), .ref (b 37), .ref (b 38), .ref (b 39), .ref (b 40), .int 0, .ref (b 42), .ref (b 43), .ref (b 44), .int 0, .ref (b 46), .ref (b 47), .int 0, .ref (b 49)]))] s.heap := hP
  have hl := lv_entry ([.ref (b 0), .int p0]) (n := 7) (Nat.le_of_ble_eq_true rfl)
  rw [lg_entry_eq]
  generalize (lg_sl ([.ref (b 0), .int p0]) ++ List.replicate (7 - (lg_sl ([.ref (b 0), .int p0])).length) Slot.unset).toArray = ls at hl ⊢
  have hl : lv_has ls 7 [(0, .ref (b 0)), (1, .int p0)] := hl
  refine lv_iconst (v := 0) hx hb dX8_plan_0 (by decide) ?_
  refine lv_istore_n (lv' := [(2, .int 0), (0, .ref (b 0)), (1, .int p0)]) hx hb dX8_plan_1 rfl hl (by decide) rfl (fun ls hl => ?_)
  refine lv_iconst (v := 0) hx hb dX8_plan_2 (by decide) ?_
  refine lv_istore_n (lv' := [(3, .int 0), (2, .int 0), (0, .ref (b 0)), (1, .int p0)]) hx hb dX8_plan_3 rfl hl (by decide) rfl (fun ls hl => ?_)
  refine lv_iload_n hx hb dX8_plan_4 rfl (lv_at hl 0 rfl) ?_
  refine lv_aload_n hx hb dX8_plan_5 rfl (lv_at hl 2 rfl) ?_
  refine va_get (D := (dC, dI)) (ci := 8) (v := .int 0) (C := RX8) (T := TX8) (N := 49) hx hb hw zz_inX8 hown hK hP 0 rfl rfl 24 (by decide) (hw _ tw_98) (fun _ h9 => h9) rfl dX8_plan_6 ?_
  refine lv_icmp_ge (tgt := 35) hx hb dX8_plan_9 (by decide) (fun _ => ?_) (fun c_9 => absurd c_9 (by decide))
  refine lv_iload_n hx hb dX8_plan_35 rfl (lv_at hl 3 rfl) ?_
  refine lv_i2l (v := Int32.toInt64 p0) hx hb dX8_plan_36 rfl ?_
  refine lv_lconst (v := Int32.toInt64 1) hx hb dX8_plan_37 (by decide) ?_
  refine lv_ldc2 (v := 99) hx hb hown (hw _ tw_160) dX8_plan_38 ?_
  refine zz_setl (Int32.toInt64 99) (by decide) ?_
  have hPc := hP.sub (ws' := []) [] rfl
  have hDc := hD.sub (ws' := []) [] (by decide) rfl
  have hKc := hK.sub (tys' := []) [] rfl
  have hFc := zz_free0 hS hA
  refine va_calli (va_runS (As := [.long (Int32.toInt64 p0), .long (Int32.toInt64 1), .long (Int32.toInt64 99)]) (rest := []) ⟨hx, hb, hml, hown, hw⟩ (k_in l dC dI p0 1 99 s.heap.size) ⟨callB_of 3 hw (zz_good tw_94) rfl rfl rfl (hw _ tw_95) (hw _ tw_96) (by decide +kernel) ⟨Nat.le_of_ble_eq_true rfl, Nat.le_of_ble_eq_true rfl⟩, (hw _ tw_97)⟩ ⟨zz_blind, zz_pre hPc hKc hDc hN⟩ rfl rfl hl.1 rfl (lv_room (Nat.le_of_ble_eq_true rfl)) dX8_plan_41 ⟨Nat.le_of_ble_eq_true rfl, Nat.le_of_ble_eq_true rfl⟩) hS (fun q _ h => hFc q h) hFc (fun r_1 u_1 t H1 locs ht hvm e_1 hB hz1 hk1 hS => ?_)
  try dsimp only at e_1
  have hP := zz_keep hP hk1
  clear hk1 hB ht hvm
  generalize H1 = H at hP hS ⊢
  have hP : va_P (dC, dI) vwCl [(b 0, .inr (8, [.ref (b 1), .int 0, .int 0, .int 0, .int 0, .int 0, .int 0, .int 0, .int (-1), .int (-1), .ref (b 11), .ref (b 12), .ref (b 13), .int 0, .int 0, .ref (b 16), .ref (b 17), .ref (b 18), .ref (b 19), .ref (b 20), .ref (b 21), .ref (b 22), .ref (b 23), .ref (b 24), .int 0, .ref (b 26), .ref (b 27), .ref (b 28), .ref (b 29), .ref (b 30), .ref (b 31), .ref (b 32), .int 0, .int 0, .ref (b 35), .ref (b 36), .ref (b 37), .ref (b 38), .ref (b 39), .ref (b 40), .int 0, .ref (b 42), .ref (b 43), .ref (b 44), .int 0, .ref (b 46), .ref (b 47), .int 0, .ref (b 49)]))] H := hP
  have hD : va_D A [(b 0, .inr (8, [.ref (b 1), .int 0, .int 0, .int 0, .int 0, .int 0, .int 0, .int 0, .int (-1), .int (-1), .ref (b 11), .ref (b 12), .ref (b 13), .int 0, .int 0, .ref (b 16), .ref (b 17), .ref (b 18), .ref (b 19), .ref (b 20), .ref (b 21), .ref (b 22), .ref (b 23), .ref (b 24), .int 0, .ref (b 26), .ref (b 27), .ref (b 28), .ref (b 29), .ref (b 30), .ref (b 31), .ref (b 32), .int 0, .int 0, .ref (b 35), .ref (b 36), .ref (b 37), .ref (b 38), .ref (b 39), .ref (b 40), .int 0, .ref (b 42), .ref (b 43), .ref (b 44), .int 0, .ref (b 46), .ref (b 47), .int 0, .ref (b 49)]))] := hD
  refine lv_if_eq (tgt := 53) hx hb dX8_plan_44 (by decide) (fun c_2 => ?_) (fun c_2 => ?_)
  · refine lv_iconst (v := (-1)) hx hb dX8_plan_53 (by decide) ?_
    exact W.iret (v := (-1)) hx hb hr (fun t ht hW => ⟨⟨(-1), (), rfl, (by have zc_2 := c_2; rw [e_1, zz_in0, Int32.le_iff_toInt_le, Int32.le_iff_toInt_le] at zc_2; (try rw [show (1 : Int32).toInt = 1 from by decide] at zc_2); (try rw [show (99 : Int32).toInt = 99 from by decide] at zc_2); unfold an_plan; first | exact (if_pos (by omega)).symm | exact (if_neg (by omega)).symm), trivial⟩, hS.F ht⟩) hS.2.2 dX8_plan_54
  · refine lv_iload_n hx hb dX8_plan_47 rfl (lv_at hl 1 rfl) ?_
    refine lv_bipush (v := 7) hx hb dX8_plan_48 (by decide) ?_
    refine lv_icmp_le (tgt := 55) hx hb dX8_plan_50 (by decide) (fun _ => ?_) (fun c_9 => absurd c_9 (by decide))
    refine lv_aload_n hx hb dX8_plan_55 rfl (lv_at hl 2 rfl) ?_
    refine lv_iconst (v := 0) hx hb dX8_plan_56 (by decide) ?_
    refine va_put (D := (dC, dI)) (ci := 8) (v := .int 0) (ty := .int) (C := RX8) (T := TX8) (N := 49) hx hb hw zz_inX8 tyX8 tyX8_ok nmX8 hown hK hP hD hS 0 rfl rfl 44 (by decide) (hw _ tw_159) (fun _ h9 => h9) rfl (by decide +kernel) rfl rfl (Nat.le_of_ble_eq_true rfl) dX8_plan_57 (fun H locs hP hD hS => ?_)
    have hP : va_P (dC, dI) vwCl [(b 0, .inr (8, [.ref (b 1), .int 0, .int 0, .int 0, .int 0, .int 0, .int 0, .int 0, .int (-1), .int (-1), .ref (b 11), .ref (b 12), .ref (b 13), .int 0, .int 0, .ref (b 16), .ref (b 17), .ref (b 18), .ref (b 19), .ref (b 20), .ref (b 21), .ref (b 22), .ref (b 23), .ref (b 24), .int 0, .ref (b 26), .ref (b 27), .ref (b 28), .ref (b 29), .ref (b 30), .ref (b 31), .ref (b 32), .int 0, .int 0, .ref (b 35), .ref (b 36), .ref (b 37), .ref (b 38), .ref (b 39), .ref (b 40), .int 0, .ref (b 42), .ref (b 43), .ref (b 44), .int 0, .ref (b 46), .ref (b 47), .int 0, .ref (b 49)]))] H := hP
    have hD : va_D A [(b 0, .inr (8, [.ref (b 1), .int 0, .int 0, .int 0, .int 0, .int 0, .int 0, .int 0, .int (-1), .int (-1), .ref (b 11), .ref (b 12), .ref (b 13), .int 0, .int 0, .ref (b 16), .ref (b 17), .ref (b 18), .ref (b 19), .ref (b 20), .ref (b 21), .ref (b 22), .ref (b 23), .ref (b 24), .int 0, .ref (b 26), .ref (b 27), .ref (b 28), .ref (b 29), .ref (b 30), .ref (b 31), .ref (b 32), .int 0, .int 0, .ref (b 35), .ref (b 36), .ref (b 37), .ref (b 38), .ref (b 39), .ref (b 40), .int 0, .ref (b 42), .ref (b 43), .ref (b 44), .int 0, .ref (b 46), .ref (b 47), .int 0, .ref (b 49)]))] := hD
    refine lv_iconst (v := 0) hx hb dX8_plan_60 (by decide) ?_
    refine lv_istore_n (lv' := [(3, .int 0), (2, .int 0), (0, .ref (b 0)), (1, .int p0)]) hx hb dX8_plan_61 rfl hl (by decide) rfl (fun ls hl => ?_)
    refine lv_iload_n hx hb dX8_plan_62 rfl (lv_at hl 0 rfl) ?_
    refine lv_aload_n hx hb dX8_plan_63 rfl (lv_at hl 2 rfl) ?_
    refine va_get (D := (dC, dI)) (ci := 8) (v := .int 0) (C := RX8) (T := TX8) (N := 49) hx hb hw zz_inX8 hown hK hP 0 rfl rfl 24 (by decide) (hw _ tw_98) (fun _ h9 => h9) rfl dX8_plan_64 ?_
    refine lv_icmp_ge (tgt := 105) hx hb dX8_plan_67 (by decide) (fun _ => ?_) (fun c_9 => absurd c_9 (by decide))
    refine lv_aload_n hx hb dX8_plan_105 rfl (lv_at hl 2 rfl) ?_
    refine lv_aload_n hx hb dX8_plan_106 rfl (lv_at hl 2 rfl) ?_
    refine va_get (D := (dC, dI)) (ci := 8) (v := .int 0) (C := RX8) (T := TX8) (N := 49) hx hb hw zz_inX8 hown hK hP 0 rfl rfl 44 (by decide) (hw _ tw_159) (fun _ h9 => h9) rfl dX8_plan_107 ?_
    refine va_put (D := (dC, dI)) (ci := 8) (v := .int 0) (ty := .int) (C := RX8) (T := TX8) (N := 49) hx hb hw zz_inX8 tyX8 tyX8_ok nmX8 hown hK hP hD hS 0 rfl rfl 47 (by decide) (hw _ tw_161) (fun _ h9 => h9) rfl (by decide +kernel) rfl rfl (Nat.le_of_ble_eq_true rfl) dX8_plan_110 (fun H locs hP hD hS => ?_)
    have hP : va_P (dC, dI) vwCl [(b 0, .inr (8, [.ref (b 1), .int 0, .int 0, .int 0, .int 0, .int 0, .int 0, .int 0, .int (-1), .int (-1), .ref (b 11), .ref (b 12), .ref (b 13), .int 0, .int 0, .ref (b 16), .ref (b 17), .ref (b 18), .ref (b 19), .ref (b 20), .ref (b 21), .ref (b 22), .ref (b 23), .ref (b 24), .int 0, .ref (b 26), .ref (b 27), .ref (b 28), .ref (b 29), .ref (b 30), .ref (b 31), .ref (b 32), .int 0, .int 0, .ref (b 35), .ref (b 36), .ref (b 37), .ref (b 38), .ref (b 39), .ref (b 40), .int 0, .ref (b 42), .ref (b 43), .ref (b 44), .int 0, .ref (b 46), .ref (b 47), .int 0, .ref (b 49)]))] H := hP
    have hD : va_D A [(b 0, .inr (8, [.ref (b 1), .int 0, .int 0, .int 0, .int 0, .int 0, .int 0, .int 0, .int (-1), .int (-1), .ref (b 11), .ref (b 12), .ref (b 13), .int 0, .int 0, .ref (b 16), .ref (b 17), .ref (b 18), .ref (b 19), .ref (b 20), .ref (b 21), .ref (b 22), .ref (b 23), .ref (b 24), .int 0, .ref (b 26), .ref (b 27), .ref (b 28), .ref (b 29), .ref (b 30), .ref (b 31), .ref (b 32), .int 0, .int 0, .ref (b 35), .ref (b 36), .ref (b 37), .ref (b 38), .ref (b 39), .ref (b 40), .int 0, .ref (b 42), .ref (b 43), .ref (b 44), .int 0, .ref (b 46), .ref (b 47), .int 0, .ref (b 49)]))] := hD
    refine lv_iconst (v := (-1)) hx hb dX8_plan_113 (by decide) ?_
    refine lv_istore_n (lv' := [(3, .int (-1)), (2, .int 0), (0, .ref (b 0)), (1, .int p0)]) hx hb dX8_plan_114 rfl hl (by decide) rfl (fun ls hl => ?_)
    refine lv_iconst (v := 1) hx hb dX8_plan_115 (by decide) ?_
    refine lv_istore (lv' := [(4, .int 1), (3, .int (-1)), (2, .int 0), (0, .ref (b 0)), (1, .int p0)]) hx hb dX8_plan_116 hl (by decide) rfl (fun ls hl => ?_)
    refine lv_iload hx hb dX8_plan_118 (lv_at hl 0 rfl) ?_
    refine lv_if_eq (tgt := 184) hx hb dX8_plan_120 (by decide) (fun c_9 => absurd c_9 (by decide)) (fun _ => ?_)
    refine lv_aload_n hx hb dX8_plan_123 rfl (lv_at hl 3 rfl) ?_
    refine lv_iload_n hx hb dX8_plan_124 rfl (lv_at hl 4 rfl) ?_
    have hPc := hP.sub (ws' := [(b 0, .inr (8, [.ref (b 1), .int 0, .int 0, .int 0, .int 0, .int 0, .int 0, .int 0, .int (-1), .int (-1), .ref (b 11), .ref (b 12), .ref (b 13), .int 0, .int 0, .ref (b 16), .ref (b 17), .ref (b 18), .ref (b 19), .ref (b 20), .ref (b 21), .ref (b 22), .ref (b 23), .ref (b 24), .int 0, .ref (b 26), .ref (b 27), .ref (b 28), .ref (b 29), .ref (b 30), .ref (b 31), .ref (b 32), .int 0, .int 0, .ref (b 35), .ref (b 36), .ref (b 37), .ref (b 38), .ref (b 39), .ref (b 40), .int 0, .ref (b 42), .ref (b 43), .ref (b 44), .int 0, .ref (b 46), .ref (b 47), .int 0, .ref (b 49)]))]) [0] rfl
    have hDc := hD.sub (ws' := [(b 0, .inr (8, [.ref (b 1), .int 0, .int 0, .int 0, .int 0, .int 0, .int 0, .int 0, .int (-1), .int (-1), .ref (b 11), .ref (b 12), .ref (b 13), .int 0, .int 0, .ref (b 16), .ref (b 17), .ref (b 18), .ref (b 19), .ref (b 20), .ref (b 21), .ref (b 22), .ref (b 23), .ref (b 24), .int 0, .ref (b 26), .ref (b 27), .ref (b 28), .ref (b 29), .ref (b 30), .ref (b 31), .ref (b 32), .int 0, .int 0, .ref (b 35), .ref (b 36), .ref (b 37), .ref (b 38), .ref (b 39), .ref (b 40), .int 0, .ref (b 42), .ref (b 43), .ref (b 44), .int 0, .ref (b 46), .ref (b 47), .int 0, .ref (b 49)]))]) [0] (by decide) rfl
    have hKc := hK.sub (tys' := []) [] rfl
    have hFc := zz_free0 hS hA
    refine va_calli (va_runV (As := [.int p0]) (rest := []) ⟨hx, hb, hml, hown, hw⟩ (m_lost l dC dI b p0 H.size) ⟨callB_of 1 hw (zz_good tw_162) rfl rfl rfl (hw _ tw_95) (hw _ tw_163) (by decide +kernel) ⟨Nat.le_of_ble_eq_true rfl, Nat.le_of_ble_eq_true rfl⟩, (hw _ tw_164), (hw _ tw_165)⟩ ⟨zz_blind, va_recv hKc hPc (ci := 8) (q0 := 0) rfl rfl, zz_pre hPc hKc hDc hN⟩ rfl rfl hl.1 rfl (lv_room (Nat.le_of_ble_eq_true rfl)) dX8_plan_125 ⟨Nat.le_of_ble_eq_true rfl, Nat.le_of_ble_eq_true rfl⟩) hS (fun q _ h => hFc q h) hFc (fun r_3 u_3 t H1 locs ht hvm e_3 hB hz1 hk1 hS => ?_)
    try dsimp only at e_3
    have hP := zz_keep hP hk1
    clear hk1 hB ht hvm
    generalize H1 = H at hP hS ⊢
    have hP : va_P (dC, dI) vwCl [(b 0, .inr (8, [.ref (b 1), .int 0, .int 0, .int 0, .int 0, .int 0, .int 0, .int 0, .int (-1), .int (-1), .ref (b 11), .ref (b 12), .ref (b 13), .int 0, .int 0, .ref (b 16), .ref (b 17), .ref (b 18), .ref (b 19), .ref (b 20), .ref (b 21), .ref (b 22), .ref (b 23), .ref (b 24), .int 0, .ref (b 26), .ref (b 27), .ref (b 28), .ref (b 29), .ref (b 30), .ref (b 31), .ref (b 32), .int 0, .int 0, .ref (b 35), .ref (b 36), .ref (b 37), .ref (b 38), .ref (b 39), .ref (b 40), .int 0, .ref (b 42), .ref (b 43), .ref (b 44), .int 0, .ref (b 46), .ref (b 47), .int 0, .ref (b 49)]))] H := hP
    have hD : va_D A [(b 0, .inr (8, [.ref (b 1), .int 0, .int 0, .int 0, .int 0, .int 0, .int 0, .int 0, .int (-1), .int (-1), .ref (b 11), .ref (b 12), .ref (b 13), .int 0, .int 0, .ref (b 16), .ref (b 17), .ref (b 18), .ref (b 19), .ref (b 20), .ref (b 21), .ref (b 22), .ref (b 23), .ref (b 24), .int 0, .ref (b 26), .ref (b 27), .ref (b 28), .ref (b 29), .ref (b 30), .ref (b 31), .ref (b 32), .int 0, .int 0, .ref (b 35), .ref (b 36), .ref (b 37), .ref (b 38), .ref (b 39), .ref (b 40), .int 0, .ref (b 42), .ref (b 43), .ref (b 44), .int 0, .ref (b 46), .ref (b 47), .int 0, .ref (b 49)]))] := hD
    refine zz_seti 0 e_3 ?_
    refine lv_istore (lv' := [(5, .int 0), (4, .int 1), (3, .int (-1)), (2, .int 0), (0, .ref (b 0)), (1, .int p0)]) hx hb dX8_plan_128 hl (by decide) rfl (fun ls hl => ?_)
    refine lv_iload_n hx hb dX8_plan_130 rfl (lv_at hl 2 rfl) ?_
    refine lv_if_lt (tgt := 140) hx hb dX8_plan_131 (by decide) (fun _ => ?_) (fun c_9 => absurd c_9 (by decide))
    refine lv_iload hx hb dX8_plan_140 (lv_at hl 0 rfl) ?_
    refine lv_istore_n (lv' := [(3, .int 0), (5, .int 0), (4, .int 1), (2, .int 0), (0, .ref (b 0)), (1, .int p0)]) hx hb dX8_plan_142 rfl hl (by decide) rfl (fun ls hl => ?_)
    refine lv_iconst (v := 0) hx hb dX8_plan_143 (by decide) ?_
    refine lv_istore (lv' := [(6, .int 0), (3, .int 0), (5, .int 0), (4, .int 1), (2, .int 0), (0, .ref (b 0)), (1, .int p0)]) hx hb dX8_plan_144 hl (by decide) rfl (fun ls hl => ?_)
    refine lv_iload hx hb dX8_plan_146 (lv_at hl 0 rfl) ?_
    refine lv_aload_n hx hb dX8_plan_148 rfl (lv_at hl 5 rfl) ?_
    refine va_get (D := (dC, dI)) (ci := 8) (v := .int 0) (C := RX8) (T := TX8) (N := 49) hx hb hw zz_inX8 hown hK hP 0 rfl rfl 44 (by decide) (hw _ tw_159) (fun _ h9 => h9) rfl dX8_plan_149 ?_
    refine lv_icmp_ge (tgt := 175) hx hb dX8_plan_152 (by decide) (fun _ => ?_) (fun c_9 => absurd c_9 (by decide))
    refine lv_aload_n hx hb dX8_plan_175 rfl (lv_at hl 5 rfl) ?_
    have hPc := hP.sub (ws' := [(b 0, .inr (8, [.ref (b 1), .int 0, .int 0, .int 0, .int 0, .int 0, .int 0, .int 0, .int (-1), .int (-1), .ref (b 11), .ref (b 12), .ref (b 13), .int 0, .int 0, .ref (b 16), .ref (b 17), .ref (b 18), .ref (b 19), .ref (b 20), .ref (b 21), .ref (b 22), .ref (b 23), .ref (b 24), .int 0, .ref (b 26), .ref (b 27), .ref (b 28), .ref (b 29), .ref (b 30), .ref (b 31), .ref (b 32), .int 0, .int 0, .ref (b 35), .ref (b 36), .ref (b 37), .ref (b 38), .ref (b 39), .ref (b 40), .int 0, .ref (b 42), .ref (b 43), .ref (b 44), .int 0, .ref (b 46), .ref (b 47), .int 0, .ref (b 49)]))]) [0] rfl
    have hDc := hD.sub (ws' := [(b 0, .inr (8, [.ref (b 1), .int 0, .int 0, .int 0, .int 0, .int 0, .int 0, .int 0, .int (-1), .int (-1), .ref (b 11), .ref (b 12), .ref (b 13), .int 0, .int 0, .ref (b 16), .ref (b 17), .ref (b 18), .ref (b 19), .ref (b 20), .ref (b 21), .ref (b 22), .ref (b 23), .ref (b 24), .int 0, .ref (b 26), .ref (b 27), .ref (b 28), .ref (b 29), .ref (b 30), .ref (b 31), .ref (b 32), .int 0, .int 0, .ref (b 35), .ref (b 36), .ref (b 37), .ref (b 38), .ref (b 39), .ref (b 40), .int 0, .ref (b 42), .ref (b 43), .ref (b 44), .int 0, .ref (b 46), .ref (b 47), .int 0, .ref (b 49)]))]) [0] (by decide) rfl
    have hKc := hK.sub (tys' := []) [] rfl
    have hFc := zz_free0 hS hA
    refine va_calli (va_runV (As := []) (rest := []) ⟨hx, hb, hml, hown, hw⟩ (m_nextOrder l dC dI b H.size) ⟨callB_of 0 hw (zz_good tw_166) rfl rfl rfl (hw _ tw_95) (hw _ tw_167) (by decide +kernel) ⟨Nat.le_of_ble_eq_true rfl, Nat.le_of_ble_eq_true rfl⟩, (hw _ tw_168), (hw _ tw_169)⟩ ⟨zz_blind, va_recv hKc hPc (ci := 8) (q0 := 0) rfl rfl, zz_pre hPc hKc hDc hN⟩ rfl rfl hl.1 rfl (lv_room (Nat.le_of_ble_eq_true rfl)) dX8_plan_176 ⟨Nat.le_of_ble_eq_true rfl, Nat.le_of_ble_eq_true rfl⟩) hS (fun q _ h => hFc q h) hFc (fun r_4 u_4 t H1 locs ht hvm e_4 hB hz1 hk1 hS => ?_)
    try dsimp only at e_4
    have hP := zz_keep hP hk1
    clear hk1 hB ht hvm
    generalize H1 = H at hP hS ⊢
    have hP : va_P (dC, dI) vwCl [(b 0, .inr (8, [.ref (b 1), .int 0, .int 0, .int 0, .int 0, .int 0, .int 0, .int 0, .int (-1), .int (-1), .ref (b 11), .ref (b 12), .ref (b 13), .int 0, .int 0, .ref (b 16), .ref (b 17), .ref (b 18), .ref (b 19), .ref (b 20), .ref (b 21), .ref (b 22), .ref (b 23), .ref (b 24), .int 0, .ref (b 26), .ref (b 27), .ref (b 28), .ref (b 29), .ref (b 30), .ref (b 31), .ref (b 32), .int 0, .int 0, .ref (b 35), .ref (b 36), .ref (b 37), .ref (b 38), .ref (b 39), .ref (b 40), .int 0, .ref (b 42), .ref (b 43), .ref (b 44), .int 0, .ref (b 46), .ref (b 47), .int 0, .ref (b 49)]))] H := hP
    have hD : va_D A [(b 0, .inr (8, [.ref (b 1), .int 0, .int 0, .int 0, .int 0, .int 0, .int 0, .int 0, .int (-1), .int (-1), .ref (b 11), .ref (b 12), .ref (b 13), .int 0, .int 0, .ref (b 16), .ref (b 17), .ref (b 18), .ref (b 19), .ref (b 20), .ref (b 21), .ref (b 22), .ref (b 23), .ref (b 24), .int 0, .ref (b 26), .ref (b 27), .ref (b 28), .ref (b 29), .ref (b 30), .ref (b 31), .ref (b 32), .int 0, .int 0, .ref (b 35), .ref (b 36), .ref (b 37), .ref (b 38), .ref (b 39), .ref (b 40), .int 0, .ref (b 42), .ref (b 43), .ref (b 44), .int 0, .ref (b 46), .ref (b 47), .int 0, .ref (b 49)]))] := hD
    refine zz_seti 0 e_4 ?_
    refine lv_istore (lv' := [(4, .int 0), (6, .int 0), (3, .int 0), (5, .int 0), (2, .int 0), (0, .ref (b 0)), (1, .int p0)]) hx hb dX8_plan_179 hl (by decide) rfl (fun ls hl => ?_)
    refine lv_goto (tgt := 118) hx hb dX8_plan_181 (by decide) ?_
    refine lv_iload hx hb dX8_plan_118 (lv_at hl 0 rfl) ?_
    refine lv_if_eq (tgt := 184) hx hb dX8_plan_120 (by decide) (fun _ => ?_) (fun c_9 => absurd c_9 (by decide))
    refine lv_iload_n hx hb dX8_plan_184 rfl (lv_at hl 2 rfl) ?_
    exact W.iret (v := 0) hx hb hr (fun t ht hW => ⟨⟨0, (), rfl, (by have zc_2 := c_2; rw [e_1, zz_in0, Int32.le_iff_toInt_le, Int32.le_iff_toInt_le] at zc_2; (try rw [show (1 : Int32).toInt = 1 from by decide] at zc_2); (try rw [show (99 : Int32).toInt = 99 from by decide] at zc_2); unfold an_plan; first | exact (if_pos (by omega)).symm | exact (if_neg (by omega)).symm), trivial⟩, hS.F ht⟩) hS.2.2 dX8_plan_185

set_option maxHeartbeats 4000000 in
set_option maxRecDepth 100000 in
theorem m_planned (l : Launch) (dC : Nat → ClassId) (dI : Nat → Nat → Nat) (b : Nat → Nat) (p0 : Int32) (sz : Nat) : Met l yX8_planned (zz_w yX8_planned cX8_planned 2 (some .int)) ({ frames := 1, cells := 0, slots := 0, locals := 25 }) (va_Pc [.ref (b 0), .int p0] (zz_B (dC, dI) sz [(b 0, .inr (8, [.ref (b 1), .int 0, .int 0, .int 0, .int 0, .int 0, .int 0, .int 0, .int (-1), .int (-1), .ref (b 11), .ref (b 12), .ref (b 13), .int 0, .int 0, .ref (b 16), .ref (b 17), .ref (b 18), .ref (b 19), .ref (b 20), .ref (b 21), .ref (b 22), .ref (b 23), .ref (b 24), .int 0, .ref (b 26), .ref (b 27), .ref (b 28), .ref (b 29), .ref (b 30), .ref (b 31), .ref (b 32), .int 0, .int 0, .ref (b 35), .ref (b 36), .ref (b 37), .ref (b 38), .ref (b 39), .ref (b 40), .int 0, .ref (b 42), .ref (b 43), .ref (b 44), .int 0, .ref (b 46), .ref (b 47), .int 0, .ref (b 49)]))] [])) (va_Qi (fun (r : Int32) (_ : Unit) => r = -1) (fun _ _ => True) (va_A [] sz)) 0 0 (va_A [] sz) := by
  refine Met.ofW (cc := cX8_planned) (maxL := 2) (ret := (some .int)) (by decide) rfl ?_
  intro p e s m args below meth c s₁ B hml hv
  obtain ⟨rfl, hsz, hP, hK, hD0, hN⟩ := hv
  have hx := B.exec
  have hb := B.bytes
  have hr := B.returns
  have hts := atoms_spec (ws := zz_w yX8_planned cX8_planned 2 (some .int)) B.pre
  have hw : ∀ w ∈ zz_all, w.before _ s = true := fun w h => hts w (List.mem_cons_of_mem _ h)
  have hown : s.vm.findClass RX8 = some m.cls := findClass_of_methodNamed B.named
  have hlocks := B.notSynchronized
  subst hsz
  have hD := hD0
  generalize hAe : va_A [] s.heap.size = A
  have hA : ∀ q : Nat, s.heap.size ≤ q → A q := fun q h => by rw [← hAe]; exact Or.inr h
  have hS : va_S A s.heap s.heap [] := va_S.rf
  have hP : va_P (dC, dI) vwCl [(b 0, .inr (8, [.ref (b 1), .int 0, .int 0, .int 0, .int 0, .int 0, .int 0, .int 0, .int (-1), .int (-1), .ref (b 11), .ref (b 12), .ref (b 13), .int 0, .int 0, .ref (b 16), .ref (b 17), .ref (b 18), .ref (b 19), .ref (b 20), .ref (b 21), .ref (b 22), .ref (b 23), .ref (b 24), .int 0, .ref (b 26), .ref (b 27), .ref (b 28), .ref (b 29), .ref (b 30), .ref (b 31), .ref (b 32), .int 0, .int 0, .ref (b 35), .ref (b 36), .ref (b 37), .ref (b 38), .ref (b 39), .ref (b 40), .int 0, .ref (b 42), .ref (b 43), .ref (b 44), .int 0, .ref (b 46), .ref (b 47), .int 0, .ref (b 49)]))] s.heap := hP
  have hl := lv_entry ([.ref (b 0), .int p0]) (n := 2) (Nat.le_of_ble_eq_true rfl)
  rw [lg_entry_eq]
  generalize (lg_sl ([.ref (b 0), .int p0]) ++ List.replicate (2 - (lg_sl ([.ref (b 0), .int p0])).length) Slot.unset).toArray = ls at hl ⊢
  have hl : lv_has ls 2 [(0, .ref (b 0)), (1, .int p0)] := hl
  refine lv_iload_n hx hb dX8_planned_0 rfl (lv_at hl 1 rfl) ?_
  refine lv_i2l (v := Int32.toInt64 p0) hx hb dX8_planned_1 rfl ?_
  refine lv_lconst (v := Int32.toInt64 0) hx hb dX8_planned_2 (by decide) ?_
  refine lv_aload_n hx hb dX8_planned_3 rfl (lv_at hl 0 rfl) ?_
  refine va_get (D := (dC, dI)) (ci := 8) (v := .int 0) (C := RX8) (T := TX8) (N := 49) hx hb hw zz_inX8 hown hK hP 0 rfl rfl 47 (by decide) (hw _ tw_161) (fun _ h9 => h9) rfl dX8_planned_4 ?_
  refine lv_iconst (v := 1) hx hb dX8_planned_7 (by decide) ?_
  refine lv_isub hx hb dX8_planned_8 ?_
  refine zz_seti (-1) (by decide) ?_
  refine lv_i2l (v := Int32.toInt64 (-1)) hx hb dX8_planned_9 rfl ?_
  have hPc := hP.sub (ws' := []) [] rfl
  have hDc := hD.sub (ws' := []) [] (by decide) rfl
  have hKc := hK.sub (tys' := []) [] rfl
  have hFc := zz_free0 hS hA
  refine va_calli (va_runS (As := [.long (Int32.toInt64 p0), .long (Int32.toInt64 0), .long (Int32.toInt64 (-1))]) (rest := []) ⟨hx, hb, hml, hown, hw⟩ (k_in l dC dI p0 0 (-1) s.heap.size) ⟨callB_of 3 hw (zz_good tw_94) rfl rfl rfl (hw _ tw_95) (hw _ tw_96) (by decide +kernel) ⟨Nat.le_of_ble_eq_true rfl, Nat.le_of_ble_eq_true rfl⟩, (hw _ tw_97)⟩ ⟨zz_blind, zz_pre hPc hKc hDc hN⟩ rfl rfl hl.1 rfl (lv_room (Nat.le_of_ble_eq_true rfl)) dX8_planned_10 ⟨Nat.le_of_ble_eq_true rfl, Nat.le_of_ble_eq_true rfl⟩) hS (fun q _ h => hFc q h) hFc (fun r_1 u_1 t H1 locs ht hvm e_1 hB hz1 hk1 hS => ?_)
  try dsimp only at e_1
  have hP := zz_keep hP hk1
  clear hk1 hB ht hvm
  generalize H1 = H at hP hS ⊢
  have hP : va_P (dC, dI) vwCl [(b 0, .inr (8, [.ref (b 1), .int 0, .int 0, .int 0, .int 0, .int 0, .int 0, .int 0, .int (-1), .int (-1), .ref (b 11), .ref (b 12), .ref (b 13), .int 0, .int 0, .ref (b 16), .ref (b 17), .ref (b 18), .ref (b 19), .ref (b 20), .ref (b 21), .ref (b 22), .ref (b 23), .ref (b 24), .int 0, .ref (b 26), .ref (b 27), .ref (b 28), .ref (b 29), .ref (b 30), .ref (b 31), .ref (b 32), .int 0, .int 0, .ref (b 35), .ref (b 36), .ref (b 37), .ref (b 38), .ref (b 39), .ref (b 40), .int 0, .ref (b 42), .ref (b 43), .ref (b 44), .int 0, .ref (b 46), .ref (b 47), .int 0, .ref (b 49)]))] H := hP
  have hD : va_D (fun _ => True) [(b 0, .inr (8, [.ref (b 1), .int 0, .int 0, .int 0, .int 0, .int 0, .int 0, .int 0, .int (-1), .int (-1), .ref (b 11), .ref (b 12), .ref (b 13), .int 0, .int 0, .ref (b 16), .ref (b 17), .ref (b 18), .ref (b 19), .ref (b 20), .ref (b 21), .ref (b 22), .ref (b 23), .ref (b 24), .int 0, .ref (b 26), .ref (b 27), .ref (b 28), .ref (b 29), .ref (b 30), .ref (b 31), .ref (b 32), .int 0, .int 0, .ref (b 35), .ref (b 36), .ref (b 37), .ref (b 38), .ref (b 39), .ref (b 40), .int 0, .ref (b 42), .ref (b 43), .ref (b 44), .int 0, .ref (b 46), .ref (b 47), .int 0, .ref (b 49)]))] := hD
  refine zz_seti 0 (e_1.trans (zz_empty _)) ?_
  refine lv_if_eq (tgt := 25) hx hb dX8_planned_13 (by decide) (fun _ => ?_) (fun c_9 => absurd c_9 (by decide))
  refine lv_iconst (v := (-1)) hx hb dX8_planned_25 (by decide) ?_
  exact W.iret (v := (-1)) hx hb hr (fun t ht hW => ⟨⟨(-1), (), rfl, rfl, trivial⟩, hS.F ht⟩) hS.2.2 dX8_planned_26

set_option maxHeartbeats 4000000 in
set_option maxRecDepth 100000 in
theorem m_about (l : Launch) (dC : Nat → ClassId) (dI : Nat → Nat → Nat) (b : Nat → Nat) (cI : ClassId) (p0 : Int32) (sz : Nat) : Met l yX8_about (zz_w yX8_about cX8_about 2 (some .int)) ({ frames := 1, cells := 0, slots := 0, locals := 25 }) (va_Pc [.ref (b 0), .int p0] (zz_B (dC, dI) sz [(b 0, .inr (8, [.ref (b 1), .int 0, .int 0, .int 0, .int 0, .int 0, .int 0, .int 0, .int (-1), .int (-1), .ref (b 11), .ref (b 12), .ref (b 13), .int 0, .int 0, .ref (b 16), .ref (b 17), .ref (b 18), .ref (b 19), .ref (b 20), .ref (b 21), .ref (b 22), .ref (b 23), .ref (b 24), .int 0, .ref (b 26), .ref (b 27), .ref (b 28), .ref (b 29), .ref (b 30), .ref (b 31), .ref (b 32), .int 0, .int 0, .ref (b 35), .ref (b 36), .ref (b 37), .ref (b 38), .ref (b 39), .ref (b 40), .int 0, .ref (b 42), .ref (b 43), .ref (b 44), .int 0, .ref (b 46), .ref (b 47), .int 0, .ref (b 49)])), (b 24, .inl (cI, 10, .inl (fun _ => (0 : Int32))))] [(cI, .int)])) (va_Qi (fun (r : Int32) (_ : Unit) => r = an_about p0) (fun _ _ => True) (va_A [] sz)) 0 0 (va_A [] sz) := by
  refine Met.ofW (cc := cX8_about) (maxL := 2) (ret := (some .int)) (by decide) rfl ?_
  intro p e s m args below meth c s₁ B hml hv
  obtain ⟨rfl, hsz, hP, hK, hD0, hN⟩ := hv
  have hx := B.exec
  have hb := B.bytes
  have hr := B.returns
  have hts := atoms_spec (ws := zz_w yX8_about cX8_about 2 (some .int)) B.pre
  have hw : ∀ w ∈ zz_all, w.before _ s = true := fun w h => hts w (List.mem_cons_of_mem _ h)
  have hown : s.vm.findClass RX8 = some m.cls := findClass_of_methodNamed B.named
  have hlocks := B.notSynchronized
  subst hsz
  have hD := hD0
  generalize hAe : va_A [] s.heap.size = A
  have hA : ∀ q : Nat, s.heap.size ≤ q → A q := fun q h => by rw [← hAe]; exact Or.inr h
  have hS : va_S A s.heap s.heap [] := va_S.rf
  have hP : va_P (dC, dI) vwCl [(b 0, .inr (8, [.ref (b 1), .int 0, .int 0, .int 0, .int 0, .int 0, .int 0, .int 0, .int (-1), .int (-1), .ref (b 11), .ref (b 12), .ref (b 13), .int 0, .int 0, .ref (b 16), .ref (b 17), .ref (b 18), .ref (b 19), .ref (b 20), .ref (b 21), .ref (b 22), .ref (b 23), .ref (b 24), .int 0, .ref (b 26), .ref (b 27), .ref (b 28), .ref (b 29), .ref (b 30), .ref (b 31), .ref (b 32), .int 0, .int 0, .ref (b 35), .ref (b 36), .ref (b 37), .ref (b 38), .ref (b 39), .ref (b 40), .int 0, .ref (b 42), .ref (b 43), .ref (b 44), .int 0, .ref (b 46), .ref (b 47), .int 0, .ref (b 49)])), (b 24, .inl (cI, 10, .inl (fun _ => (0 : Int32))))] s.heap := hP
  have hl := lv_entry ([.ref (b 0), .int p0]) (n := 2) (Nat.le_of_ble_eq_true rfl)
  rw [lg_entry_eq]
  generalize (lg_sl ([.ref (b 0), .int p0]) ++ List.replicate (2 - (lg_sl ([.ref (b 0), .int p0])).length) Slot.unset).toArray = ls at hl ⊢
  have hl : lv_has ls 2 [(0, .ref (b 0)), (1, .int p0)] := hl
  refine lv_iload_n hx hb dX8_about_0 rfl (lv_at hl 1 rfl) ?_
  by_cases c_1 : p0 = 0
  · refine lv_tableIn (tgt := 40) hx hb dX8_about_1 (by rw [c_1]; decide) (by rw [c_1]; decide) (by rw [c_1]; rfl) (by decide) ?_
    refine lv_aload_n hx hb dX8_about_40 rfl (lv_at hl 0 rfl) ?_
    refine va_get (D := (dC, dI)) (ci := 8) (v := .int 0) (C := RX8) (T := TX8) (N := 49) hx hb hw zz_inX8 hown hK hP 0 rfl rfl 14 (by decide) (hw _ tw_93) (fun _ h9 => h9) rfl dX8_about_41 ?_
    exact W.iret (v := 0) hx hb hr (fun t ht hW => ⟨⟨0, (), rfl, (by have zc_1 := c_1; rw [← Int32.toInt_inj] at zc_1; (try rw [show (0 : Int32).toInt = 0 from by decide] at zc_1); unfold an_about; first | exact (if_pos (by omega)).symm | exact (if_neg (by omega)).symm), trivial⟩, hS.F ht⟩) hS.2.2 dX8_about_44
  by_cases c_2 : p0 = 1
  · refine lv_tableIn (tgt := 45) hx hb dX8_about_1 (by rw [c_2]; decide) (by rw [c_2]; decide) (by rw [c_2]; rfl) (by decide) ?_
    refine lv_aload_n hx hb dX8_about_45 rfl (lv_at hl 0 rfl) ?_
    refine va_get (D := (dC, dI)) (ci := 8) (v := .int 0) (C := RX8) (T := TX8) (N := 49) hx hb hw zz_inX8 hown hK hP 0 rfl rfl 24 (by decide) (hw _ tw_98) (fun _ h9 => h9) rfl dX8_about_46 ?_
    exact W.iret (v := 0) hx hb hr (fun t ht hW => ⟨⟨0, (), rfl, (by have zc_2 := c_2; rw [← Int32.toInt_inj] at zc_2; (try rw [show (1 : Int32).toInt = 1 from by decide] at zc_2); unfold an_about; first | exact (if_pos (by omega)).symm | exact (if_neg (by omega)).symm), trivial⟩, hS.F ht⟩) hS.2.2 dX8_about_49
  by_cases c_3 : p0 = 2
  · refine lv_tableIn (tgt := 50) hx hb dX8_about_1 (by rw [c_3]; decide) (by rw [c_3]; decide) (by rw [c_3]; rfl) (by decide) ?_
    refine lv_aload_n hx hb dX8_about_50 rfl (lv_at hl 0 rfl) ?_
    refine va_get (D := (dC, dI)) (ci := 8) (v := .int 0) (C := RX8) (T := TX8) (N := 49) hx hb hw zz_inX8 hown hK hP 0 rfl rfl 13 (by decide) (hw _ tw_138) (fun _ h9 => h9) rfl dX8_about_51 ?_
    exact W.iret (v := 0) hx hb hr (fun t ht hW => ⟨⟨0, (), rfl, (by have zc_3 := c_3; rw [← Int32.toInt_inj] at zc_3; (try rw [show (2 : Int32).toInt = 2 from by decide] at zc_3); unfold an_about; first | exact (if_pos (by omega)).symm | exact (if_neg (by omega)).symm), trivial⟩, hS.F ht⟩) hS.2.2 dX8_about_54
  by_cases c_4 : p0 = 3
  · refine lv_tableIn (tgt := 55) hx hb dX8_about_1 (by rw [c_4]; decide) (by rw [c_4]; decide) (by rw [c_4]; rfl) (by decide) ?_
    refine lv_aload_n hx hb dX8_about_55 rfl (lv_at hl 0 rfl) ?_
    refine va_get (D := (dC, dI)) (ci := 8) (v := .int 0) (C := RX8) (T := TX8) (N := 49) hx hb hw zz_inX8 hown hK hP 0 rfl rfl 33 (by decide) (hw _ tw_137) (fun _ h9 => h9) rfl dX8_about_56 ?_
    exact W.iret (v := 0) hx hb hr (fun t ht hW => ⟨⟨0, (), rfl, (by have zc_4 := c_4; rw [← Int32.toInt_inj] at zc_4; (try rw [show (3 : Int32).toInt = 3 from by decide] at zc_4); unfold an_about; first | exact (if_pos (by omega)).symm | exact (if_neg (by omega)).symm), trivial⟩, hS.F ht⟩) hS.2.2 dX8_about_59
  by_cases c_5 : p0 = 4
  · refine lv_tableIn (tgt := 60) hx hb dX8_about_1 (by rw [c_5]; decide) (by rw [c_5]; decide) (by rw [c_5]; rfl) (by decide) ?_
    refine lv_aload_n hx hb dX8_about_60 rfl (lv_at hl 0 rfl) ?_
    refine va_get (D := (dC, dI)) (ci := 8) (v := .int 0) (C := RX8) (T := TX8) (N := 49) hx hb hw zz_inX8 hown hK hP 0 rfl rfl 32 (by decide) (hw _ tw_139) (fun _ h9 => h9) rfl dX8_about_61 ?_
    exact W.iret (v := 0) hx hb hr (fun t ht hW => ⟨⟨0, (), rfl, (by have zc_5 := c_5; rw [← Int32.toInt_inj] at zc_5; (try rw [show (4 : Int32).toInt = 4 from by decide] at zc_5); unfold an_about; first | exact (if_pos (by omega)).symm | exact (if_neg (by omega)).symm), trivial⟩, hS.F ht⟩) hS.2.2 dX8_about_64
  by_cases c_6 : p0 = 5
  · refine lv_tableIn (tgt := 65) hx hb dX8_about_1 (by rw [c_6]; decide) (by rw [c_6]; decide) (by rw [c_6]; rfl) (by decide) ?_
    refine lv_aload_n hx hb dX8_about_65 rfl (lv_at hl 0 rfl) ?_
    refine va_get (D := (dC, dI)) (ci := 8) (v := .int 0) (C := RX8) (T := TX8) (N := 49) hx hb hw zz_inX8 hown hK hP 0 rfl rfl 1 (by decide) (hw _ tw_113) (fun _ h9 => h9) rfl dX8_about_66 ?_
    exact W.iret (v := 0) hx hb hr (fun t ht hW => ⟨⟨0, (), rfl, (by have zc_6 := c_6; rw [← Int32.toInt_inj] at zc_6; (try rw [show (5 : Int32).toInt = 5 from by decide] at zc_6); unfold an_about; first | exact (if_pos (by omega)).symm | exact (if_neg (by omega)).symm), trivial⟩, hS.F ht⟩) hS.2.2 dX8_about_69
  refine lv_tableOut (tgt := 70) hx hb dX8_about_1 (by have := zz_ne c_1; rw [show (0 : Int32).toInt = 0 from by decide] at this; have := zz_ne c_2; rw [show (1 : Int32).toInt = 1 from by decide] at this; have := zz_ne c_3; rw [show (2 : Int32).toInt = 2 from by decide] at this; have := zz_ne c_4; rw [show (3 : Int32).toInt = 3 from by decide] at this; have := zz_ne c_5; rw [show (4 : Int32).toInt = 4 from by decide] at this; have := zz_ne c_6; rw [show (5 : Int32).toInt = 5 from by decide] at this; omega) (by decide) ?_
  refine lv_iload_n hx hb dX8_about_70 rfl (lv_at hl 1 rfl) ?_
  refine lv_i2l (v := Int32.toInt64 p0) hx hb dX8_about_71 rfl ?_
  refine lv_ldc2 (v := 20) hx hb hown (hw _ tw_170) dX8_about_72 ?_
  refine zz_setl (Int32.toInt64 20) (by decide) ?_
  refine lv_ldc2 (v := 29) hx hb hown (hw _ tw_171) dX8_about_75 ?_
  refine zz_setl (Int32.toInt64 29) (by decide) ?_
  have hPc := hP.sub (ws' := []) [] rfl
  have hDc := hD.sub (ws' := []) [] (by decide) rfl
  have hKc := hK.sub (tys' := []) [] rfl
  have hFc := zz_free0 hS hA
  refine va_calli (va_runS (As := [.long (Int32.toInt64 p0), .long (Int32.toInt64 20), .long (Int32.toInt64 29)]) (rest := []) ⟨hx, hb, hml, hown, hw⟩ (k_in l dC dI p0 20 29 s.heap.size) ⟨callB_of 3 hw (zz_good tw_94) rfl rfl rfl (hw _ tw_95) (hw _ tw_96) (by decide +kernel) ⟨Nat.le_of_ble_eq_true rfl, Nat.le_of_ble_eq_true rfl⟩, (hw _ tw_97)⟩ ⟨zz_blind, zz_pre hPc hKc hDc hN⟩ rfl rfl hl.1 rfl (lv_room (Nat.le_of_ble_eq_true rfl)) dX8_about_78 ⟨Nat.le_of_ble_eq_true rfl, Nat.le_of_ble_eq_true rfl⟩) hS (fun q _ h => hFc q h) hFc (fun r_7 u_7 t H1 locs ht hvm e_7 hB hz1 hk1 hS => ?_)
  try dsimp only at e_7
  have hP := zz_keep hP hk1
  clear hk1 hB ht hvm
  generalize H1 = H at hP hS ⊢
  have hP : va_P (dC, dI) vwCl [(b 0, .inr (8, [.ref (b 1), .int 0, .int 0, .int 0, .int 0, .int 0, .int 0, .int 0, .int (-1), .int (-1), .ref (b 11), .ref (b 12), .ref (b 13), .int 0, .int 0, .ref (b 16), .ref (b 17), .ref (b 18), .ref (b 19), .ref (b 20), .ref (b 21), .ref (b 22), .ref (b 23), .ref (b 24), .int 0, .ref (b 26), .ref (b 27), .ref (b 28), .ref (b 29), .ref (b 30), .ref (b 31), .ref (b 32), .int 0, .int 0, .ref (b 35), .ref (b 36), .ref (b 37), .ref (b 38), .ref (b 39), .ref (b 40), .int 0, .ref (b 42), .ref (b 43), .ref (b 44), .int 0, .ref (b 46), .ref (b 47), .int 0, .ref (b 49)])), (b 24, .inl (cI, 10, .inl (fun _ => (0 : Int32))))] H := hP
  have hD : va_D (fun _ => True) [(b 0, .inr (8, [.ref (b 1), .int 0, .int 0, .int 0, .int 0, .int 0, .int 0, .int 0, .int (-1), .int (-1), .ref (b 11), .ref (b 12), .ref (b 13), .int 0, .int 0, .ref (b 16), .ref (b 17), .ref (b 18), .ref (b 19), .ref (b 20), .ref (b 21), .ref (b 22), .ref (b 23), .ref (b 24), .int 0, .ref (b 26), .ref (b 27), .ref (b 28), .ref (b 29), .ref (b 30), .ref (b 31), .ref (b 32), .int 0, .int 0, .ref (b 35), .ref (b 36), .ref (b 37), .ref (b 38), .ref (b 39), .ref (b 40), .int 0, .ref (b 42), .ref (b 43), .ref (b 44), .int 0, .ref (b 46), .ref (b 47), .int 0, .ref (b 49)])), (b 24, .inl (cI, 10, .inl (fun _ => (0 : Int32))))] := hD
  refine lv_if_eq (tgt := 96) hx hb dX8_about_81 (by decide) (fun c_8 => ?_) (fun c_8 => ?_)
  · refine lv_iconst (v := (-1)) hx hb dX8_about_96 (by decide) ?_
    exact W.iret (v := (-1)) hx hb hr (fun t ht hW => ⟨⟨(-1), (), rfl, (by have zc_1 := c_1; rw [← Int32.toInt_inj] at zc_1; (try rw [show (0 : Int32).toInt = 0 from by decide] at zc_1); have zc_2 := c_2; rw [← Int32.toInt_inj] at zc_2; (try rw [show (1 : Int32).toInt = 1 from by decide] at zc_2); have zc_3 := c_3; rw [← Int32.toInt_inj] at zc_3; (try rw [show (2 : Int32).toInt = 2 from by decide] at zc_3); have zc_4 := c_4; rw [← Int32.toInt_inj] at zc_4; (try rw [show (3 : Int32).toInt = 3 from by decide] at zc_4); have zc_5 := c_5; rw [← Int32.toInt_inj] at zc_5; (try rw [show (4 : Int32).toInt = 4 from by decide] at zc_5); have zc_6 := c_6; rw [← Int32.toInt_inj] at zc_6; (try rw [show (5 : Int32).toInt = 5 from by decide] at zc_6); have zc_8 := c_8; rw [e_7, zz_in0, Int32.le_iff_toInt_le, Int32.le_iff_toInt_le] at zc_8; (try rw [show (20 : Int32).toInt = 20 from by decide] at zc_8); (try rw [show (29 : Int32).toInt = 29 from by decide] at zc_8); unfold an_about; first | exact (if_pos (by omega)).symm | exact (if_neg (by omega)).symm), trivial⟩, hS.F ht⟩) hS.2.2 dX8_about_97
  · refine lv_aload_n hx hb dX8_about_84 rfl (lv_at hl 0 rfl) ?_
    refine va_get (D := (dC, dI)) (ci := 8) (v := .ref (b 24)) (C := RX8) (T := TX8) (N := 49) hx hb hw zz_inX8 hown hK hP 0 rfl rfl 23 (by decide) (hw _ tw_111) (fun _ h9 => h9) rfl dX8_about_85 ?_
    refine lv_iload_n hx hb dX8_about_88 rfl (lv_at hl 1 rfl) ?_
    refine lv_bipush (v := 20) hx hb dX8_about_89 (by decide) ?_
    refine lv_isub hx hb dX8_about_91 ?_
    refine va_iald hx hb hK hP 1 0 rfl rfl (zz_sub20 (by have zc_1 := c_1; rw [← Int32.toInt_inj] at zc_1; (try rw [show (0 : Int32).toInt = 0 from by decide] at zc_1); have zc_2 := c_2; rw [← Int32.toInt_inj] at zc_2; (try rw [show (1 : Int32).toInt = 1 from by decide] at zc_2); have zc_3 := c_3; rw [← Int32.toInt_inj] at zc_3; (try rw [show (2 : Int32).toInt = 2 from by decide] at zc_3); have zc_4 := c_4; rw [← Int32.toInt_inj] at zc_4; (try rw [show (3 : Int32).toInt = 3 from by decide] at zc_4); have zc_5 := c_5; rw [← Int32.toInt_inj] at zc_5; (try rw [show (4 : Int32).toInt = 4 from by decide] at zc_5); have zc_6 := c_6; rw [← Int32.toInt_inj] at zc_6; (try rw [show (5 : Int32).toInt = 5 from by decide] at zc_6); have zc_8 := c_8; rw [e_7, zz_in0, Int32.le_iff_toInt_le, Int32.le_iff_toInt_le] at zc_8; (try rw [show (20 : Int32).toInt = 20 from by decide] at zc_8); (try rw [show (29 : Int32).toInt = 29 from by decide] at zc_8); omega) (by have zc_1 := c_1; rw [← Int32.toInt_inj] at zc_1; (try rw [show (0 : Int32).toInt = 0 from by decide] at zc_1); have zc_2 := c_2; rw [← Int32.toInt_inj] at zc_2; (try rw [show (1 : Int32).toInt = 1 from by decide] at zc_2); have zc_3 := c_3; rw [← Int32.toInt_inj] at zc_3; (try rw [show (2 : Int32).toInt = 2 from by decide] at zc_3); have zc_4 := c_4; rw [← Int32.toInt_inj] at zc_4; (try rw [show (3 : Int32).toInt = 3 from by decide] at zc_4); have zc_5 := c_5; rw [← Int32.toInt_inj] at zc_5; (try rw [show (4 : Int32).toInt = 4 from by decide] at zc_5); have zc_6 := c_6; rw [← Int32.toInt_inj] at zc_6; (try rw [show (5 : Int32).toInt = 5 from by decide] at zc_6); have zc_8 := c_8; rw [e_7, zz_in0, Int32.le_iff_toInt_le, Int32.le_iff_toInt_le] at zc_8; (try rw [show (20 : Int32).toInt = 20 from by decide] at zc_8); (try rw [show (29 : Int32).toInt = 29 from by decide] at zc_8); omega)) dX8_about_92 ?_
    refine lv_goto (tgt := 97) hx hb dX8_about_93 (by decide) ?_
    exact W.iret (v := ((fun _ => (0 : Int32)) (Int32.toNatClampNeg (p0 - 20)))) hx hb hr (fun t ht hW => ⟨⟨((fun _ => (0 : Int32)) (Int32.toNatClampNeg (p0 - 20))), (), rfl, (by have zc_1 := c_1; rw [← Int32.toInt_inj] at zc_1; (try rw [show (0 : Int32).toInt = 0 from by decide] at zc_1); have zc_2 := c_2; rw [← Int32.toInt_inj] at zc_2; (try rw [show (1 : Int32).toInt = 1 from by decide] at zc_2); have zc_3 := c_3; rw [← Int32.toInt_inj] at zc_3; (try rw [show (2 : Int32).toInt = 2 from by decide] at zc_3); have zc_4 := c_4; rw [← Int32.toInt_inj] at zc_4; (try rw [show (3 : Int32).toInt = 3 from by decide] at zc_4); have zc_5 := c_5; rw [← Int32.toInt_inj] at zc_5; (try rw [show (4 : Int32).toInt = 4 from by decide] at zc_5); have zc_6 := c_6; rw [← Int32.toInt_inj] at zc_6; (try rw [show (5 : Int32).toInt = 5 from by decide] at zc_6); have zc_8 := c_8; rw [e_7, zz_in0, Int32.le_iff_toInt_le, Int32.le_iff_toInt_le] at zc_8; (try rw [show (20 : Int32).toInt = 20 from by decide] at zc_8); (try rw [show (29 : Int32).toInt = 29 from by decide] at zc_8); unfold an_about; first | exact (if_pos (by omega)).symm | exact (if_neg (by omega)).symm), trivial⟩, hS.F ht⟩) hS.2.2 dX8_about_97
