theorem tw_242 : Cond.constantLong RX8 131 2 ∈ zz_all := zz_m4 90 rfl rfl
theorem tw_243 : Cond.constantLong RX8 133 60 ∈ zz_all := zz_m4 91 rfl rfl
theorem tw_244 : Cond.constantLong RX8 137 10000 ∈ zz_all := zz_m4 93 rfl rfl
theorem tw_245 : Cond.code yX8_free cX8_free 2 (some .int) ∈ zz_all := zz_m4 182 rfl rfl
theorem tw_246 : Cond.methodLink RX8 237 yX8_free ∈ zz_all := zz_m4 179 rfl rfl
theorem tw_247 : Cond.instanceMethod yX8_free ∈ zz_all := zz_m4 181 rfl rfl
theorem tw_248 : Cond.selects RX8 yX8_free yX8_free ∈ zz_all := zz_ms 44 rfl rfl
theorem tw_249 : Cond.code yX8_net cX8_net 4 (some .int) ∈ zz_all := zz_m4 227 rfl rfl
theorem tw_250 : Cond.methodLink RX8 264 yX8_net ∈ zz_all := zz_m4 224 rfl rfl
theorem tw_251 : Cond.instanceMethod yX8_net ∈ zz_all := zz_m4 226 rfl rfl
theorem tw_252 : Cond.selects RX8 yX8_net yX8_net ∈ zz_all := zz_ms 52 rfl rfl
theorem tw_253 : Cond.fieldLink RX8 43 "HandsReturnedModel" "foodTo" "[I" ∈ zz_all := zz_m3 184 rfl rfl
theorem tw_254 : Cond.fieldLink RX8 46 "HandsReturnedModel" "foodOf" "[I" ∈ zz_all := zz_m3 185 rfl rfl
theorem tw_255 : Cond.fieldLink RX8 49 "HandsReturnedModel" "paid" "[I" ∈ zz_all := zz_m3 186 rfl rfl
theorem tw_256 : Cond.fieldLink RX8 52 "HandsReturnedModel" "lapsed" "[I" ∈ zz_all := zz_m3 187 rfl rfl
theorem tw_257 : Cond.constant RX8 263 (-1000000) ∈ zz_all := zz_m4 223 rfl rfl
theorem zy_b23md_0 : decode cX8_field 0 = .ok (.aload_n 0, 1) ∧ decode cX8_field 1 = .ok (.iload_n 1, 1) ∧ decode cX8_field 2 = .ok (.invokevirtual 127, 3) ∧ decode cX8_field 5 = .ok (.ifCond .eq 62, 3) ∧ decode cX8_field 8 = .ok (.iload_n 2, 1) ∧ decode cX8_field 9 = .ok (.i2l, 1) ∧ decode cX8_field 10 = .ok (.lconst 0, 1) ∧ decode cX8_field 11 = .ok (.ldc2_w 131, 3) := by decide +kernel
theorem dX8_field_0 : decode cX8_field 0 = .ok (.aload_n 0, 1) := zy_b23md_0.1
theorem dX8_field_1 : decode cX8_field 1 = .ok (.iload_n 1, 1) := zy_b23md_0.2.1
theorem dX8_field_2 : decode cX8_field 2 = .ok (.invokevirtual 127, 3) := zy_b23md_0.2.2.1
theorem dX8_field_5 : decode cX8_field 5 = .ok (.ifCond .eq 62, 3) := zy_b23md_0.2.2.2.1
theorem dX8_field_8 : decode cX8_field 8 = .ok (.iload_n 2, 1) := zy_b23md_0.2.2.2.2.1
theorem dX8_field_9 : decode cX8_field 9 = .ok (.i2l, 1) := zy_b23md_0.2.2.2.2.2.1
theorem dX8_field_10 : decode cX8_field 10 = .ok (.lconst 0, 1) := zy_b23md_0.2.2.2.2.2.2.1
theorem dX8_field_11 : decode cX8_field 11 = .ok (.ldc2_w 131, 3) := zy_b23md_0.2.2.2.2.2.2.2
theorem zy_b23md_1 : decode cX8_field 14 = .ok (.invokestatic 118, 3) ∧ decode cX8_field 17 = .ok (.ifCond .eq 50, 3) ∧ decode cX8_field 20 = .ok (.iload_n 3, 1) ∧ decode cX8_field 21 = .ok (.i2l, 1) ∧ decode cX8_field 22 = .ok (.lconst 1, 1) ∧ decode cX8_field 23 = .ok (.ldc2_w 133, 3) ∧ decode cX8_field 26 = .ok (.invokestatic 118, 3) ∧ decode cX8_field 29 = .ok (.ifCond .eq 38, 3) := by decide +kernel
theorem dX8_field_14 : decode cX8_field 14 = .ok (.invokestatic 118, 3) := zy_b23md_1.1
theorem dX8_field_17 : decode cX8_field 17 = .ok (.ifCond .eq 50, 3) := zy_b23md_1.2.1
theorem dX8_field_20 : decode cX8_field 20 = .ok (.iload_n 3, 1) := zy_b23md_1.2.2.1
theorem dX8_field_21 : decode cX8_field 21 = .ok (.i2l, 1) := zy_b23md_1.2.2.2.1
theorem dX8_field_22 : decode cX8_field 22 = .ok (.lconst 1, 1) := zy_b23md_1.2.2.2.2.1
theorem dX8_field_23 : decode cX8_field 23 = .ok (.ldc2_w 133, 3) := zy_b23md_1.2.2.2.2.2.1
theorem dX8_field_26 : decode cX8_field 26 = .ok (.invokestatic 118, 3) := zy_b23md_1.2.2.2.2.2.2.1
theorem dX8_field_29 : decode cX8_field 29 = .ok (.ifCond .eq 38, 3) := zy_b23md_1.2.2.2.2.2.2.2
theorem zy_b23md_2 : decode cX8_field 32 = .ok (.iload 4, 2) ∧ decode cX8_field 34 = .ok (.i2l, 1) ∧ decode cX8_field 35 = .ok (.lconst 0, 1) ∧ decode cX8_field 36 = .ok (.ldc2_w 135, 3) ∧ decode cX8_field 39 = .ok (.invokestatic 118, 3) ∧ decode cX8_field 42 = .ok (.ifCond .eq 25, 3) ∧ decode cX8_field 45 = .ok (.iload 5, 2) ∧ decode cX8_field 47 = .ok (.i2l, 1) := by decide +kernel
theorem dX8_field_32 : decode cX8_field 32 = .ok (.iload 4, 2) := zy_b23md_2.1
theorem dX8_field_34 : decode cX8_field 34 = .ok (.i2l, 1) := zy_b23md_2.2.1
theorem dX8_field_35 : decode cX8_field 35 = .ok (.lconst 0, 1) := zy_b23md_2.2.2.1
theorem dX8_field_36 : decode cX8_field 36 = .ok (.ldc2_w 135, 3) := zy_b23md_2.2.2.2.1
theorem dX8_field_39 : decode cX8_field 39 = .ok (.invokestatic 118, 3) := zy_b23md_2.2.2.2.2.1
theorem dX8_field_42 : decode cX8_field 42 = .ok (.ifCond .eq 25, 3) := zy_b23md_2.2.2.2.2.2.1
theorem dX8_field_45 : decode cX8_field 45 = .ok (.iload 5, 2) := zy_b23md_2.2.2.2.2.2.2.1
theorem dX8_field_47 : decode cX8_field 47 = .ok (.i2l, 1) := zy_b23md_2.2.2.2.2.2.2.2
theorem zy_b23md_3 : decode cX8_field 48 = .ok (.lconst 0, 1) ∧ decode cX8_field 49 = .ok (.ldc2_w 137, 3) ∧ decode cX8_field 52 = .ok (.invokestatic 118, 3) ∧ decode cX8_field 55 = .ok (.ifCond .eq 12, 3) ∧ decode cX8_field 58 = .ok (.aload_n 0, 1) ∧ decode cX8_field 59 = .ok (.getfield 122, 3) ∧ decode cX8_field 62 = .ok (.bipush 12, 2) ∧ decode cX8_field 64 = .ok (.if_icmp .ne 5, 3) := by decide +kernel
theorem dX8_field_48 : decode cX8_field 48 = .ok (.lconst 0, 1) := zy_b23md_3.1
theorem dX8_field_49 : decode cX8_field 49 = .ok (.ldc2_w 137, 3) := zy_b23md_3.2.1
theorem dX8_field_52 : decode cX8_field 52 = .ok (.invokestatic 118, 3) := zy_b23md_3.2.2.1
theorem dX8_field_55 : decode cX8_field 55 = .ok (.ifCond .eq 12, 3) := zy_b23md_3.2.2.2.1
theorem dX8_field_58 : decode cX8_field 58 = .ok (.aload_n 0, 1) := zy_b23md_3.2.2.2.2.1
theorem dX8_field_59 : decode cX8_field 59 = .ok (.getfield 122, 3) := zy_b23md_3.2.2.2.2.2.1
theorem dX8_field_62 : decode cX8_field 62 = .ok (.bipush 12, 2) := zy_b23md_3.2.2.2.2.2.2.1
theorem dX8_field_64 : decode cX8_field 64 = .ok (.if_icmp .ne 5, 3) := zy_b23md_3.2.2.2.2.2.2.2
theorem zy_b23md_4 : decode cX8_field 67 = .ok (.iconst (-1), 1) ∧ decode cX8_field 68 = .ok (.ireturn, 1) ∧ decode cX8_field 69 = .ok (.aload_n 0, 1) ∧ decode cX8_field 70 = .ok (.getfield 58, 3) ∧ decode cX8_field 73 = .ok (.aload_n 0, 1) ∧ decode cX8_field 74 = .ok (.getfield 122, 3) ∧ decode cX8_field 77 = .ok (.iload_n 1, 1) ∧ decode cX8_field 78 = .ok (.iastore, 1) := by decide +kernel
theorem dX8_field_67 : decode cX8_field 67 = .ok (.iconst (-1), 1) := zy_b23md_4.1
theorem dX8_field_68 : decode cX8_field 68 = .ok (.ireturn, 1) := zy_b23md_4.2.1
theorem dX8_field_69 : decode cX8_field 69 = .ok (.aload_n 0, 1) := zy_b23md_4.2.2.1
theorem dX8_field_70 : decode cX8_field 70 = .ok (.getfield 58, 3) := zy_b23md_4.2.2.2.1
theorem dX8_field_73 : decode cX8_field 73 = .ok (.aload_n 0, 1) := zy_b23md_4.2.2.2.2.1
theorem dX8_field_74 : decode cX8_field 74 = .ok (.getfield 122, 3) := zy_b23md_4.2.2.2.2.2.1
theorem dX8_field_77 : decode cX8_field 77 = .ok (.iload_n 1, 1) := zy_b23md_4.2.2.2.2.2.2.1
theorem dX8_field_78 : decode cX8_field 78 = .ok (.iastore, 1) := zy_b23md_4.2.2.2.2.2.2.2
theorem zy_b23md_5 : decode cX8_field 79 = .ok (.aload_n 0, 1) ∧ decode cX8_field 80 = .ok (.getfield 61, 3) ∧ decode cX8_field 83 = .ok (.aload_n 0, 1) ∧ decode cX8_field 84 = .ok (.getfield 122, 3) ∧ decode cX8_field 87 = .ok (.iload_n 2, 1) ∧ decode cX8_field 88 = .ok (.iastore, 1) ∧ decode cX8_field 89 = .ok (.aload_n 0, 1) ∧ decode cX8_field 90 = .ok (.getfield 64, 3) := by decide +kernel
theorem dX8_field_79 : decode cX8_field 79 = .ok (.aload_n 0, 1) := zy_b23md_5.1
theorem dX8_field_80 : decode cX8_field 80 = .ok (.getfield 61, 3) := zy_b23md_5.2.1
theorem dX8_field_83 : decode cX8_field 83 = .ok (.aload_n 0, 1) := zy_b23md_5.2.2.1
theorem dX8_field_84 : decode cX8_field 84 = .ok (.getfield 122, 3) := zy_b23md_5.2.2.2.1
theorem dX8_field_87 : decode cX8_field 87 = .ok (.iload_n 2, 1) := zy_b23md_5.2.2.2.2.1
theorem dX8_field_88 : decode cX8_field 88 = .ok (.iastore, 1) := zy_b23md_5.2.2.2.2.2.1
theorem dX8_field_89 : decode cX8_field 89 = .ok (.aload_n 0, 1) := zy_b23md_5.2.2.2.2.2.2.1
theorem dX8_field_90 : decode cX8_field 90 = .ok (.getfield 64, 3) := zy_b23md_5.2.2.2.2.2.2.2
theorem zy_b23md_6 : decode cX8_field 93 = .ok (.aload_n 0, 1) ∧ decode cX8_field 94 = .ok (.getfield 122, 3) ∧ decode cX8_field 97 = .ok (.iload_n 3, 1) ∧ decode cX8_field 98 = .ok (.iastore, 1) ∧ decode cX8_field 99 = .ok (.aload_n 0, 1) ∧ decode cX8_field 100 = .ok (.getfield 67, 3) ∧ decode cX8_field 103 = .ok (.aload_n 0, 1) ∧ decode cX8_field 104 = .ok (.getfield 122, 3) := by decide +kernel
theorem dX8_field_93 : decode cX8_field 93 = .ok (.aload_n 0, 1) := zy_b23md_6.1
theorem dX8_field_94 : decode cX8_field 94 = .ok (.getfield 122, 3) := zy_b23md_6.2.1
theorem dX8_field_97 : decode cX8_field 97 = .ok (.iload_n 3, 1) := zy_b23md_6.2.2.1
theorem dX8_field_98 : decode cX8_field 98 = .ok (.iastore, 1) := zy_b23md_6.2.2.2.1
theorem dX8_field_99 : decode cX8_field 99 = .ok (.aload_n 0, 1) := zy_b23md_6.2.2.2.2.1
theorem dX8_field_100 : decode cX8_field 100 = .ok (.getfield 67, 3) := zy_b23md_6.2.2.2.2.2.1
theorem dX8_field_103 : decode cX8_field 103 = .ok (.aload_n 0, 1) := zy_b23md_6.2.2.2.2.2.2.1
theorem dX8_field_104 : decode cX8_field 104 = .ok (.getfield 122, 3) := zy_b23md_6.2.2.2.2.2.2.2
theorem zy_b23md_7 : decode cX8_field 107 = .ok (.iload 4, 2) ∧ decode cX8_field 109 = .ok (.iastore, 1) ∧ decode cX8_field 110 = .ok (.aload_n 0, 1) ∧ decode cX8_field 111 = .ok (.getfield 70, 3) ∧ decode cX8_field 114 = .ok (.aload_n 0, 1) ∧ decode cX8_field 115 = .ok (.getfield 122, 3) ∧ decode cX8_field 118 = .ok (.iload 5, 2) ∧ decode cX8_field 120 = .ok (.iastore, 1) := by decide +kernel
theorem dX8_field_107 : decode cX8_field 107 = .ok (.iload 4, 2) := zy_b23md_7.1
theorem dX8_field_109 : decode cX8_field 109 = .ok (.iastore, 1) := zy_b23md_7.2.1
theorem dX8_field_110 : decode cX8_field 110 = .ok (.aload_n 0, 1) := zy_b23md_7.2.2.1
theorem dX8_field_111 : decode cX8_field 111 = .ok (.getfield 70, 3) := zy_b23md_7.2.2.2.1
theorem dX8_field_114 : decode cX8_field 114 = .ok (.aload_n 0, 1) := zy_b23md_7.2.2.2.2.1
theorem dX8_field_115 : decode cX8_field 115 = .ok (.getfield 122, 3) := zy_b23md_7.2.2.2.2.2.1
theorem dX8_field_118 : decode cX8_field 118 = .ok (.iload 5, 2) := zy_b23md_7.2.2.2.2.2.2.1
theorem dX8_field_120 : decode cX8_field 120 = .ok (.iastore, 1) := zy_b23md_7.2.2.2.2.2.2.2
theorem zy_b23md_8 : decode cX8_field 121 = .ok (.aload_n 0, 1) ∧ decode cX8_field 122 = .ok (.getfield 73, 3) ∧ decode cX8_field 125 = .ok (.aload_n 0, 1) ∧ decode cX8_field 126 = .ok (.getfield 122, 3) ∧ decode cX8_field 129 = .ok (.iconst (-1), 1) ∧ decode cX8_field 130 = .ok (.iastore, 1) ∧ decode cX8_field 131 = .ok (.aload_n 0, 1) ∧ decode cX8_field 132 = .ok (.dup, 1) := by decide +kernel
theorem dX8_field_121 : decode cX8_field 121 = .ok (.aload_n 0, 1) := zy_b23md_8.1
theorem dX8_field_122 : decode cX8_field 122 = .ok (.getfield 73, 3) := zy_b23md_8.2.1
theorem dX8_field_125 : decode cX8_field 125 = .ok (.aload_n 0, 1) := zy_b23md_8.2.2.1
theorem dX8_field_126 : decode cX8_field 126 = .ok (.getfield 122, 3) := zy_b23md_8.2.2.2.1
theorem dX8_field_129 : decode cX8_field 129 = .ok (.iconst (-1), 1) := zy_b23md_8.2.2.2.2.1
theorem dX8_field_130 : decode cX8_field 130 = .ok (.iastore, 1) := zy_b23md_8.2.2.2.2.2.1
theorem dX8_field_131 : decode cX8_field 131 = .ok (.aload_n 0, 1) := zy_b23md_8.2.2.2.2.2.2.1
theorem dX8_field_132 : decode cX8_field 132 = .ok (.dup, 1) := zy_b23md_8.2.2.2.2.2.2.2
theorem zy_b23md_9 : decode cX8_field 133 = .ok (.getfield 122, 3) ∧ decode cX8_field 136 = .ok (.iconst 1, 1) ∧ decode cX8_field 137 = .ok (.iadd, 1) ∧ decode cX8_field 138 = .ok (.putfield 122, 3) ∧ decode cX8_field 141 = .ok (.aload_n 0, 1) ∧ decode cX8_field 142 = .ok (.getfield 122, 3) ∧ decode cX8_field 145 = .ok (.iconst 1, 1) ∧ decode cX8_field 146 = .ok (.isub, 1) := by decide +kernel
theorem dX8_field_133 : decode cX8_field 133 = .ok (.getfield 122, 3) := zy_b23md_9.1
theorem dX8_field_136 : decode cX8_field 136 = .ok (.iconst 1, 1) := zy_b23md_9.2.1
theorem dX8_field_137 : decode cX8_field 137 = .ok (.iadd, 1) := zy_b23md_9.2.2.1
theorem dX8_field_138 : decode cX8_field 138 = .ok (.putfield 122, 3) := zy_b23md_9.2.2.2.1
theorem dX8_field_141 : decode cX8_field 141 = .ok (.aload_n 0, 1) := zy_b23md_9.2.2.2.2.1
theorem dX8_field_142 : decode cX8_field 142 = .ok (.getfield 122, 3) := zy_b23md_9.2.2.2.2.2.1
theorem dX8_field_145 : decode cX8_field 145 = .ok (.iconst 1, 1) := zy_b23md_9.2.2.2.2.2.2.1
theorem dX8_field_146 : decode cX8_field 146 = .ok (.isub, 1) := zy_b23md_9.2.2.2.2.2.2.2
theorem dX8_field_147 : decode cX8_field 147 = .ok (.ireturn, 1) := by decide +kernel
theorem zy_b23md_10 : decode cX8_houseOf 0 = .ok (.aload_n 0, 1) ∧ decode cX8_houseOf 1 = .ok (.iload_n 1, 1) ∧ decode cX8_houseOf 2 = .ok (.invokevirtual 127, 3) ∧ decode cX8_houseOf 5 = .ok (.ifCond .ne 7, 3) ∧ decode cX8_houseOf 8 = .ok (.ldc_w 263, 3) ∧ decode cX8_houseOf 11 = .ok (.ireturn, 1) ∧ decode cX8_houseOf 12 = .ok (.iconst 0, 1) ∧ decode cX8_houseOf 13 = .ok (.istore_n 3, 1) := by decide +kernel
theorem dX8_houseOf_0 : decode cX8_houseOf 0 = .ok (.aload_n 0, 1) := zy_b23md_10.1
theorem dX8_houseOf_1 : decode cX8_houseOf 1 = .ok (.iload_n 1, 1) := zy_b23md_10.2.1
theorem dX8_houseOf_2 : decode cX8_houseOf 2 = .ok (.invokevirtual 127, 3) := zy_b23md_10.2.2.1
theorem dX8_houseOf_5 : decode cX8_houseOf 5 = .ok (.ifCond .ne 7, 3) := zy_b23md_10.2.2.2.1
theorem dX8_houseOf_8 : decode cX8_houseOf 8 = .ok (.ldc_w 263, 3) := zy_b23md_10.2.2.2.2.1
theorem dX8_houseOf_11 : decode cX8_houseOf 11 = .ok (.ireturn, 1) := zy_b23md_10.2.2.2.2.2.1
theorem dX8_houseOf_12 : decode cX8_houseOf 12 = .ok (.iconst 0, 1) := zy_b23md_10.2.2.2.2.2.2.1
theorem dX8_houseOf_13 : decode cX8_houseOf 13 = .ok (.istore_n 3, 1) := zy_b23md_10.2.2.2.2.2.2.2
theorem zy_b23md_11 : decode cX8_houseOf 14 = .ok (.iconst 0, 1) ∧ decode cX8_houseOf 15 = .ok (.istore 4, 2) ∧ decode cX8_houseOf 17 = .ok (.iload 4, 2) ∧ decode cX8_houseOf 19 = .ok (.aload_n 0, 1) ∧ decode cX8_houseOf 20 = .ok (.getfield 122, 3) ∧ decode cX8_houseOf 23 = .ok (.if_icmp .ge 44, 3) ∧ decode cX8_houseOf 26 = .ok (.iload_n 3, 1) ∧ decode cX8_houseOf 27 = .ok (.aload_n 0, 1) := by decide +kernel
theorem dX8_houseOf_14 : decode cX8_houseOf 14 = .ok (.iconst 0, 1) := zy_b23md_11.1
theorem dX8_houseOf_15 : decode cX8_houseOf 15 = .ok (.istore 4, 2) := zy_b23md_11.2.1
theorem dX8_houseOf_17 : decode cX8_houseOf 17 = .ok (.iload 4, 2) := zy_b23md_11.2.2.1
theorem dX8_houseOf_19 : decode cX8_houseOf 19 = .ok (.aload_n 0, 1) := zy_b23md_11.2.2.2.1
theorem dX8_houseOf_20 : decode cX8_houseOf 20 = .ok (.getfield 122, 3) := zy_b23md_11.2.2.2.2.1
theorem dX8_houseOf_23 : decode cX8_houseOf 23 = .ok (.if_icmp .ge 44, 3) := zy_b23md_11.2.2.2.2.2.1
theorem dX8_houseOf_26 : decode cX8_houseOf 26 = .ok (.iload_n 3, 1) := zy_b23md_11.2.2.2.2.2.2.1
theorem dX8_houseOf_27 : decode cX8_houseOf 27 = .ok (.aload_n 0, 1) := zy_b23md_11.2.2.2.2.2.2.2
theorem zy_b23md_12 : decode cX8_houseOf 28 = .ok (.getfield 58, 3) ∧ decode cX8_houseOf 31 = .ok (.iload 4, 2) ∧ decode cX8_houseOf 33 = .ok (.iaload, 1) ∧ decode cX8_houseOf 34 = .ok (.iload_n 1, 1) ∧ decode cX8_houseOf 35 = .ok (.if_icmp .ne 23, 3) ∧ decode cX8_houseOf 38 = .ok (.aload_n 0, 1) ∧ decode cX8_houseOf 39 = .ok (.getfield 73, 3) ∧ decode cX8_houseOf 42 = .ok (.iload 4, 2) := by decide +kernel
theorem dX8_houseOf_28 : decode cX8_houseOf 28 = .ok (.getfield 58, 3) := zy_b23md_12.1
theorem dX8_houseOf_31 : decode cX8_houseOf 31 = .ok (.iload 4, 2) := zy_b23md_12.2.1
theorem dX8_houseOf_33 : decode cX8_houseOf 33 = .ok (.iaload, 1) := zy_b23md_12.2.2.1
theorem dX8_houseOf_34 : decode cX8_houseOf 34 = .ok (.iload_n 1, 1) := zy_b23md_12.2.2.2.1
theorem dX8_houseOf_35 : decode cX8_houseOf 35 = .ok (.if_icmp .ne 23, 3) := zy_b23md_12.2.2.2.2.1
theorem dX8_houseOf_38 : decode cX8_houseOf 38 = .ok (.aload_n 0, 1) := zy_b23md_12.2.2.2.2.2.1
theorem dX8_houseOf_39 : decode cX8_houseOf 39 = .ok (.getfield 73, 3) := zy_b23md_12.2.2.2.2.2.2.1
theorem dX8_houseOf_42 : decode cX8_houseOf 42 = .ok (.iload 4, 2) := zy_b23md_12.2.2.2.2.2.2.2
theorem zy_b23md_13 : decode cX8_houseOf 44 = .ok (.iaload, 1) ∧ decode cX8_houseOf 45 = .ok (.ifCond .lt 13, 3) ∧ decode cX8_houseOf 48 = .ok (.aload_n 0, 1) ∧ decode cX8_houseOf 49 = .ok (.getfield 76, 3) ∧ decode cX8_houseOf 52 = .ok (.iload 4, 2) ∧ decode cX8_houseOf 54 = .ok (.iaload, 1) ∧ decode cX8_houseOf 55 = .ok (.goto 4, 3) ∧ decode cX8_houseOf 58 = .ok (.iconst 0, 1) := by decide +kernel
theorem dX8_houseOf_44 : decode cX8_houseOf 44 = .ok (.iaload, 1) := zy_b23md_13.1
theorem dX8_houseOf_45 : decode cX8_houseOf 45 = .ok (.ifCond .lt 13, 3) := zy_b23md_13.2.1
theorem dX8_houseOf_48 : decode cX8_houseOf 48 = .ok (.aload_n 0, 1) := zy_b23md_13.2.2.1
theorem dX8_houseOf_49 : decode cX8_houseOf 49 = .ok (.getfield 76, 3) := zy_b23md_13.2.2.2.1
theorem dX8_houseOf_52 : decode cX8_houseOf 52 = .ok (.iload 4, 2) := zy_b23md_13.2.2.2.2.1
theorem dX8_houseOf_54 : decode cX8_houseOf 54 = .ok (.iaload, 1) := zy_b23md_13.2.2.2.2.2.1
theorem dX8_houseOf_55 : decode cX8_houseOf 55 = .ok (.goto 4, 3) := zy_b23md_13.2.2.2.2.2.2.1
theorem dX8_houseOf_58 : decode cX8_houseOf 58 = .ok (.iconst 0, 1) := zy_b23md_13.2.2.2.2.2.2.2
theorem zy_b23md_14 : decode cX8_houseOf 59 = .ok (.iadd, 1) ∧ decode cX8_houseOf 60 = .ok (.istore_n 3, 1) ∧ decode cX8_houseOf 61 = .ok (.iinc 4 1, 3) ∧ decode cX8_houseOf 64 = .ok (.goto (-47), 3) ∧ decode cX8_houseOf 67 = .ok (.iload_n 2, 1) ∧ decode cX8_houseOf 68 = .ok (.tableswitch 127 0 9 #[56, 63, 78, 85, 91, 97, 104, 111, 118, 125], 56) ∧ decode cX8_houseOf 124 = .ok (.aload_n 0, 1) ∧ decode cX8_houseOf 125 = .ok (.getfield 31, 3) := by decide +kernel
theorem dX8_houseOf_59 : decode cX8_houseOf 59 = .ok (.iadd, 1) := zy_b23md_14.1
theorem dX8_houseOf_60 : decode cX8_houseOf 60 = .ok (.istore_n 3, 1) := zy_b23md_14.2.1
theorem dX8_houseOf_61 : decode cX8_houseOf 61 = .ok (.iinc 4 1, 3) := zy_b23md_14.2.2.1
theorem dX8_houseOf_64 : decode cX8_houseOf 64 = .ok (.goto (-47), 3) := zy_b23md_14.2.2.2.1
theorem dX8_houseOf_67 : decode cX8_houseOf 67 = .ok (.iload_n 2, 1) := zy_b23md_14.2.2.2.2.1
theorem dX8_houseOf_68 : decode cX8_houseOf 68 = .ok (.tableswitch 127 0 9 #[56, 63, 78, 85, 91, 97, 104, 111, 118, 125], 56) := zy_b23md_14.2.2.2.2.2.1
theorem dX8_houseOf_124 : decode cX8_houseOf 124 = .ok (.aload_n 0, 1) := zy_b23md_14.2.2.2.2.2.2.1
theorem dX8_houseOf_125 : decode cX8_houseOf 125 = .ok (.getfield 31, 3) := zy_b23md_14.2.2.2.2.2.2.2
theorem zy_b23md_15 : decode cX8_houseOf 128 = .ok (.iload_n 1, 1) ∧ decode cX8_houseOf 129 = .ok (.iaload, 1) ∧ decode cX8_houseOf 130 = .ok (.ireturn, 1) ∧ decode cX8_houseOf 131 = .ok (.aload_n 0, 1) ∧ decode cX8_houseOf 132 = .ok (.getfield 34, 3) ∧ decode cX8_houseOf 135 = .ok (.iload_n 1, 1) ∧ decode cX8_houseOf 136 = .ok (.baload, 1) ∧ decode cX8_houseOf 137 = .ok (.ifCond .eq 7, 3) := by decide +kernel
theorem dX8_houseOf_128 : decode cX8_houseOf 128 = .ok (.iload_n 1, 1) := zy_b23md_15.1
theorem dX8_houseOf_129 : decode cX8_houseOf 129 = .ok (.iaload, 1) := zy_b23md_15.2.1
theorem dX8_houseOf_130 : decode cX8_houseOf 130 = .ok (.ireturn, 1) := zy_b23md_15.2.2.1
theorem dX8_houseOf_131 : decode cX8_houseOf 131 = .ok (.aload_n 0, 1) := zy_b23md_15.2.2.2.1
theorem dX8_houseOf_132 : decode cX8_houseOf 132 = .ok (.getfield 34, 3) := zy_b23md_15.2.2.2.2.1
theorem dX8_houseOf_135 : decode cX8_houseOf 135 = .ok (.iload_n 1, 1) := zy_b23md_15.2.2.2.2.2.1
theorem dX8_houseOf_136 : decode cX8_houseOf 136 = .ok (.baload, 1) := zy_b23md_15.2.2.2.2.2.2.1
theorem dX8_houseOf_137 : decode cX8_houseOf 137 = .ok (.ifCond .eq 7, 3) := zy_b23md_15.2.2.2.2.2.2.2
theorem zy_b23md_16 : decode cX8_houseOf 140 = .ok (.iconst 1, 1) ∧ decode cX8_houseOf 141 = .ok (.goto 4, 3) ∧ decode cX8_houseOf 144 = .ok (.iconst 0, 1) ∧ decode cX8_houseOf 145 = .ok (.ireturn, 1) ∧ decode cX8_houseOf 146 = .ok (.aload_n 0, 1) ∧ decode cX8_houseOf 147 = .ok (.getfield 37, 3) ∧ decode cX8_houseOf 150 = .ok (.iload_n 1, 1) ∧ decode cX8_houseOf 151 = .ok (.iaload, 1) := by decide +kernel
theorem dX8_houseOf_140 : decode cX8_houseOf 140 = .ok (.iconst 1, 1) := zy_b23md_16.1
theorem dX8_houseOf_141 : decode cX8_houseOf 141 = .ok (.goto 4, 3) := zy_b23md_16.2.1
theorem dX8_houseOf_144 : decode cX8_houseOf 144 = .ok (.iconst 0, 1) := zy_b23md_16.2.2.1
theorem dX8_houseOf_145 : decode cX8_houseOf 145 = .ok (.ireturn, 1) := zy_b23md_16.2.2.2.1
theorem dX8_houseOf_146 : decode cX8_houseOf 146 = .ok (.aload_n 0, 1) := zy_b23md_16.2.2.2.2.1
theorem dX8_houseOf_147 : decode cX8_houseOf 147 = .ok (.getfield 37, 3) := zy_b23md_16.2.2.2.2.2.1
theorem dX8_houseOf_150 : decode cX8_houseOf 150 = .ok (.iload_n 1, 1) := zy_b23md_16.2.2.2.2.2.2.1
theorem dX8_houseOf_151 : decode cX8_houseOf 151 = .ok (.iaload, 1) := zy_b23md_16.2.2.2.2.2.2.2
theorem zy_b23md_17 : decode cX8_houseOf 152 = .ok (.ireturn, 1) ∧ decode cX8_houseOf 153 = .ok (.aload_n 0, 1) ∧ decode cX8_houseOf 154 = .ok (.iload_n 1, 1) ∧ decode cX8_houseOf 155 = .ok (.invokevirtual 237, 3) ∧ decode cX8_houseOf 158 = .ok (.ireturn, 1) ∧ decode cX8_houseOf 159 = .ok (.aload_n 0, 1) ∧ decode cX8_houseOf 160 = .ok (.iload_n 1, 1) ∧ decode cX8_houseOf 161 = .ok (.invokevirtual 264, 3) := by decide +kernel
theorem dX8_houseOf_152 : decode cX8_houseOf 152 = .ok (.ireturn, 1) := zy_b23md_17.1
theorem dX8_houseOf_153 : decode cX8_houseOf 153 = .ok (.aload_n 0, 1) := zy_b23md_17.2.1
theorem dX8_houseOf_154 : decode cX8_houseOf 154 = .ok (.iload_n 1, 1) := zy_b23md_17.2.2.1
theorem dX8_houseOf_155 : decode cX8_houseOf 155 = .ok (.invokevirtual 237, 3) := zy_b23md_17.2.2.2.1
theorem dX8_houseOf_158 : decode cX8_houseOf 158 = .ok (.ireturn, 1) := zy_b23md_17.2.2.2.2.1
theorem dX8_houseOf_159 : decode cX8_houseOf 159 = .ok (.aload_n 0, 1) := zy_b23md_17.2.2.2.2.2.1
theorem dX8_houseOf_160 : decode cX8_houseOf 160 = .ok (.iload_n 1, 1) := zy_b23md_17.2.2.2.2.2.2.1
theorem dX8_houseOf_161 : decode cX8_houseOf 161 = .ok (.invokevirtual 264, 3) := zy_b23md_17.2.2.2.2.2.2.2
theorem zy_b23md_18 : decode cX8_houseOf 164 = .ok (.ireturn, 1) ∧ decode cX8_houseOf 165 = .ok (.aload_n 0, 1) ∧ decode cX8_houseOf 166 = .ok (.getfield 43, 3) ∧ decode cX8_houseOf 169 = .ok (.iload_n 1, 1) ∧ decode cX8_houseOf 170 = .ok (.iaload, 1) ∧ decode cX8_houseOf 171 = .ok (.ireturn, 1) ∧ decode cX8_houseOf 172 = .ok (.aload_n 0, 1) ∧ decode cX8_houseOf 173 = .ok (.getfield 46, 3) := by decide +kernel
theorem dX8_houseOf_164 : decode cX8_houseOf 164 = .ok (.ireturn, 1) := zy_b23md_18.1
theorem dX8_houseOf_165 : decode cX8_houseOf 165 = .ok (.aload_n 0, 1) := zy_b23md_18.2.1
theorem dX8_houseOf_166 : decode cX8_houseOf 166 = .ok (.getfield 43, 3) := zy_b23md_18.2.2.1
theorem dX8_houseOf_169 : decode cX8_houseOf 169 = .ok (.iload_n 1, 1) := zy_b23md_18.2.2.2.1
theorem dX8_houseOf_170 : decode cX8_houseOf 170 = .ok (.iaload, 1) := zy_b23md_18.2.2.2.2.1
theorem dX8_houseOf_171 : decode cX8_houseOf 171 = .ok (.ireturn, 1) := zy_b23md_18.2.2.2.2.2.1
theorem dX8_houseOf_172 : decode cX8_houseOf 172 = .ok (.aload_n 0, 1) := zy_b23md_18.2.2.2.2.2.2.1
theorem dX8_houseOf_173 : decode cX8_houseOf 173 = .ok (.getfield 46, 3) := zy_b23md_18.2.2.2.2.2.2.2
theorem zy_b23md_19 : decode cX8_houseOf 176 = .ok (.iload_n 1, 1) ∧ decode cX8_houseOf 177 = .ok (.iaload, 1) ∧ decode cX8_houseOf 178 = .ok (.ireturn, 1) ∧ decode cX8_houseOf 179 = .ok (.aload_n 0, 1) ∧ decode cX8_houseOf 180 = .ok (.getfield 49, 3) ∧ decode cX8_houseOf 183 = .ok (.iload_n 1, 1) ∧ decode cX8_houseOf 184 = .ok (.iaload, 1) ∧ decode cX8_houseOf 185 = .ok (.ireturn, 1) := by decide +kernel
theorem dX8_houseOf_176 : decode cX8_houseOf 176 = .ok (.iload_n 1, 1) := zy_b23md_19.1
theorem dX8_houseOf_177 : decode cX8_houseOf 177 = .ok (.iaload, 1) := zy_b23md_19.2.1
theorem dX8_houseOf_178 : decode cX8_houseOf 178 = .ok (.ireturn, 1) := zy_b23md_19.2.2.1
theorem dX8_houseOf_179 : decode cX8_houseOf 179 = .ok (.aload_n 0, 1) := zy_b23md_19.2.2.2.1
theorem dX8_houseOf_180 : decode cX8_houseOf 180 = .ok (.getfield 49, 3) := zy_b23md_19.2.2.2.2.1
theorem dX8_houseOf_183 : decode cX8_houseOf 183 = .ok (.iload_n 1, 1) := zy_b23md_19.2.2.2.2.2.1
theorem dX8_houseOf_184 : decode cX8_houseOf 184 = .ok (.iaload, 1) := zy_b23md_19.2.2.2.2.2.2.1
theorem dX8_houseOf_185 : decode cX8_houseOf 185 = .ok (.ireturn, 1) := zy_b23md_19.2.2.2.2.2.2.2
theorem zy_b23md_20 : decode cX8_houseOf 186 = .ok (.aload_n 0, 1) ∧ decode cX8_houseOf 187 = .ok (.getfield 52, 3) ∧ decode cX8_houseOf 190 = .ok (.iload_n 1, 1) ∧ decode cX8_houseOf 191 = .ok (.iaload, 1) ∧ decode cX8_houseOf 192 = .ok (.ireturn, 1) ∧ decode cX8_houseOf 193 = .ok (.iload_n 3, 1) ∧ decode cX8_houseOf 194 = .ok (.ireturn, 1) ∧ decode cX8_houseOf 195 = .ok (.ldc_w 263, 3) := by decide +kernel
theorem dX8_houseOf_186 : decode cX8_houseOf 186 = .ok (.aload_n 0, 1) := zy_b23md_20.1
theorem dX8_houseOf_187 : decode cX8_houseOf 187 = .ok (.getfield 52, 3) := zy_b23md_20.2.1
theorem dX8_houseOf_190 : decode cX8_houseOf 190 = .ok (.iload_n 1, 1) := zy_b23md_20.2.2.1
theorem dX8_houseOf_191 : decode cX8_houseOf 191 = .ok (.iaload, 1) := zy_b23md_20.2.2.2.1
theorem dX8_houseOf_192 : decode cX8_houseOf 192 = .ok (.ireturn, 1) := zy_b23md_20.2.2.2.2.1
theorem dX8_houseOf_193 : decode cX8_houseOf 193 = .ok (.iload_n 3, 1) := zy_b23md_20.2.2.2.2.2.1
theorem dX8_houseOf_194 : decode cX8_houseOf 194 = .ok (.ireturn, 1) := zy_b23md_20.2.2.2.2.2.2.1
theorem dX8_houseOf_195 : decode cX8_houseOf 195 = .ok (.ldc_w 263, 3) := zy_b23md_20.2.2.2.2.2.2.2
theorem dX8_houseOf_198 : decode cX8_houseOf 198 = .ok (.ireturn, 1) := by decide +kernel
theorem zy_b23md_21 : decode cX8_lowest 0 = .ok (.iload_n 0, 1) ∧ decode cX8_lowest 1 = .ok (.iconst 3, 1) ∧ decode cX8_lowest 2 = .ok (.if_icmp .ne 7, 3) ∧ decode cX8_lowest 5 = .ok (.iconst 1, 1) ∧ decode cX8_lowest 6 = .ok (.goto 4, 3) ∧ decode cX8_lowest 9 = .ok (.iconst 0, 1) ∧ decode cX8_lowest 10 = .ok (.ireturn, 1) := by decide +kernel
theorem dX8_lowest_0 : decode cX8_lowest 0 = .ok (.iload_n 0, 1) := zy_b23md_21.1
theorem dX8_lowest_1 : decode cX8_lowest 1 = .ok (.iconst 3, 1) := zy_b23md_21.2.1
theorem dX8_lowest_2 : decode cX8_lowest 2 = .ok (.if_icmp .ne 7, 3) := zy_b23md_21.2.2.1
theorem dX8_lowest_5 : decode cX8_lowest 5 = .ok (.iconst 1, 1) := zy_b23md_21.2.2.2.1
theorem dX8_lowest_6 : decode cX8_lowest 6 = .ok (.goto 4, 3) := zy_b23md_21.2.2.2.2.1
theorem dX8_lowest_9 : decode cX8_lowest 9 = .ok (.iconst 0, 1) := zy_b23md_21.2.2.2.2.2.1
theorem dX8_lowest_10 : decode cX8_lowest 10 = .ok (.ireturn, 1) := zy_b23md_21.2.2.2.2.2.2
theorem zy_b23md_22 : decode cX8_highest 0 = .ok (.iload_n 0, 1) ∧ decode cX8_highest 1 = .ok (.iconst 3, 1) ∧ decode cX8_highest 2 = .ok (.if_icmp .lt 8, 3) ∧ decode cX8_highest 5 = .ok (.iload_n 0, 1) ∧ decode cX8_highest 6 = .ok (.iconst 5, 1) ∧ decode cX8_highest 7 = .ok (.if_icmp .ne 8, 3) ∧ decode cX8_highest 10 = .ok (.bipush 99, 2) ∧ decode cX8_highest 12 = .ok (.goto 18, 3) := by decide +kernel
theorem dX8_highest_0 : decode cX8_highest 0 = .ok (.iload_n 0, 1) := zy_b23md_22.1
theorem dX8_highest_1 : decode cX8_highest 1 = .ok (.iconst 3, 1) := zy_b23md_22.2.1
theorem dX8_highest_2 : decode cX8_highest 2 = .ok (.if_icmp .lt 8, 3) := zy_b23md_22.2.2.1
theorem dX8_highest_5 : decode cX8_highest 5 = .ok (.iload_n 0, 1) := zy_b23md_22.2.2.2.1
theorem dX8_highest_6 : decode cX8_highest 6 = .ok (.iconst 5, 1) := zy_b23md_22.2.2.2.2.1
theorem dX8_highest_7 : decode cX8_highest 7 = .ok (.if_icmp .ne 8, 3) := zy_b23md_22.2.2.2.2.2.1
theorem dX8_highest_10 : decode cX8_highest 10 = .ok (.bipush 99, 2) := zy_b23md_22.2.2.2.2.2.2.1
theorem dX8_highest_12 : decode cX8_highest 12 = .ok (.goto 18, 3) := zy_b23md_22.2.2.2.2.2.2.2
theorem zy_b23md_23 : decode cX8_highest 15 = .ok (.iload_n 0, 1) ∧ decode cX8_highest 16 = .ok (.bipush 6, 2) ∧ decode cX8_highest 18 = .ok (.if_icmp .ne 9, 3) ∧ decode cX8_highest 21 = .ok (.sipush 999, 3) ∧ decode cX8_highest 24 = .ok (.goto 6, 3) ∧ decode cX8_highest 27 = .ok (.sipush 400, 3) ∧ decode cX8_highest 30 = .ok (.ireturn, 1) := by decide +kernel
theorem dX8_highest_15 : decode cX8_highest 15 = .ok (.iload_n 0, 1) := zy_b23md_23.1
theorem dX8_highest_16 : decode cX8_highest 16 = .ok (.bipush 6, 2) := zy_b23md_23.2.1
theorem dX8_highest_18 : decode cX8_highest 18 = .ok (.if_icmp .ne 9, 3) := zy_b23md_23.2.2.1
theorem dX8_highest_21 : decode cX8_highest 21 = .ok (.sipush 999, 3) := zy_b23md_23.2.2.2.1
theorem dX8_highest_24 : decode cX8_highest 24 = .ok (.goto 6, 3) := zy_b23md_23.2.2.2.2.1
theorem dX8_highest_27 : decode cX8_highest 27 = .ok (.sipush 400, 3) := zy_b23md_23.2.2.2.2.2.1
theorem dX8_highest_30 : decode cX8_highest 30 = .ok (.ireturn, 1) := zy_b23md_23.2.2.2.2.2.2
