theorem tw_191 : Cond.fieldLink RX8 7 "HandsReturnedModel" "tape" "[B" ∈ zz_all := zz_m3 165 rfl rfl
theorem tw_192 : Cond.fieldLink RX8 141 "HandsReturnedModel" "taped" "I" ∈ zz_all := zz_m3 166 rfl rfl
theorem tw_193 : Cond.code yX8_put cX8_put 2 none ∈ zz_all := zz_m4 106 rfl rfl
theorem tw_194 : Cond.methodLink RX8 144 yX8_put ∈ zz_all := zz_m4 103 rfl rfl
theorem tw_195 : Cond.instanceMethod yX8_put ∈ zz_all := zz_m4 105 rfl rfl
theorem tw_196 : Cond.selects RX8 yX8_put yX8_put ∈ zz_all := zz_ms 38 rfl rfl
theorem tw_197 : Cond.code yX8_isHouse cX8_isHouse 2 (some .boolean) ∈ zz_all := zz_m4 89 rfl rfl
theorem tw_198 : Cond.methodLink RX8 127 yX8_isHouse ∈ zz_all := zz_m4 86 rfl rfl
theorem tw_199 : Cond.instanceMethod yX8_isHouse ∈ zz_all := zz_m4 88 rfl rfl
theorem tw_200 : Cond.selects RX8 yX8_isHouse yX8_isHouse ∈ zz_all := zz_ms 37 rfl rfl
theorem tw_201 : Cond.constantLong RX8 135 400 ∈ zz_all := zz_m4 92 rfl rfl
theorem tw_202 : Cond.fieldLink RX8 37 "HandsReturnedModel" "ill" "[I" ∈ zz_all := zz_m3 182 rfl rfl
theorem tw_203 : Cond.constantLong RX8 139 100 ∈ zz_all := zz_m4 98 rfl rfl
theorem tw_204 : Cond.fieldLink RX8 55 "HandsReturnedModel" "loss" "[I" ∈ zz_all := zz_m3 188 rfl rfl
theorem tw_205 : Cond.fieldLink RX8 40 "HandsReturnedModel" "used" "[I" ∈ zz_all := zz_m3 183 rfl rfl
theorem tw_206 : Cond.fieldLink RX8 230 "HandsReturnedModel" "debts" "I" ∈ zz_all := zz_m3 198 rfl rfl
theorem tw_207 : Cond.fieldLink RX8 79 "HandsReturnedModel" "debtor" "[I" ∈ zz_all := zz_m3 199 rfl rfl
theorem tw_208 : Cond.fieldLink RX8 82 "HandsReturnedModel" "creditor" "[I" ∈ zz_all := zz_m3 200 rfl rfl
theorem tw_209 : Cond.fieldLink RX8 85 "HandsReturnedModel" "debtDay" "[I" ∈ zz_all := zz_m3 201 rfl rfl
theorem tw_210 : Cond.fieldLink RX8 88 "HandsReturnedModel" "units" "[I" ∈ zz_all := zz_m3 202 rfl rfl
theorem tw_211 : Cond.code yX8_owed cX8_owed 5 (some .int) ∈ zz_all := zz_m4 239 rfl rfl
theorem tw_212 : Cond.methodLink RX8 267 yX8_owed ∈ zz_all := zz_m4 236 rfl rfl
theorem tw_213 : Cond.instanceMethod yX8_owed ∈ zz_all := zz_m4 238 rfl rfl
theorem tw_214 : Cond.selects RX8 yX8_owed yX8_owed ∈ zz_all := zz_ms 53 rfl rfl
theorem tw_215 : Cond.fieldLink RX8 17 "HandsReturnedModel" "faultAt" "I" ∈ zz_all := zz_m3 174 rfl rfl
theorem tw_216 : Cond.fieldLink RX8 13 "HandsReturnedModel" "fault" "I" ∈ zz_all := zz_m3 173 rfl rfl
theorem tw_217 : Cond.constantLong RX8 218 6 ∈ zz_all := zz_m4 162 rfl rfl
theorem tw_218 : Cond.fieldLink RX8 28 "HandsReturnedModel" "custom" "[I" ∈ zz_all := zz_m3 177 rfl rfl
theorem tw_219 : Cond.fieldLink RX8 223 "HandsReturnedModel" "clock" "I" ∈ zz_all := zz_m3 178 rfl rfl
theorem tw_220 : Cond.fieldLink RX8 254 "HandsReturnedModel" "hired" "I" ∈ zz_all := zz_m3 197 rfl rfl
theorem tw_221 : Cond.constantLong RX8 311 20 ∈ zz_all := zz_m5 64 rfl rfl
theorem tw_222 : Cond.constantLong RX8 313 29 ∈ zz_all := zz_m5 65 rfl rfl
theorem zy_b21mb_0 : decode cX8_put 0 = .ok (.aload_n 0, 1) ∧ decode cX8_put 1 = .ok (.getfield 7, 3) ∧ decode cX8_put 4 = .ok (.aload_n 0, 1) ∧ decode cX8_put 5 = .ok (.getfield 141, 3) ∧ decode cX8_put 8 = .ok (.iload_n 1, 1) ∧ decode cX8_put 9 = .ok (.bipush 24, 2) ∧ decode cX8_put 11 = .ok (.ishr, 1) ∧ decode cX8_put 12 = .ok (.i2b, 1) := by decide +kernel
theorem dX8_put_0 : decode cX8_put 0 = .ok (.aload_n 0, 1) := zy_b21mb_0.1
theorem dX8_put_1 : decode cX8_put 1 = .ok (.getfield 7, 3) := zy_b21mb_0.2.1
theorem dX8_put_4 : decode cX8_put 4 = .ok (.aload_n 0, 1) := zy_b21mb_0.2.2.1
theorem dX8_put_5 : decode cX8_put 5 = .ok (.getfield 141, 3) := zy_b21mb_0.2.2.2.1
theorem dX8_put_8 : decode cX8_put 8 = .ok (.iload_n 1, 1) := zy_b21mb_0.2.2.2.2.1
theorem dX8_put_9 : decode cX8_put 9 = .ok (.bipush 24, 2) := zy_b21mb_0.2.2.2.2.2.1
theorem dX8_put_11 : decode cX8_put 11 = .ok (.ishr, 1) := zy_b21mb_0.2.2.2.2.2.2.1
theorem dX8_put_12 : decode cX8_put 12 = .ok (.i2b, 1) := zy_b21mb_0.2.2.2.2.2.2.2
theorem zy_b21mb_1 : decode cX8_put 13 = .ok (.bastore, 1) ∧ decode cX8_put 14 = .ok (.aload_n 0, 1) ∧ decode cX8_put 15 = .ok (.getfield 7, 3) ∧ decode cX8_put 18 = .ok (.aload_n 0, 1) ∧ decode cX8_put 19 = .ok (.getfield 141, 3) ∧ decode cX8_put 22 = .ok (.iconst 1, 1) ∧ decode cX8_put 23 = .ok (.iadd, 1) ∧ decode cX8_put 24 = .ok (.iload_n 1, 1) := by decide +kernel
theorem dX8_put_13 : decode cX8_put 13 = .ok (.bastore, 1) := zy_b21mb_1.1
theorem dX8_put_14 : decode cX8_put 14 = .ok (.aload_n 0, 1) := zy_b21mb_1.2.1
theorem dX8_put_15 : decode cX8_put 15 = .ok (.getfield 7, 3) := zy_b21mb_1.2.2.1
theorem dX8_put_18 : decode cX8_put 18 = .ok (.aload_n 0, 1) := zy_b21mb_1.2.2.2.1
theorem dX8_put_19 : decode cX8_put 19 = .ok (.getfield 141, 3) := zy_b21mb_1.2.2.2.2.1
theorem dX8_put_22 : decode cX8_put 22 = .ok (.iconst 1, 1) := zy_b21mb_1.2.2.2.2.2.1
theorem dX8_put_23 : decode cX8_put 23 = .ok (.iadd, 1) := zy_b21mb_1.2.2.2.2.2.2.1
theorem dX8_put_24 : decode cX8_put 24 = .ok (.iload_n 1, 1) := zy_b21mb_1.2.2.2.2.2.2.2
theorem zy_b21mb_2 : decode cX8_put 25 = .ok (.bipush 16, 2) ∧ decode cX8_put 27 = .ok (.ishr, 1) ∧ decode cX8_put 28 = .ok (.i2b, 1) ∧ decode cX8_put 29 = .ok (.bastore, 1) ∧ decode cX8_put 30 = .ok (.aload_n 0, 1) ∧ decode cX8_put 31 = .ok (.getfield 7, 3) ∧ decode cX8_put 34 = .ok (.aload_n 0, 1) ∧ decode cX8_put 35 = .ok (.getfield 141, 3) := by decide +kernel
theorem dX8_put_25 : decode cX8_put 25 = .ok (.bipush 16, 2) := zy_b21mb_2.1
theorem dX8_put_27 : decode cX8_put 27 = .ok (.ishr, 1) := zy_b21mb_2.2.1
theorem dX8_put_28 : decode cX8_put 28 = .ok (.i2b, 1) := zy_b21mb_2.2.2.1
theorem dX8_put_29 : decode cX8_put 29 = .ok (.bastore, 1) := zy_b21mb_2.2.2.2.1
theorem dX8_put_30 : decode cX8_put 30 = .ok (.aload_n 0, 1) := zy_b21mb_2.2.2.2.2.1
theorem dX8_put_31 : decode cX8_put 31 = .ok (.getfield 7, 3) := zy_b21mb_2.2.2.2.2.2.1
theorem dX8_put_34 : decode cX8_put 34 = .ok (.aload_n 0, 1) := zy_b21mb_2.2.2.2.2.2.2.1
theorem dX8_put_35 : decode cX8_put 35 = .ok (.getfield 141, 3) := zy_b21mb_2.2.2.2.2.2.2.2
theorem zy_b21mb_3 : decode cX8_put 38 = .ok (.iconst 2, 1) ∧ decode cX8_put 39 = .ok (.iadd, 1) ∧ decode cX8_put 40 = .ok (.iload_n 1, 1) ∧ decode cX8_put 41 = .ok (.bipush 8, 2) ∧ decode cX8_put 43 = .ok (.ishr, 1) ∧ decode cX8_put 44 = .ok (.i2b, 1) ∧ decode cX8_put 45 = .ok (.bastore, 1) ∧ decode cX8_put 46 = .ok (.aload_n 0, 1) := by decide +kernel
theorem dX8_put_38 : decode cX8_put 38 = .ok (.iconst 2, 1) := zy_b21mb_3.1
theorem dX8_put_39 : decode cX8_put 39 = .ok (.iadd, 1) := zy_b21mb_3.2.1
theorem dX8_put_40 : decode cX8_put 40 = .ok (.iload_n 1, 1) := zy_b21mb_3.2.2.1
theorem dX8_put_41 : decode cX8_put 41 = .ok (.bipush 8, 2) := zy_b21mb_3.2.2.2.1
theorem dX8_put_43 : decode cX8_put 43 = .ok (.ishr, 1) := zy_b21mb_3.2.2.2.2.1
theorem dX8_put_44 : decode cX8_put 44 = .ok (.i2b, 1) := zy_b21mb_3.2.2.2.2.2.1
theorem dX8_put_45 : decode cX8_put 45 = .ok (.bastore, 1) := zy_b21mb_3.2.2.2.2.2.2.1
theorem dX8_put_46 : decode cX8_put 46 = .ok (.aload_n 0, 1) := zy_b21mb_3.2.2.2.2.2.2.2
theorem zy_b21mb_4 : decode cX8_put 47 = .ok (.getfield 7, 3) ∧ decode cX8_put 50 = .ok (.aload_n 0, 1) ∧ decode cX8_put 51 = .ok (.getfield 141, 3) ∧ decode cX8_put 54 = .ok (.iconst 3, 1) ∧ decode cX8_put 55 = .ok (.iadd, 1) ∧ decode cX8_put 56 = .ok (.iload_n 1, 1) ∧ decode cX8_put 57 = .ok (.i2b, 1) ∧ decode cX8_put 58 = .ok (.bastore, 1) := by decide +kernel
theorem dX8_put_47 : decode cX8_put 47 = .ok (.getfield 7, 3) := zy_b21mb_4.1
theorem dX8_put_50 : decode cX8_put 50 = .ok (.aload_n 0, 1) := zy_b21mb_4.2.1
theorem dX8_put_51 : decode cX8_put 51 = .ok (.getfield 141, 3) := zy_b21mb_4.2.2.1
theorem dX8_put_54 : decode cX8_put 54 = .ok (.iconst 3, 1) := zy_b21mb_4.2.2.2.1
theorem dX8_put_55 : decode cX8_put 55 = .ok (.iadd, 1) := zy_b21mb_4.2.2.2.2.1
theorem dX8_put_56 : decode cX8_put 56 = .ok (.iload_n 1, 1) := zy_b21mb_4.2.2.2.2.2.1
theorem dX8_put_57 : decode cX8_put 57 = .ok (.i2b, 1) := zy_b21mb_4.2.2.2.2.2.2.1
theorem dX8_put_58 : decode cX8_put 58 = .ok (.bastore, 1) := zy_b21mb_4.2.2.2.2.2.2.2
theorem zy_b21mb_5 : decode cX8_put 59 = .ok (.aload_n 0, 1) ∧ decode cX8_put 60 = .ok (.dup, 1) ∧ decode cX8_put 61 = .ok (.getfield 141, 3) ∧ decode cX8_put 64 = .ok (.iconst 4, 1) ∧ decode cX8_put 65 = .ok (.iadd, 1) ∧ decode cX8_put 66 = .ok (.putfield 141, 3) ∧ decode cX8_put 69 = .ok (.return_, 1) := by decide +kernel
theorem dX8_put_59 : decode cX8_put 59 = .ok (.aload_n 0, 1) := zy_b21mb_5.1
theorem dX8_put_60 : decode cX8_put 60 = .ok (.dup, 1) := zy_b21mb_5.2.1
theorem dX8_put_61 : decode cX8_put 61 = .ok (.getfield 141, 3) := zy_b21mb_5.2.2.1
theorem dX8_put_64 : decode cX8_put 64 = .ok (.iconst 4, 1) := zy_b21mb_5.2.2.2.1
theorem dX8_put_65 : decode cX8_put 65 = .ok (.iadd, 1) := zy_b21mb_5.2.2.2.2.1
theorem dX8_put_66 : decode cX8_put 66 = .ok (.putfield 141, 3) := zy_b21mb_5.2.2.2.2.2.1
theorem dX8_put_69 : decode cX8_put 69 = .ok (.return_, 1) := zy_b21mb_5.2.2.2.2.2.2
theorem zy_b21mb_6 : decode cX8_feed 0 = .ok (.aload_n 0, 1) ∧ decode cX8_feed 1 = .ok (.getfield 141, 3) ∧ decode cX8_feed 4 = .ok (.bipush 20, 2) ∧ decode cX8_feed 6 = .ok (.iadd, 1) ∧ decode cX8_feed 7 = .ok (.sipush 200, 3) ∧ decode cX8_feed 10 = .ok (.if_icmp .le 5, 3) ∧ decode cX8_feed 13 = .ok (.iconst (-1), 1) ∧ decode cX8_feed 14 = .ok (.ireturn, 1) := by decide +kernel
theorem dX8_feed_0 : decode cX8_feed 0 = .ok (.aload_n 0, 1) := zy_b21mb_6.1
theorem dX8_feed_1 : decode cX8_feed 1 = .ok (.getfield 141, 3) := zy_b21mb_6.2.1
theorem dX8_feed_4 : decode cX8_feed 4 = .ok (.bipush 20, 2) := zy_b21mb_6.2.2.1
theorem dX8_feed_6 : decode cX8_feed 6 = .ok (.iadd, 1) := zy_b21mb_6.2.2.2.1
theorem dX8_feed_7 : decode cX8_feed 7 = .ok (.sipush 200, 3) := zy_b21mb_6.2.2.2.2.1
theorem dX8_feed_10 : decode cX8_feed 10 = .ok (.if_icmp .le 5, 3) := zy_b21mb_6.2.2.2.2.2.1
theorem dX8_feed_13 : decode cX8_feed 13 = .ok (.iconst (-1), 1) := zy_b21mb_6.2.2.2.2.2.2.1
theorem dX8_feed_14 : decode cX8_feed 14 = .ok (.ireturn, 1) := zy_b21mb_6.2.2.2.2.2.2.2
theorem zy_b21mb_7 : decode cX8_feed 15 = .ok (.aload_n 0, 1) ∧ decode cX8_feed 16 = .ok (.iload_n 1, 1) ∧ decode cX8_feed 17 = .ok (.invokevirtual 144, 3) ∧ decode cX8_feed 20 = .ok (.aload_n 0, 1) ∧ decode cX8_feed 21 = .ok (.iload_n 2, 1) ∧ decode cX8_feed 22 = .ok (.invokevirtual 144, 3) ∧ decode cX8_feed 25 = .ok (.aload_n 0, 1) ∧ decode cX8_feed 26 = .ok (.iload_n 3, 1) := by decide +kernel
theorem dX8_feed_15 : decode cX8_feed 15 = .ok (.aload_n 0, 1) := zy_b21mb_7.1
theorem dX8_feed_16 : decode cX8_feed 16 = .ok (.iload_n 1, 1) := zy_b21mb_7.2.1
theorem dX8_feed_17 : decode cX8_feed 17 = .ok (.invokevirtual 144, 3) := zy_b21mb_7.2.2.1
theorem dX8_feed_20 : decode cX8_feed 20 = .ok (.aload_n 0, 1) := zy_b21mb_7.2.2.2.1
theorem dX8_feed_21 : decode cX8_feed 21 = .ok (.iload_n 2, 1) := zy_b21mb_7.2.2.2.2.1
theorem dX8_feed_22 : decode cX8_feed 22 = .ok (.invokevirtual 144, 3) := zy_b21mb_7.2.2.2.2.2.1
theorem dX8_feed_25 : decode cX8_feed 25 = .ok (.aload_n 0, 1) := zy_b21mb_7.2.2.2.2.2.2.1
theorem dX8_feed_26 : decode cX8_feed 26 = .ok (.iload_n 3, 1) := zy_b21mb_7.2.2.2.2.2.2.2
theorem zy_b21mb_8 : decode cX8_feed 27 = .ok (.invokevirtual 144, 3) ∧ decode cX8_feed 30 = .ok (.aload_n 0, 1) ∧ decode cX8_feed 31 = .ok (.iload 4, 2) ∧ decode cX8_feed 33 = .ok (.invokevirtual 144, 3) ∧ decode cX8_feed 36 = .ok (.aload_n 0, 1) ∧ decode cX8_feed 37 = .ok (.iload 5, 2) ∧ decode cX8_feed 39 = .ok (.invokevirtual 144, 3) ∧ decode cX8_feed 42 = .ok (.aload_n 0, 1) := by decide +kernel
theorem dX8_feed_27 : decode cX8_feed 27 = .ok (.invokevirtual 144, 3) := zy_b21mb_8.1
theorem dX8_feed_30 : decode cX8_feed 30 = .ok (.aload_n 0, 1) := zy_b21mb_8.2.1
theorem dX8_feed_31 : decode cX8_feed 31 = .ok (.iload 4, 2) := zy_b21mb_8.2.2.1
theorem dX8_feed_33 : decode cX8_feed 33 = .ok (.invokevirtual 144, 3) := zy_b21mb_8.2.2.2.1
theorem dX8_feed_36 : decode cX8_feed 36 = .ok (.aload_n 0, 1) := zy_b21mb_8.2.2.2.2.1
theorem dX8_feed_37 : decode cX8_feed 37 = .ok (.iload 5, 2) := zy_b21mb_8.2.2.2.2.2.1
theorem dX8_feed_39 : decode cX8_feed 39 = .ok (.invokevirtual 144, 3) := zy_b21mb_8.2.2.2.2.2.2.1
theorem dX8_feed_42 : decode cX8_feed 42 = .ok (.aload_n 0, 1) := zy_b21mb_8.2.2.2.2.2.2.2
theorem dX8_feed_43 : decode cX8_feed 43 = .ok (.getfield 141, 3) := by decide +kernel
theorem dX8_feed_46 : decode cX8_feed 46 = .ok (.ireturn, 1) := by decide +kernel
theorem zy_b21mb_9 : decode cX8_end 0 = .ok (.iload_n 1, 1) ∧ decode cX8_end 1 = .ok (.i2l, 1) ∧ decode cX8_end 2 = .ok (.lconst 0, 1) ∧ decode cX8_end 3 = .ok (.aload_n 0, 1) ∧ decode cX8_end 4 = .ok (.getfield 141, 3) ∧ decode cX8_end 7 = .ok (.i2l, 1) ∧ decode cX8_end 8 = .ok (.invokestatic 118, 3) ∧ decode cX8_end 11 = .ok (.ifCond .ne 5, 3) := by decide +kernel
theorem dX8_end_0 : decode cX8_end 0 = .ok (.iload_n 1, 1) := zy_b21mb_9.1
theorem dX8_end_1 : decode cX8_end 1 = .ok (.i2l, 1) := zy_b21mb_9.2.1
theorem dX8_end_2 : decode cX8_end 2 = .ok (.lconst 0, 1) := zy_b21mb_9.2.2.1
theorem dX8_end_3 : decode cX8_end 3 = .ok (.aload_n 0, 1) := zy_b21mb_9.2.2.2.1
theorem dX8_end_4 : decode cX8_end 4 = .ok (.getfield 141, 3) := zy_b21mb_9.2.2.2.2.1
theorem dX8_end_7 : decode cX8_end 7 = .ok (.i2l, 1) := zy_b21mb_9.2.2.2.2.2.1
theorem dX8_end_8 : decode cX8_end 8 = .ok (.invokestatic 118, 3) := zy_b21mb_9.2.2.2.2.2.2.1
theorem dX8_end_11 : decode cX8_end 11 = .ok (.ifCond .ne 5, 3) := zy_b21mb_9.2.2.2.2.2.2.2
theorem zy_b21mb_10 : decode cX8_end 14 = .ok (.iconst (-1), 1) ∧ decode cX8_end 15 = .ok (.ireturn, 1) ∧ decode cX8_end 16 = .ok (.aload_n 0, 1) ∧ decode cX8_end 17 = .ok (.iload_n 1, 1) ∧ decode cX8_end 18 = .ok (.putfield 141, 3) ∧ decode cX8_end 21 = .ok (.iload_n 1, 1) ∧ decode cX8_end 22 = .ok (.ireturn, 1) := by decide +kernel
theorem dX8_end_14 : decode cX8_end 14 = .ok (.iconst (-1), 1) := zy_b21mb_10.1
theorem dX8_end_15 : decode cX8_end 15 = .ok (.ireturn, 1) := zy_b21mb_10.2.1
theorem dX8_end_16 : decode cX8_end 16 = .ok (.aload_n 0, 1) := zy_b21mb_10.2.2.1
theorem dX8_end_17 : decode cX8_end 17 = .ok (.iload_n 1, 1) := zy_b21mb_10.2.2.2.1
theorem dX8_end_18 : decode cX8_end 18 = .ok (.putfield 141, 3) := zy_b21mb_10.2.2.2.2.1
theorem dX8_end_21 : decode cX8_end 21 = .ok (.iload_n 1, 1) := zy_b21mb_10.2.2.2.2.2.1
theorem dX8_end_22 : decode cX8_end 22 = .ok (.ireturn, 1) := zy_b21mb_10.2.2.2.2.2.2
theorem zy_b21mb_11 : decode cX8_ill 0 = .ok (.aload_n 0, 1) ∧ decode cX8_ill 1 = .ok (.iload_n 1, 1) ∧ decode cX8_ill 2 = .ok (.invokevirtual 127, 3) ∧ decode cX8_ill 5 = .ok (.ifCond .eq 15, 3) ∧ decode cX8_ill 8 = .ok (.iload_n 2, 1) ∧ decode cX8_ill 9 = .ok (.i2l, 1) ∧ decode cX8_ill 10 = .ok (.lconst 0, 1) ∧ decode cX8_ill 11 = .ok (.ldc2_w 135, 3) := by decide +kernel
theorem dX8_ill_0 : decode cX8_ill 0 = .ok (.aload_n 0, 1) := zy_b21mb_11.1
theorem dX8_ill_1 : decode cX8_ill 1 = .ok (.iload_n 1, 1) := zy_b21mb_11.2.1
theorem dX8_ill_2 : decode cX8_ill 2 = .ok (.invokevirtual 127, 3) := zy_b21mb_11.2.2.1
theorem dX8_ill_5 : decode cX8_ill 5 = .ok (.ifCond .eq 15, 3) := zy_b21mb_11.2.2.2.1
theorem dX8_ill_8 : decode cX8_ill 8 = .ok (.iload_n 2, 1) := zy_b21mb_11.2.2.2.2.1
theorem dX8_ill_9 : decode cX8_ill 9 = .ok (.i2l, 1) := zy_b21mb_11.2.2.2.2.2.1
theorem dX8_ill_10 : decode cX8_ill 10 = .ok (.lconst 0, 1) := zy_b21mb_11.2.2.2.2.2.2.1
theorem dX8_ill_11 : decode cX8_ill 11 = .ok (.ldc2_w 135, 3) := zy_b21mb_11.2.2.2.2.2.2.2
theorem zy_b21mb_12 : decode cX8_ill 14 = .ok (.invokestatic 118, 3) ∧ decode cX8_ill 17 = .ok (.ifCond .ne 5, 3) ∧ decode cX8_ill 20 = .ok (.iconst 0, 1) ∧ decode cX8_ill 21 = .ok (.ireturn, 1) ∧ decode cX8_ill 22 = .ok (.aload_n 0, 1) ∧ decode cX8_ill 23 = .ok (.getfield 37, 3) ∧ decode cX8_ill 26 = .ok (.iload_n 1, 1) ∧ decode cX8_ill 27 = .ok (.iload_n 2, 1) := by decide +kernel
theorem dX8_ill_14 : decode cX8_ill 14 = .ok (.invokestatic 118, 3) := zy_b21mb_12.1
theorem dX8_ill_17 : decode cX8_ill 17 = .ok (.ifCond .ne 5, 3) := zy_b21mb_12.2.1
theorem dX8_ill_20 : decode cX8_ill 20 = .ok (.iconst 0, 1) := zy_b21mb_12.2.2.1
theorem dX8_ill_21 : decode cX8_ill 21 = .ok (.ireturn, 1) := zy_b21mb_12.2.2.2.1
theorem dX8_ill_22 : decode cX8_ill 22 = .ok (.aload_n 0, 1) := zy_b21mb_12.2.2.2.2.1
theorem dX8_ill_23 : decode cX8_ill 23 = .ok (.getfield 37, 3) := zy_b21mb_12.2.2.2.2.2.1
theorem dX8_ill_26 : decode cX8_ill 26 = .ok (.iload_n 1, 1) := zy_b21mb_12.2.2.2.2.2.2.1
theorem dX8_ill_27 : decode cX8_ill 27 = .ok (.iload_n 2, 1) := zy_b21mb_12.2.2.2.2.2.2.2
theorem zy_b21mb_13 : decode cX8_ill 28 = .ok (.iastore, 1) ∧ decode cX8_ill 29 = .ok (.iconst 1, 1) ∧ decode cX8_ill 30 = .ok (.ireturn, 1) := by decide +kernel
theorem dX8_ill_28 : decode cX8_ill 28 = .ok (.iastore, 1) := zy_b21mb_13.1
theorem dX8_ill_29 : decode cX8_ill 29 = .ok (.iconst 1, 1) := zy_b21mb_13.2.1
theorem dX8_ill_30 : decode cX8_ill 30 = .ok (.ireturn, 1) := zy_b21mb_13.2.2
theorem zy_b21mb_14 : decode cX8_loss 0 = .ok (.iload_n 1, 1) ∧ decode cX8_loss 1 = .ok (.i2l, 1) ∧ decode cX8_loss 2 = .ok (.lconst 0, 1) ∧ decode cX8_loss 3 = .ok (.ldc2_w 125, 3) ∧ decode cX8_loss 6 = .ok (.invokestatic 118, 3) ∧ decode cX8_loss 9 = .ok (.ifCond .eq 15, 3) ∧ decode cX8_loss 12 = .ok (.iload_n 2, 1) ∧ decode cX8_loss 13 = .ok (.i2l, 1) := by decide +kernel
theorem dX8_loss_0 : decode cX8_loss 0 = .ok (.iload_n 1, 1) := zy_b21mb_14.1
theorem dX8_loss_1 : decode cX8_loss 1 = .ok (.i2l, 1) := zy_b21mb_14.2.1
theorem dX8_loss_2 : decode cX8_loss 2 = .ok (.lconst 0, 1) := zy_b21mb_14.2.2.1
theorem dX8_loss_3 : decode cX8_loss 3 = .ok (.ldc2_w 125, 3) := zy_b21mb_14.2.2.2.1
theorem dX8_loss_6 : decode cX8_loss 6 = .ok (.invokestatic 118, 3) := zy_b21mb_14.2.2.2.2.1
theorem dX8_loss_9 : decode cX8_loss 9 = .ok (.ifCond .eq 15, 3) := zy_b21mb_14.2.2.2.2.2.1
theorem dX8_loss_12 : decode cX8_loss 12 = .ok (.iload_n 2, 1) := zy_b21mb_14.2.2.2.2.2.2.1
theorem dX8_loss_13 : decode cX8_loss 13 = .ok (.i2l, 1) := zy_b21mb_14.2.2.2.2.2.2.2
theorem zy_b21mb_15 : decode cX8_loss 14 = .ok (.lconst 0, 1) ∧ decode cX8_loss 15 = .ok (.ldc2_w 139, 3) ∧ decode cX8_loss 18 = .ok (.invokestatic 118, 3) ∧ decode cX8_loss 21 = .ok (.ifCond .ne 5, 3) ∧ decode cX8_loss 24 = .ok (.iconst 0, 1) ∧ decode cX8_loss 25 = .ok (.ireturn, 1) ∧ decode cX8_loss 26 = .ok (.aload_n 0, 1) ∧ decode cX8_loss 27 = .ok (.getfield 55, 3) := by decide +kernel
theorem dX8_loss_14 : decode cX8_loss 14 = .ok (.lconst 0, 1) := zy_b21mb_15.1
theorem dX8_loss_15 : decode cX8_loss 15 = .ok (.ldc2_w 139, 3) := zy_b21mb_15.2.1
theorem dX8_loss_18 : decode cX8_loss 18 = .ok (.invokestatic 118, 3) := zy_b21mb_15.2.2.1
theorem dX8_loss_21 : decode cX8_loss 21 = .ok (.ifCond .ne 5, 3) := zy_b21mb_15.2.2.2.1
theorem dX8_loss_24 : decode cX8_loss 24 = .ok (.iconst 0, 1) := zy_b21mb_15.2.2.2.2.1
theorem dX8_loss_25 : decode cX8_loss 25 = .ok (.ireturn, 1) := zy_b21mb_15.2.2.2.2.2.1
theorem dX8_loss_26 : decode cX8_loss 26 = .ok (.aload_n 0, 1) := zy_b21mb_15.2.2.2.2.2.2.1
theorem dX8_loss_27 : decode cX8_loss 27 = .ok (.getfield 55, 3) := zy_b21mb_15.2.2.2.2.2.2.2
theorem zy_b21mb_16 : decode cX8_loss 30 = .ok (.iload_n 1, 1) ∧ decode cX8_loss 31 = .ok (.iload_n 2, 1) ∧ decode cX8_loss 32 = .ok (.iastore, 1) ∧ decode cX8_loss 33 = .ok (.iconst 1, 1) ∧ decode cX8_loss 34 = .ok (.ireturn, 1) := by decide +kernel
theorem dX8_loss_30 : decode cX8_loss 30 = .ok (.iload_n 1, 1) := zy_b21mb_16.1
theorem dX8_loss_31 : decode cX8_loss 31 = .ok (.iload_n 2, 1) := zy_b21mb_16.2.1
theorem dX8_loss_32 : decode cX8_loss 32 = .ok (.iastore, 1) := zy_b21mb_16.2.2.1
theorem dX8_loss_33 : decode cX8_loss 33 = .ok (.iconst 1, 1) := zy_b21mb_16.2.2.2.1
theorem dX8_loss_34 : decode cX8_loss 34 = .ok (.ireturn, 1) := zy_b21mb_16.2.2.2.2
theorem zy_b21mb_17 : decode cX8_free 0 = .ok (.aload_n 0, 1) ∧ decode cX8_free 1 = .ok (.getfield 37, 3) ∧ decode cX8_free 4 = .ok (.iload_n 1, 1) ∧ decode cX8_free 5 = .ok (.iaload, 1) ∧ decode cX8_free 6 = .ok (.ifCond .le 7, 3) ∧ decode cX8_free 9 = .ok (.iconst 0, 1) ∧ decode cX8_free 10 = .ok (.goto 16, 3) ∧ decode cX8_free 13 = .ok (.aload_n 0, 1) := by decide +kernel
theorem dX8_free_0 : decode cX8_free 0 = .ok (.aload_n 0, 1) := zy_b21mb_17.1
theorem dX8_free_1 : decode cX8_free 1 = .ok (.getfield 37, 3) := zy_b21mb_17.2.1
theorem dX8_free_4 : decode cX8_free 4 = .ok (.iload_n 1, 1) := zy_b21mb_17.2.2.1
theorem dX8_free_5 : decode cX8_free 5 = .ok (.iaload, 1) := zy_b21mb_17.2.2.2.1
theorem dX8_free_6 : decode cX8_free 6 = .ok (.ifCond .le 7, 3) := zy_b21mb_17.2.2.2.2.1
theorem dX8_free_9 : decode cX8_free 9 = .ok (.iconst 0, 1) := zy_b21mb_17.2.2.2.2.2.1
theorem dX8_free_10 : decode cX8_free 10 = .ok (.goto 16, 3) := zy_b21mb_17.2.2.2.2.2.2.1
theorem dX8_free_13 : decode cX8_free 13 = .ok (.aload_n 0, 1) := zy_b21mb_17.2.2.2.2.2.2.2
theorem zy_b21mb_18 : decode cX8_free 14 = .ok (.getfield 31, 3) ∧ decode cX8_free 17 = .ok (.iload_n 1, 1) ∧ decode cX8_free 18 = .ok (.iaload, 1) ∧ decode cX8_free 19 = .ok (.aload_n 0, 1) ∧ decode cX8_free 20 = .ok (.getfield 40, 3) ∧ decode cX8_free 23 = .ok (.iload_n 1, 1) ∧ decode cX8_free 24 = .ok (.iaload, 1) ∧ decode cX8_free 25 = .ok (.isub, 1) := by decide +kernel
theorem dX8_free_14 : decode cX8_free 14 = .ok (.getfield 31, 3) := zy_b21mb_18.1
theorem dX8_free_17 : decode cX8_free 17 = .ok (.iload_n 1, 1) := zy_b21mb_18.2.1
theorem dX8_free_18 : decode cX8_free 18 = .ok (.iaload, 1) := zy_b21mb_18.2.2.1
theorem dX8_free_19 : decode cX8_free 19 = .ok (.aload_n 0, 1) := zy_b21mb_18.2.2.2.1
theorem dX8_free_20 : decode cX8_free 20 = .ok (.getfield 40, 3) := zy_b21mb_18.2.2.2.2.1
theorem dX8_free_23 : decode cX8_free 23 = .ok (.iload_n 1, 1) := zy_b21mb_18.2.2.2.2.2.1
theorem dX8_free_24 : decode cX8_free 24 = .ok (.iaload, 1) := zy_b21mb_18.2.2.2.2.2.2.1
theorem dX8_free_25 : decode cX8_free 25 = .ok (.isub, 1) := zy_b21mb_18.2.2.2.2.2.2.2
theorem dX8_free_26 : decode cX8_free 26 = .ok (.ireturn, 1) := by decide +kernel
theorem zy_b21mb_19 : decode cX8_debtOf 0 = .ok (.iconst (-1), 1) ∧ decode cX8_debtOf 1 = .ok (.istore 4, 2) ∧ decode cX8_debtOf 3 = .ok (.iconst 0, 1) ∧ decode cX8_debtOf 4 = .ok (.istore 5, 2) ∧ decode cX8_debtOf 6 = .ok (.iload 5, 2) ∧ decode cX8_debtOf 8 = .ok (.aload_n 0, 1) ∧ decode cX8_debtOf 9 = .ok (.getfield 230, 3) ∧ decode cX8_debtOf 12 = .ok (.if_icmp .ge 51, 3) := by decide +kernel
theorem dX8_debtOf_0 : decode cX8_debtOf 0 = .ok (.iconst (-1), 1) := zy_b21mb_19.1
theorem dX8_debtOf_1 : decode cX8_debtOf 1 = .ok (.istore 4, 2) := zy_b21mb_19.2.1
theorem dX8_debtOf_3 : decode cX8_debtOf 3 = .ok (.iconst 0, 1) := zy_b21mb_19.2.2.1
theorem dX8_debtOf_4 : decode cX8_debtOf 4 = .ok (.istore 5, 2) := zy_b21mb_19.2.2.2.1
theorem dX8_debtOf_6 : decode cX8_debtOf 6 = .ok (.iload 5, 2) := zy_b21mb_19.2.2.2.2.1
theorem dX8_debtOf_8 : decode cX8_debtOf 8 = .ok (.aload_n 0, 1) := zy_b21mb_19.2.2.2.2.2.1
theorem dX8_debtOf_9 : decode cX8_debtOf 9 = .ok (.getfield 230, 3) := zy_b21mb_19.2.2.2.2.2.2.1
theorem dX8_debtOf_12 : decode cX8_debtOf 12 = .ok (.if_icmp .ge 51, 3) := zy_b21mb_19.2.2.2.2.2.2.2
theorem zy_b21mb_20 : decode cX8_debtOf 15 = .ok (.aload_n 0, 1) ∧ decode cX8_debtOf 16 = .ok (.getfield 79, 3) ∧ decode cX8_debtOf 19 = .ok (.iload 5, 2) ∧ decode cX8_debtOf 21 = .ok (.iaload, 1) ∧ decode cX8_debtOf 22 = .ok (.iload_n 1, 1) ∧ decode cX8_debtOf 23 = .ok (.if_icmp .ne 30, 3) ∧ decode cX8_debtOf 26 = .ok (.aload_n 0, 1) ∧ decode cX8_debtOf 27 = .ok (.getfield 82, 3) := by decide +kernel
theorem dX8_debtOf_15 : decode cX8_debtOf 15 = .ok (.aload_n 0, 1) := zy_b21mb_20.1
theorem dX8_debtOf_16 : decode cX8_debtOf 16 = .ok (.getfield 79, 3) := zy_b21mb_20.2.1
theorem dX8_debtOf_19 : decode cX8_debtOf 19 = .ok (.iload 5, 2) := zy_b21mb_20.2.2.1
theorem dX8_debtOf_21 : decode cX8_debtOf 21 = .ok (.iaload, 1) := zy_b21mb_20.2.2.2.1
theorem dX8_debtOf_22 : decode cX8_debtOf 22 = .ok (.iload_n 1, 1) := zy_b21mb_20.2.2.2.2.1
theorem dX8_debtOf_23 : decode cX8_debtOf 23 = .ok (.if_icmp .ne 30, 3) := zy_b21mb_20.2.2.2.2.2.1
theorem dX8_debtOf_26 : decode cX8_debtOf 26 = .ok (.aload_n 0, 1) := zy_b21mb_20.2.2.2.2.2.2.1
theorem dX8_debtOf_27 : decode cX8_debtOf 27 = .ok (.getfield 82, 3) := zy_b21mb_20.2.2.2.2.2.2.2
theorem zy_b21mb_21 : decode cX8_debtOf 30 = .ok (.iload 5, 2) ∧ decode cX8_debtOf 32 = .ok (.iaload, 1) ∧ decode cX8_debtOf 33 = .ok (.iload_n 2, 1) ∧ decode cX8_debtOf 34 = .ok (.if_icmp .ne 19, 3) ∧ decode cX8_debtOf 37 = .ok (.aload_n 0, 1) ∧ decode cX8_debtOf 38 = .ok (.getfield 85, 3) ∧ decode cX8_debtOf 41 = .ok (.iload 5, 2) ∧ decode cX8_debtOf 43 = .ok (.iaload, 1) := by decide +kernel
theorem dX8_debtOf_30 : decode cX8_debtOf 30 = .ok (.iload 5, 2) := zy_b21mb_21.1
theorem dX8_debtOf_32 : decode cX8_debtOf 32 = .ok (.iaload, 1) := zy_b21mb_21.2.1
theorem dX8_debtOf_33 : decode cX8_debtOf 33 = .ok (.iload_n 2, 1) := zy_b21mb_21.2.2.1
theorem dX8_debtOf_34 : decode cX8_debtOf 34 = .ok (.if_icmp .ne 19, 3) := zy_b21mb_21.2.2.2.1
theorem dX8_debtOf_37 : decode cX8_debtOf 37 = .ok (.aload_n 0, 1) := zy_b21mb_21.2.2.2.2.1
theorem dX8_debtOf_38 : decode cX8_debtOf 38 = .ok (.getfield 85, 3) := zy_b21mb_21.2.2.2.2.2.1
theorem dX8_debtOf_41 : decode cX8_debtOf 41 = .ok (.iload 5, 2) := zy_b21mb_21.2.2.2.2.2.2.1
theorem dX8_debtOf_43 : decode cX8_debtOf 43 = .ok (.iaload, 1) := zy_b21mb_21.2.2.2.2.2.2.2
theorem zy_b21mb_22 : decode cX8_debtOf 44 = .ok (.iload_n 3, 1) ∧ decode cX8_debtOf 45 = .ok (.if_icmp .ne 8, 3) ∧ decode cX8_debtOf 48 = .ok (.iload 5, 2) ∧ decode cX8_debtOf 50 = .ok (.goto 5, 3) ∧ decode cX8_debtOf 53 = .ok (.iload 4, 2) ∧ decode cX8_debtOf 55 = .ok (.istore 4, 2) ∧ decode cX8_debtOf 57 = .ok (.iinc 5 1, 3) ∧ decode cX8_debtOf 60 = .ok (.goto (-54), 3) := by decide +kernel
theorem dX8_debtOf_44 : decode cX8_debtOf 44 = .ok (.iload_n 3, 1) := zy_b21mb_22.1
theorem dX8_debtOf_45 : decode cX8_debtOf 45 = .ok (.if_icmp .ne 8, 3) := zy_b21mb_22.2.1
theorem dX8_debtOf_48 : decode cX8_debtOf 48 = .ok (.iload 5, 2) := zy_b21mb_22.2.2.1
theorem dX8_debtOf_50 : decode cX8_debtOf 50 = .ok (.goto 5, 3) := zy_b21mb_22.2.2.2.1
theorem dX8_debtOf_53 : decode cX8_debtOf 53 = .ok (.iload 4, 2) := zy_b21mb_22.2.2.2.2.1
theorem dX8_debtOf_55 : decode cX8_debtOf 55 = .ok (.istore 4, 2) := zy_b21mb_22.2.2.2.2.2.1
theorem dX8_debtOf_57 : decode cX8_debtOf 57 = .ok (.iinc 5 1, 3) := zy_b21mb_22.2.2.2.2.2.2.1
theorem dX8_debtOf_60 : decode cX8_debtOf 60 = .ok (.goto (-54), 3) := zy_b21mb_22.2.2.2.2.2.2.2
theorem dX8_debtOf_63 : decode cX8_debtOf 63 = .ok (.iload 4, 2) := by decide +kernel
theorem dX8_debtOf_65 : decode cX8_debtOf 65 = .ok (.ireturn, 1) := by decide +kernel
theorem zy_b21mb_23 : decode cX8_owed 0 = .ok (.iconst 0, 1) ∧ decode cX8_owed 1 = .ok (.istore_n 3, 1) ∧ decode cX8_owed 2 = .ok (.iconst 0, 1) ∧ decode cX8_owed 3 = .ok (.istore 4, 2) ∧ decode cX8_owed 5 = .ok (.iload 4, 2) ∧ decode cX8_owed 7 = .ok (.aload_n 0, 1) ∧ decode cX8_owed 8 = .ok (.getfield 230, 3) ∧ decode cX8_owed 11 = .ok (.if_icmp .ge 45, 3) := by decide +kernel
theorem dX8_owed_0 : decode cX8_owed 0 = .ok (.iconst 0, 1) := zy_b21mb_23.1
theorem dX8_owed_1 : decode cX8_owed 1 = .ok (.istore_n 3, 1) := zy_b21mb_23.2.1
theorem dX8_owed_2 : decode cX8_owed 2 = .ok (.iconst 0, 1) := zy_b21mb_23.2.2.1
theorem dX8_owed_3 : decode cX8_owed 3 = .ok (.istore 4, 2) := zy_b21mb_23.2.2.2.1
theorem dX8_owed_5 : decode cX8_owed 5 = .ok (.iload 4, 2) := zy_b21mb_23.2.2.2.2.1
theorem dX8_owed_7 : decode cX8_owed 7 = .ok (.aload_n 0, 1) := zy_b21mb_23.2.2.2.2.2.1
theorem dX8_owed_8 : decode cX8_owed 8 = .ok (.getfield 230, 3) := zy_b21mb_23.2.2.2.2.2.2.1
theorem dX8_owed_11 : decode cX8_owed 11 = .ok (.if_icmp .ge 45, 3) := zy_b21mb_23.2.2.2.2.2.2.2
theorem zy_b21mb_24 : decode cX8_owed 14 = .ok (.iload_n 3, 1) ∧ decode cX8_owed 15 = .ok (.aload_n 0, 1) ∧ decode cX8_owed 16 = .ok (.getfield 79, 3) ∧ decode cX8_owed 19 = .ok (.iload 4, 2) ∧ decode cX8_owed 21 = .ok (.iaload, 1) ∧ decode cX8_owed 22 = .ok (.iload_n 1, 1) ∧ decode cX8_owed 23 = .ok (.if_icmp .ne 24, 3) ∧ decode cX8_owed 26 = .ok (.aload_n 0, 1) := by decide +kernel
theorem dX8_owed_14 : decode cX8_owed 14 = .ok (.iload_n 3, 1) := zy_b21mb_24.1
theorem dX8_owed_15 : decode cX8_owed 15 = .ok (.aload_n 0, 1) := zy_b21mb_24.2.1
theorem dX8_owed_16 : decode cX8_owed 16 = .ok (.getfield 79, 3) := zy_b21mb_24.2.2.1
theorem dX8_owed_19 : decode cX8_owed 19 = .ok (.iload 4, 2) := zy_b21mb_24.2.2.2.1
theorem dX8_owed_21 : decode cX8_owed 21 = .ok (.iaload, 1) := zy_b21mb_24.2.2.2.2.1
theorem dX8_owed_22 : decode cX8_owed 22 = .ok (.iload_n 1, 1) := zy_b21mb_24.2.2.2.2.2.1
theorem dX8_owed_23 : decode cX8_owed 23 = .ok (.if_icmp .ne 24, 3) := zy_b21mb_24.2.2.2.2.2.2.1
theorem dX8_owed_26 : decode cX8_owed 26 = .ok (.aload_n 0, 1) := zy_b21mb_24.2.2.2.2.2.2.2
theorem zy_b21mb_25 : decode cX8_owed 27 = .ok (.getfield 82, 3) ∧ decode cX8_owed 30 = .ok (.iload 4, 2) ∧ decode cX8_owed 32 = .ok (.iaload, 1) ∧ decode cX8_owed 33 = .ok (.iload_n 2, 1) ∧ decode cX8_owed 34 = .ok (.if_icmp .ne 13, 3) ∧ decode cX8_owed 37 = .ok (.aload_n 0, 1) ∧ decode cX8_owed 38 = .ok (.getfield 88, 3) ∧ decode cX8_owed 41 = .ok (.iload 4, 2) := by decide +kernel
theorem dX8_owed_27 : decode cX8_owed 27 = .ok (.getfield 82, 3) := zy_b21mb_25.1
theorem dX8_owed_30 : decode cX8_owed 30 = .ok (.iload 4, 2) := zy_b21mb_25.2.1
theorem dX8_owed_32 : decode cX8_owed 32 = .ok (.iaload, 1) := zy_b21mb_25.2.2.1
theorem dX8_owed_33 : decode cX8_owed 33 = .ok (.iload_n 2, 1) := zy_b21mb_25.2.2.2.1
theorem dX8_owed_34 : decode cX8_owed 34 = .ok (.if_icmp .ne 13, 3) := zy_b21mb_25.2.2.2.2.1
theorem dX8_owed_37 : decode cX8_owed 37 = .ok (.aload_n 0, 1) := zy_b21mb_25.2.2.2.2.2.1
theorem dX8_owed_38 : decode cX8_owed 38 = .ok (.getfield 88, 3) := zy_b21mb_25.2.2.2.2.2.2.1
theorem dX8_owed_41 : decode cX8_owed 41 = .ok (.iload 4, 2) := zy_b21mb_25.2.2.2.2.2.2.2
theorem zy_b21mb_26 : decode cX8_owed 43 = .ok (.iaload, 1) ∧ decode cX8_owed 44 = .ok (.goto 4, 3) ∧ decode cX8_owed 47 = .ok (.iconst 0, 1) ∧ decode cX8_owed 48 = .ok (.iadd, 1) ∧ decode cX8_owed 49 = .ok (.istore_n 3, 1) ∧ decode cX8_owed 50 = .ok (.iinc 4 1, 3) ∧ decode cX8_owed 53 = .ok (.goto (-48), 3) ∧ decode cX8_owed 56 = .ok (.iload_n 3, 1) := by decide +kernel
theorem dX8_owed_43 : decode cX8_owed 43 = .ok (.iaload, 1) := zy_b21mb_26.1
theorem dX8_owed_44 : decode cX8_owed 44 = .ok (.goto 4, 3) := zy_b21mb_26.2.1
theorem dX8_owed_47 : decode cX8_owed 47 = .ok (.iconst 0, 1) := zy_b21mb_26.2.2.1
theorem dX8_owed_48 : decode cX8_owed 48 = .ok (.iadd, 1) := zy_b21mb_26.2.2.2.1
theorem dX8_owed_49 : decode cX8_owed 49 = .ok (.istore_n 3, 1) := zy_b21mb_26.2.2.2.2.1
theorem dX8_owed_50 : decode cX8_owed 50 = .ok (.iinc 4 1, 3) := zy_b21mb_26.2.2.2.2.2.1
theorem dX8_owed_53 : decode cX8_owed 53 = .ok (.goto (-48), 3) := zy_b21mb_26.2.2.2.2.2.2.1
theorem dX8_owed_56 : decode cX8_owed 56 = .ok (.iload_n 3, 1) := zy_b21mb_26.2.2.2.2.2.2.2
theorem dX8_owed_57 : decode cX8_owed 57 = .ok (.ireturn, 1) := by decide +kernel
theorem zy_b21mb_27 : decode cX8_drops 0 = .ok (.iconst 0, 1) ∧ decode cX8_drops 1 = .ok (.istore_n 1, 1) ∧ decode cX8_drops 2 = .ok (.iconst 0, 1) ∧ decode cX8_drops 3 = .ok (.istore_n 2, 1) ∧ decode cX8_drops 4 = .ok (.iload_n 2, 1) ∧ decode cX8_drops 5 = .ok (.aload_n 0, 1) ∧ decode cX8_drops 6 = .ok (.getfield 230, 3) ∧ decode cX8_drops 9 = .ok (.if_icmp .ge 69, 3) := by decide +kernel
theorem dX8_drops_0 : decode cX8_drops 0 = .ok (.iconst 0, 1) := zy_b21mb_27.1
theorem dX8_drops_1 : decode cX8_drops 1 = .ok (.istore_n 1, 1) := zy_b21mb_27.2.1
theorem dX8_drops_2 : decode cX8_drops 2 = .ok (.iconst 0, 1) := zy_b21mb_27.2.2.1
theorem dX8_drops_3 : decode cX8_drops 3 = .ok (.istore_n 2, 1) := zy_b21mb_27.2.2.2.1
theorem dX8_drops_4 : decode cX8_drops 4 = .ok (.iload_n 2, 1) := zy_b21mb_27.2.2.2.2.1
theorem dX8_drops_5 : decode cX8_drops 5 = .ok (.aload_n 0, 1) := zy_b21mb_27.2.2.2.2.2.1
theorem dX8_drops_6 : decode cX8_drops 6 = .ok (.getfield 230, 3) := zy_b21mb_27.2.2.2.2.2.2.1
theorem dX8_drops_9 : decode cX8_drops 9 = .ok (.if_icmp .ge 69, 3) := zy_b21mb_27.2.2.2.2.2.2.2
theorem zy_b21mb_28 : decode cX8_drops 12 = .ok (.aload_n 0, 1) ∧ decode cX8_drops 13 = .ok (.getfield 88, 3) ∧ decode cX8_drops 16 = .ok (.iload_n 2, 1) ∧ decode cX8_drops 17 = .ok (.iaload, 1) ∧ decode cX8_drops 18 = .ok (.ifCond .le 54, 3) ∧ decode cX8_drops 21 = .ok (.aload_n 0, 1) ∧ decode cX8_drops 22 = .ok (.getfield 79, 3) ∧ decode cX8_drops 25 = .ok (.iload_n 1, 1) := by decide +kernel
theorem dX8_drops_12 : decode cX8_drops 12 = .ok (.aload_n 0, 1) := zy_b21mb_28.1
theorem dX8_drops_13 : decode cX8_drops 13 = .ok (.getfield 88, 3) := zy_b21mb_28.2.1
theorem dX8_drops_16 : decode cX8_drops 16 = .ok (.iload_n 2, 1) := zy_b21mb_28.2.2.1
theorem dX8_drops_17 : decode cX8_drops 17 = .ok (.iaload, 1) := zy_b21mb_28.2.2.2.1
theorem dX8_drops_18 : decode cX8_drops 18 = .ok (.ifCond .le 54, 3) := zy_b21mb_28.2.2.2.2.1
theorem dX8_drops_21 : decode cX8_drops 21 = .ok (.aload_n 0, 1) := zy_b21mb_28.2.2.2.2.2.1
theorem dX8_drops_22 : decode cX8_drops 22 = .ok (.getfield 79, 3) := zy_b21mb_28.2.2.2.2.2.2.1
theorem dX8_drops_25 : decode cX8_drops 25 = .ok (.iload_n 1, 1) := zy_b21mb_28.2.2.2.2.2.2.2
theorem zy_b21mb_29 : decode cX8_drops 26 = .ok (.aload_n 0, 1) ∧ decode cX8_drops 27 = .ok (.getfield 79, 3) ∧ decode cX8_drops 30 = .ok (.iload_n 2, 1) ∧ decode cX8_drops 31 = .ok (.iaload, 1) ∧ decode cX8_drops 32 = .ok (.iastore, 1) ∧ decode cX8_drops 33 = .ok (.aload_n 0, 1) ∧ decode cX8_drops 34 = .ok (.getfield 82, 3) ∧ decode cX8_drops 37 = .ok (.iload_n 1, 1) := by decide +kernel
theorem dX8_drops_26 : decode cX8_drops 26 = .ok (.aload_n 0, 1) := zy_b21mb_29.1
theorem dX8_drops_27 : decode cX8_drops 27 = .ok (.getfield 79, 3) := zy_b21mb_29.2.1
theorem dX8_drops_30 : decode cX8_drops 30 = .ok (.iload_n 2, 1) := zy_b21mb_29.2.2.1
theorem dX8_drops_31 : decode cX8_drops 31 = .ok (.iaload, 1) := zy_b21mb_29.2.2.2.1
theorem dX8_drops_32 : decode cX8_drops 32 = .ok (.iastore, 1) := zy_b21mb_29.2.2.2.2.1
theorem dX8_drops_33 : decode cX8_drops 33 = .ok (.aload_n 0, 1) := zy_b21mb_29.2.2.2.2.2.1
theorem dX8_drops_34 : decode cX8_drops 34 = .ok (.getfield 82, 3) := zy_b21mb_29.2.2.2.2.2.2.1
theorem dX8_drops_37 : decode cX8_drops 37 = .ok (.iload_n 1, 1) := zy_b21mb_29.2.2.2.2.2.2.2
theorem zy_b21mb_30 : decode cX8_drops 38 = .ok (.aload_n 0, 1) ∧ decode cX8_drops 39 = .ok (.getfield 82, 3) ∧ decode cX8_drops 42 = .ok (.iload_n 2, 1) ∧ decode cX8_drops 43 = .ok (.iaload, 1) ∧ decode cX8_drops 44 = .ok (.iastore, 1) ∧ decode cX8_drops 45 = .ok (.aload_n 0, 1) ∧ decode cX8_drops 46 = .ok (.getfield 85, 3) ∧ decode cX8_drops 49 = .ok (.iload_n 1, 1) := by decide +kernel
theorem dX8_drops_38 : decode cX8_drops 38 = .ok (.aload_n 0, 1) := zy_b21mb_30.1
theorem dX8_drops_39 : decode cX8_drops 39 = .ok (.getfield 82, 3) := zy_b21mb_30.2.1
theorem dX8_drops_42 : decode cX8_drops 42 = .ok (.iload_n 2, 1) := zy_b21mb_30.2.2.1
theorem dX8_drops_43 : decode cX8_drops 43 = .ok (.iaload, 1) := zy_b21mb_30.2.2.2.1
theorem dX8_drops_44 : decode cX8_drops 44 = .ok (.iastore, 1) := zy_b21mb_30.2.2.2.2.1
theorem dX8_drops_45 : decode cX8_drops 45 = .ok (.aload_n 0, 1) := zy_b21mb_30.2.2.2.2.2.1
theorem dX8_drops_46 : decode cX8_drops 46 = .ok (.getfield 85, 3) := zy_b21mb_30.2.2.2.2.2.2.1
theorem dX8_drops_49 : decode cX8_drops 49 = .ok (.iload_n 1, 1) := zy_b21mb_30.2.2.2.2.2.2.2
theorem zy_b21mb_31 : decode cX8_drops 50 = .ok (.aload_n 0, 1) ∧ decode cX8_drops 51 = .ok (.getfield 85, 3) ∧ decode cX8_drops 54 = .ok (.iload_n 2, 1) ∧ decode cX8_drops 55 = .ok (.iaload, 1) ∧ decode cX8_drops 56 = .ok (.iastore, 1) ∧ decode cX8_drops 57 = .ok (.aload_n 0, 1) ∧ decode cX8_drops 58 = .ok (.getfield 88, 3) ∧ decode cX8_drops 61 = .ok (.iload_n 1, 1) := by decide +kernel
theorem dX8_drops_50 : decode cX8_drops 50 = .ok (.aload_n 0, 1) := zy_b21mb_31.1
theorem dX8_drops_51 : decode cX8_drops 51 = .ok (.getfield 85, 3) := zy_b21mb_31.2.1
theorem dX8_drops_54 : decode cX8_drops 54 = .ok (.iload_n 2, 1) := zy_b21mb_31.2.2.1
theorem dX8_drops_55 : decode cX8_drops 55 = .ok (.iaload, 1) := zy_b21mb_31.2.2.2.1
theorem dX8_drops_56 : decode cX8_drops 56 = .ok (.iastore, 1) := zy_b21mb_31.2.2.2.2.1
theorem dX8_drops_57 : decode cX8_drops 57 = .ok (.aload_n 0, 1) := zy_b21mb_31.2.2.2.2.2.1
theorem dX8_drops_58 : decode cX8_drops 58 = .ok (.getfield 88, 3) := zy_b21mb_31.2.2.2.2.2.2.1
theorem dX8_drops_61 : decode cX8_drops 61 = .ok (.iload_n 1, 1) := zy_b21mb_31.2.2.2.2.2.2.2
theorem zy_b21mb_32 : decode cX8_drops 62 = .ok (.aload_n 0, 1) ∧ decode cX8_drops 63 = .ok (.getfield 88, 3) ∧ decode cX8_drops 66 = .ok (.iload_n 2, 1) ∧ decode cX8_drops 67 = .ok (.iaload, 1) ∧ decode cX8_drops 68 = .ok (.iastore, 1) ∧ decode cX8_drops 69 = .ok (.iinc 1 1, 3) ∧ decode cX8_drops 72 = .ok (.iinc 2 1, 3) ∧ decode cX8_drops 75 = .ok (.goto (-71), 3) := by decide +kernel
theorem dX8_drops_62 : decode cX8_drops 62 = .ok (.aload_n 0, 1) := zy_b21mb_32.1
theorem dX8_drops_63 : decode cX8_drops 63 = .ok (.getfield 88, 3) := zy_b21mb_32.2.1
theorem dX8_drops_66 : decode cX8_drops 66 = .ok (.iload_n 2, 1) := zy_b21mb_32.2.2.1
theorem dX8_drops_67 : decode cX8_drops 67 = .ok (.iaload, 1) := zy_b21mb_32.2.2.2.1
theorem dX8_drops_68 : decode cX8_drops 68 = .ok (.iastore, 1) := zy_b21mb_32.2.2.2.2.1
theorem dX8_drops_69 : decode cX8_drops 69 = .ok (.iinc 1 1, 3) := zy_b21mb_32.2.2.2.2.2.1
theorem dX8_drops_72 : decode cX8_drops 72 = .ok (.iinc 2 1, 3) := zy_b21mb_32.2.2.2.2.2.2.1
theorem dX8_drops_75 : decode cX8_drops 75 = .ok (.goto (-71), 3) := zy_b21mb_32.2.2.2.2.2.2.2
theorem zy_b21mb_33 : decode cX8_drops 78 = .ok (.aload_n 0, 1) ∧ decode cX8_drops 79 = .ok (.iload_n 1, 1) ∧ decode cX8_drops 80 = .ok (.putfield 230, 3) ∧ decode cX8_drops 83 = .ok (.return_, 1) := by decide +kernel
theorem dX8_drops_78 : decode cX8_drops 78 = .ok (.aload_n 0, 1) := zy_b21mb_33.1
theorem dX8_drops_79 : decode cX8_drops 79 = .ok (.iload_n 1, 1) := zy_b21mb_33.2.1
theorem dX8_drops_80 : decode cX8_drops 80 = .ok (.putfield 230, 3) := zy_b21mb_33.2.2.1
theorem dX8_drops_83 : decode cX8_drops 83 = .ok (.return_, 1) := zy_b21mb_33.2.2.2
theorem zy_b21mb_34 : decode cX8_owes 0 = .ok (.aload_n 0, 1) ∧ decode cX8_owes 1 = .ok (.iload_n 1, 1) ∧ decode cX8_owes 2 = .ok (.invokevirtual 127, 3) ∧ decode cX8_owes 5 = .ok (.ifCond .eq 16, 3) ∧ decode cX8_owes 8 = .ok (.aload_n 0, 1) ∧ decode cX8_owes 9 = .ok (.iload_n 2, 1) ∧ decode cX8_owes 10 = .ok (.invokevirtual 127, 3) ∧ decode cX8_owes 13 = .ok (.ifCond .eq 8, 3) := by decide +kernel
theorem dX8_owes_0 : decode cX8_owes 0 = .ok (.aload_n 0, 1) := zy_b21mb_34.1
theorem dX8_owes_1 : decode cX8_owes 1 = .ok (.iload_n 1, 1) := zy_b21mb_34.2.1
theorem dX8_owes_2 : decode cX8_owes 2 = .ok (.invokevirtual 127, 3) := zy_b21mb_34.2.2.1
theorem dX8_owes_5 : decode cX8_owes 5 = .ok (.ifCond .eq 16, 3) := zy_b21mb_34.2.2.2.1
theorem dX8_owes_8 : decode cX8_owes 8 = .ok (.aload_n 0, 1) := zy_b21mb_34.2.2.2.2.1
theorem dX8_owes_9 : decode cX8_owes 9 = .ok (.iload_n 2, 1) := zy_b21mb_34.2.2.2.2.2.1
theorem dX8_owes_10 : decode cX8_owes 10 = .ok (.invokevirtual 127, 3) := zy_b21mb_34.2.2.2.2.2.2.1
theorem dX8_owes_13 : decode cX8_owes 13 = .ok (.ifCond .eq 8, 3) := zy_b21mb_34.2.2.2.2.2.2.2
theorem zy_b21mb_35 : decode cX8_owes 16 = .ok (.iload_n 1, 1) ∧ decode cX8_owes 17 = .ok (.iload_n 2, 1) ∧ decode cX8_owes 18 = .ok (.if_icmp .ne 7, 3) ∧ decode cX8_owes 21 = .ok (.iconst (-1), 1) ∧ decode cX8_owes 22 = .ok (.goto 9, 3) ∧ decode cX8_owes 25 = .ok (.aload_n 0, 1) ∧ decode cX8_owes 26 = .ok (.iload_n 1, 1) ∧ decode cX8_owes 27 = .ok (.iload_n 2, 1) := by decide +kernel
theorem dX8_owes_16 : decode cX8_owes 16 = .ok (.iload_n 1, 1) := zy_b21mb_35.1
theorem dX8_owes_17 : decode cX8_owes 17 = .ok (.iload_n 2, 1) := zy_b21mb_35.2.1
theorem dX8_owes_18 : decode cX8_owes 18 = .ok (.if_icmp .ne 7, 3) := zy_b21mb_35.2.2.1
theorem dX8_owes_21 : decode cX8_owes 21 = .ok (.iconst (-1), 1) := zy_b21mb_35.2.2.2.1
theorem dX8_owes_22 : decode cX8_owes 22 = .ok (.goto 9, 3) := zy_b21mb_35.2.2.2.2.1
theorem dX8_owes_25 : decode cX8_owes 25 = .ok (.aload_n 0, 1) := zy_b21mb_35.2.2.2.2.2.1
theorem dX8_owes_26 : decode cX8_owes 26 = .ok (.iload_n 1, 1) := zy_b21mb_35.2.2.2.2.2.2.1
theorem dX8_owes_27 : decode cX8_owes 27 = .ok (.iload_n 2, 1) := zy_b21mb_35.2.2.2.2.2.2.2
theorem dX8_owes_28 : decode cX8_owes 28 = .ok (.invokevirtual 267, 3) := by decide +kernel
theorem dX8_owes_31 : decode cX8_owes 31 = .ok (.ireturn, 1) := by decide +kernel
theorem zy_b21mb_36 : decode cX8_oldest 0 = .ok (.aload_n 0, 1) ∧ decode cX8_oldest 1 = .ok (.iload_n 1, 1) ∧ decode cX8_oldest 2 = .ok (.invokevirtual 127, 3) ∧ decode cX8_oldest 5 = .ok (.ifCond .eq 11, 3) ∧ decode cX8_oldest 8 = .ok (.aload_n 0, 1) ∧ decode cX8_oldest 9 = .ok (.iload_n 2, 1) ∧ decode cX8_oldest 10 = .ok (.invokevirtual 127, 3) ∧ decode cX8_oldest 13 = .ok (.ifCond .ne 5, 3) := by decide +kernel
theorem dX8_oldest_0 : decode cX8_oldest 0 = .ok (.aload_n 0, 1) := zy_b21mb_36.1
theorem dX8_oldest_1 : decode cX8_oldest 1 = .ok (.iload_n 1, 1) := zy_b21mb_36.2.1
theorem dX8_oldest_2 : decode cX8_oldest 2 = .ok (.invokevirtual 127, 3) := zy_b21mb_36.2.2.1
theorem dX8_oldest_5 : decode cX8_oldest 5 = .ok (.ifCond .eq 11, 3) := zy_b21mb_36.2.2.2.1
theorem dX8_oldest_8 : decode cX8_oldest 8 = .ok (.aload_n 0, 1) := zy_b21mb_36.2.2.2.2.1
theorem dX8_oldest_9 : decode cX8_oldest 9 = .ok (.iload_n 2, 1) := zy_b21mb_36.2.2.2.2.2.1
theorem dX8_oldest_10 : decode cX8_oldest 10 = .ok (.invokevirtual 127, 3) := zy_b21mb_36.2.2.2.2.2.2.1
theorem dX8_oldest_13 : decode cX8_oldest 13 = .ok (.ifCond .ne 5, 3) := zy_b21mb_36.2.2.2.2.2.2.2
theorem zy_b21mb_37 : decode cX8_oldest 16 = .ok (.iconst (-1), 1) ∧ decode cX8_oldest 17 = .ok (.ireturn, 1) ∧ decode cX8_oldest 18 = .ok (.iconst 0, 1) ∧ decode cX8_oldest 19 = .ok (.istore_n 3, 1) ∧ decode cX8_oldest 20 = .ok (.iload_n 3, 1) ∧ decode cX8_oldest 21 = .ok (.aload_n 0, 1) ∧ decode cX8_oldest 22 = .ok (.getfield 230, 3) ∧ decode cX8_oldest 25 = .ok (.if_icmp .ge 36, 3) := by decide +kernel
theorem dX8_oldest_16 : decode cX8_oldest 16 = .ok (.iconst (-1), 1) := zy_b21mb_37.1
theorem dX8_oldest_17 : decode cX8_oldest 17 = .ok (.ireturn, 1) := zy_b21mb_37.2.1
theorem dX8_oldest_18 : decode cX8_oldest 18 = .ok (.iconst 0, 1) := zy_b21mb_37.2.2.1
theorem dX8_oldest_19 : decode cX8_oldest 19 = .ok (.istore_n 3, 1) := zy_b21mb_37.2.2.2.1
theorem dX8_oldest_20 : decode cX8_oldest 20 = .ok (.iload_n 3, 1) := zy_b21mb_37.2.2.2.2.1
theorem dX8_oldest_21 : decode cX8_oldest 21 = .ok (.aload_n 0, 1) := zy_b21mb_37.2.2.2.2.2.1
theorem dX8_oldest_22 : decode cX8_oldest 22 = .ok (.getfield 230, 3) := zy_b21mb_37.2.2.2.2.2.2.1
theorem dX8_oldest_25 : decode cX8_oldest 25 = .ok (.if_icmp .ge 36, 3) := zy_b21mb_37.2.2.2.2.2.2.2
theorem zy_b21mb_38 : decode cX8_oldest 28 = .ok (.aload_n 0, 1) ∧ decode cX8_oldest 29 = .ok (.getfield 79, 3) ∧ decode cX8_oldest 32 = .ok (.iload_n 3, 1) ∧ decode cX8_oldest 33 = .ok (.iaload, 1) ∧ decode cX8_oldest 34 = .ok (.iload_n 1, 1) ∧ decode cX8_oldest 35 = .ok (.if_icmp .ne 20, 3) ∧ decode cX8_oldest 38 = .ok (.aload_n 0, 1) ∧ decode cX8_oldest 39 = .ok (.getfield 82, 3) := by decide +kernel
theorem dX8_oldest_28 : decode cX8_oldest 28 = .ok (.aload_n 0, 1) := zy_b21mb_38.1
theorem dX8_oldest_29 : decode cX8_oldest 29 = .ok (.getfield 79, 3) := zy_b21mb_38.2.1
theorem dX8_oldest_32 : decode cX8_oldest 32 = .ok (.iload_n 3, 1) := zy_b21mb_38.2.2.1
theorem dX8_oldest_33 : decode cX8_oldest 33 = .ok (.iaload, 1) := zy_b21mb_38.2.2.2.1
theorem dX8_oldest_34 : decode cX8_oldest 34 = .ok (.iload_n 1, 1) := zy_b21mb_38.2.2.2.2.1
theorem dX8_oldest_35 : decode cX8_oldest 35 = .ok (.if_icmp .ne 20, 3) := zy_b21mb_38.2.2.2.2.2.1
theorem dX8_oldest_38 : decode cX8_oldest 38 = .ok (.aload_n 0, 1) := zy_b21mb_38.2.2.2.2.2.2.1
theorem dX8_oldest_39 : decode cX8_oldest 39 = .ok (.getfield 82, 3) := zy_b21mb_38.2.2.2.2.2.2.2
theorem zy_b21mb_39 : decode cX8_oldest 42 = .ok (.iload_n 3, 1) ∧ decode cX8_oldest 43 = .ok (.iaload, 1) ∧ decode cX8_oldest 44 = .ok (.iload_n 2, 1) ∧ decode cX8_oldest 45 = .ok (.if_icmp .ne 10, 3) ∧ decode cX8_oldest 48 = .ok (.aload_n 0, 1) ∧ decode cX8_oldest 49 = .ok (.getfield 85, 3) ∧ decode cX8_oldest 52 = .ok (.iload_n 3, 1) ∧ decode cX8_oldest 53 = .ok (.iaload, 1) := by decide +kernel
theorem dX8_oldest_42 : decode cX8_oldest 42 = .ok (.iload_n 3, 1) := zy_b21mb_39.1
theorem dX8_oldest_43 : decode cX8_oldest 43 = .ok (.iaload, 1) := zy_b21mb_39.2.1
theorem dX8_oldest_44 : decode cX8_oldest 44 = .ok (.iload_n 2, 1) := zy_b21mb_39.2.2.1
theorem dX8_oldest_45 : decode cX8_oldest 45 = .ok (.if_icmp .ne 10, 3) := zy_b21mb_39.2.2.2.1
theorem dX8_oldest_48 : decode cX8_oldest 48 = .ok (.aload_n 0, 1) := zy_b21mb_39.2.2.2.2.1
theorem dX8_oldest_49 : decode cX8_oldest 49 = .ok (.getfield 85, 3) := zy_b21mb_39.2.2.2.2.2.1
theorem dX8_oldest_52 : decode cX8_oldest 52 = .ok (.iload_n 3, 1) := zy_b21mb_39.2.2.2.2.2.2.1
theorem dX8_oldest_53 : decode cX8_oldest 53 = .ok (.iaload, 1) := zy_b21mb_39.2.2.2.2.2.2.2
theorem zy_b21mb_40 : decode cX8_oldest 54 = .ok (.ireturn, 1) ∧ decode cX8_oldest 55 = .ok (.iinc 3 1, 3) ∧ decode cX8_oldest 58 = .ok (.goto (-38), 3) ∧ decode cX8_oldest 61 = .ok (.iconst (-1), 1) ∧ decode cX8_oldest 62 = .ok (.ireturn, 1) := by decide +kernel
theorem dX8_oldest_54 : decode cX8_oldest 54 = .ok (.ireturn, 1) := zy_b21mb_40.1
theorem dX8_oldest_55 : decode cX8_oldest 55 = .ok (.iinc 3 1, 3) := zy_b21mb_40.2.1
theorem dX8_oldest_58 : decode cX8_oldest 58 = .ok (.goto (-38), 3) := zy_b21mb_40.2.2.1
theorem dX8_oldest_61 : decode cX8_oldest 61 = .ok (.iconst (-1), 1) := zy_b21mb_40.2.2.2.1
theorem dX8_oldest_62 : decode cX8_oldest 62 = .ok (.ireturn, 1) := zy_b21mb_40.2.2.2.2
theorem zy_b21mb_41 : decode cX8_fault 0 = .ok (.iload_n 1, 1) ∧ decode cX8_fault 1 = .ok (.ifCond .ne 10, 3) ∧ decode cX8_fault 4 = .ok (.aload_n 0, 1) ∧ decode cX8_fault 5 = .ok (.getfield 13, 3) ∧ decode cX8_fault 8 = .ok (.goto 16, 3) ∧ decode cX8_fault 11 = .ok (.iload_n 1, 1) ∧ decode cX8_fault 12 = .ok (.iconst 1, 1) ∧ decode cX8_fault 13 = .ok (.if_icmp .ne 10, 3) := by decide +kernel
theorem dX8_fault_0 : decode cX8_fault 0 = .ok (.iload_n 1, 1) := zy_b21mb_41.1
theorem dX8_fault_1 : decode cX8_fault 1 = .ok (.ifCond .ne 10, 3) := zy_b21mb_41.2.1
theorem dX8_fault_4 : decode cX8_fault 4 = .ok (.aload_n 0, 1) := zy_b21mb_41.2.2.1
theorem dX8_fault_5 : decode cX8_fault 5 = .ok (.getfield 13, 3) := zy_b21mb_41.2.2.2.1
theorem dX8_fault_8 : decode cX8_fault 8 = .ok (.goto 16, 3) := zy_b21mb_41.2.2.2.2.1
theorem dX8_fault_11 : decode cX8_fault 11 = .ok (.iload_n 1, 1) := zy_b21mb_41.2.2.2.2.2.1
theorem dX8_fault_12 : decode cX8_fault 12 = .ok (.iconst 1, 1) := zy_b21mb_41.2.2.2.2.2.2.1
theorem dX8_fault_13 : decode cX8_fault 13 = .ok (.if_icmp .ne 10, 3) := zy_b21mb_41.2.2.2.2.2.2.2
theorem zy_b21mb_42 : decode cX8_fault 16 = .ok (.aload_n 0, 1) ∧ decode cX8_fault 17 = .ok (.getfield 17, 3) ∧ decode cX8_fault 20 = .ok (.goto 4, 3) ∧ decode cX8_fault 23 = .ok (.iconst (-1), 1) ∧ decode cX8_fault 24 = .ok (.ireturn, 1) := by decide +kernel
theorem dX8_fault_16 : decode cX8_fault 16 = .ok (.aload_n 0, 1) := zy_b21mb_42.1
theorem dX8_fault_17 : decode cX8_fault 17 = .ok (.getfield 17, 3) := zy_b21mb_42.2.1
theorem dX8_fault_20 : decode cX8_fault 20 = .ok (.goto 4, 3) := zy_b21mb_42.2.2.1
theorem dX8_fault_23 : decode cX8_fault 23 = .ok (.iconst (-1), 1) := zy_b21mb_42.2.2.2.1
theorem dX8_fault_24 : decode cX8_fault 24 = .ok (.ireturn, 1) := zy_b21mb_42.2.2.2.2
theorem zy_b21mb_43 : decode cX8_says 0 = .ok (.iload_n 1, 1) ∧ decode cX8_says 1 = .ok (.i2l, 1) ∧ decode cX8_says 2 = .ok (.lconst 0, 1) ∧ decode cX8_says 3 = .ok (.ldc2_w 218, 3) ∧ decode cX8_says 6 = .ok (.invokestatic 118, 3) ∧ decode cX8_says 9 = .ok (.ifCond .eq 12, 3) ∧ decode cX8_says 12 = .ok (.aload_n 0, 1) ∧ decode cX8_says 13 = .ok (.getfield 28, 3) := by decide +kernel
theorem dX8_says_0 : decode cX8_says 0 = .ok (.iload_n 1, 1) := zy_b21mb_43.1
theorem dX8_says_1 : decode cX8_says 1 = .ok (.i2l, 1) := zy_b21mb_43.2.1
theorem dX8_says_2 : decode cX8_says 2 = .ok (.lconst 0, 1) := zy_b21mb_43.2.2.1
theorem dX8_says_3 : decode cX8_says 3 = .ok (.ldc2_w 218, 3) := zy_b21mb_43.2.2.2.1
theorem dX8_says_6 : decode cX8_says 6 = .ok (.invokestatic 118, 3) := zy_b21mb_43.2.2.2.2.1
theorem dX8_says_9 : decode cX8_says 9 = .ok (.ifCond .eq 12, 3) := zy_b21mb_43.2.2.2.2.2.1
theorem dX8_says_12 : decode cX8_says 12 = .ok (.aload_n 0, 1) := zy_b21mb_43.2.2.2.2.2.2.1
theorem dX8_says_13 : decode cX8_says 13 = .ok (.getfield 28, 3) := zy_b21mb_43.2.2.2.2.2.2.2
theorem zy_b21mb_44 : decode cX8_says 16 = .ok (.iload_n 1, 1) ∧ decode cX8_says 17 = .ok (.iaload, 1) ∧ decode cX8_says 18 = .ok (.goto 4, 3) ∧ decode cX8_says 21 = .ok (.iconst (-1), 1) ∧ decode cX8_says 22 = .ok (.ireturn, 1) := by decide +kernel
theorem dX8_says_16 : decode cX8_says 16 = .ok (.iload_n 1, 1) := zy_b21mb_44.1
theorem dX8_says_17 : decode cX8_says 17 = .ok (.iaload, 1) := zy_b21mb_44.2.1
theorem dX8_says_18 : decode cX8_says 18 = .ok (.goto 4, 3) := zy_b21mb_44.2.2.1
theorem dX8_says_21 : decode cX8_says 21 = .ok (.iconst (-1), 1) := zy_b21mb_44.2.2.2.1
theorem dX8_says_22 : decode cX8_says 22 = .ok (.ireturn, 1) := zy_b21mb_44.2.2.2.2
theorem zy_b21mb_45 : decode cX8_about 0 = .ok (.iload_n 1, 1) ∧ decode cX8_about 1 = .ok (.tableswitch 69 0 5 #[39, 44, 49, 54, 59, 64], 39) ∧ decode cX8_about 40 = .ok (.aload_n 0, 1) ∧ decode cX8_about 41 = .ok (.getfield 115, 3) ∧ decode cX8_about 44 = .ok (.ireturn, 1) ∧ decode cX8_about 45 = .ok (.aload_n 0, 1) ∧ decode cX8_about 46 = .ok (.getfield 122, 3) ∧ decode cX8_about 49 = .ok (.ireturn, 1) := by decide +kernel
theorem dX8_about_0 : decode cX8_about 0 = .ok (.iload_n 1, 1) := zy_b21mb_45.1
theorem dX8_about_1 : decode cX8_about 1 = .ok (.tableswitch 69 0 5 #[39, 44, 49, 54, 59, 64], 39) := zy_b21mb_45.2.1
theorem dX8_about_40 : decode cX8_about 40 = .ok (.aload_n 0, 1) := zy_b21mb_45.2.2.1
theorem dX8_about_41 : decode cX8_about 41 = .ok (.getfield 115, 3) := zy_b21mb_45.2.2.2.1
theorem dX8_about_44 : decode cX8_about 44 = .ok (.ireturn, 1) := zy_b21mb_45.2.2.2.2.1
theorem dX8_about_45 : decode cX8_about 45 = .ok (.aload_n 0, 1) := zy_b21mb_45.2.2.2.2.2.1
theorem dX8_about_46 : decode cX8_about 46 = .ok (.getfield 122, 3) := zy_b21mb_45.2.2.2.2.2.2.1
theorem dX8_about_49 : decode cX8_about 49 = .ok (.ireturn, 1) := zy_b21mb_45.2.2.2.2.2.2.2
theorem zy_b21mb_46 : decode cX8_about 50 = .ok (.aload_n 0, 1) ∧ decode cX8_about 51 = .ok (.getfield 223, 3) ∧ decode cX8_about 54 = .ok (.ireturn, 1) ∧ decode cX8_about 55 = .ok (.aload_n 0, 1) ∧ decode cX8_about 56 = .ok (.getfield 230, 3) ∧ decode cX8_about 59 = .ok (.ireturn, 1) ∧ decode cX8_about 60 = .ok (.aload_n 0, 1) ∧ decode cX8_about 61 = .ok (.getfield 254, 3) := by decide +kernel
theorem dX8_about_50 : decode cX8_about 50 = .ok (.aload_n 0, 1) := zy_b21mb_46.1
theorem dX8_about_51 : decode cX8_about 51 = .ok (.getfield 223, 3) := zy_b21mb_46.2.1
theorem dX8_about_54 : decode cX8_about 54 = .ok (.ireturn, 1) := zy_b21mb_46.2.2.1
theorem dX8_about_55 : decode cX8_about 55 = .ok (.aload_n 0, 1) := zy_b21mb_46.2.2.2.1
theorem dX8_about_56 : decode cX8_about 56 = .ok (.getfield 230, 3) := zy_b21mb_46.2.2.2.2.1
theorem dX8_about_59 : decode cX8_about 59 = .ok (.ireturn, 1) := zy_b21mb_46.2.2.2.2.2.1
theorem dX8_about_60 : decode cX8_about 60 = .ok (.aload_n 0, 1) := zy_b21mb_46.2.2.2.2.2.2.1
theorem dX8_about_61 : decode cX8_about 61 = .ok (.getfield 254, 3) := zy_b21mb_46.2.2.2.2.2.2.2
theorem zy_b21mb_47 : decode cX8_about 64 = .ok (.ireturn, 1) ∧ decode cX8_about 65 = .ok (.aload_n 0, 1) ∧ decode cX8_about 66 = .ok (.getfield 141, 3) ∧ decode cX8_about 69 = .ok (.ireturn, 1) ∧ decode cX8_about 70 = .ok (.iload_n 1, 1) ∧ decode cX8_about 71 = .ok (.i2l, 1) ∧ decode cX8_about 72 = .ok (.ldc2_w 311, 3) ∧ decode cX8_about 75 = .ok (.ldc2_w 313, 3) := by decide +kernel
theorem dX8_about_64 : decode cX8_about 64 = .ok (.ireturn, 1) := zy_b21mb_47.1
theorem dX8_about_65 : decode cX8_about 65 = .ok (.aload_n 0, 1) := zy_b21mb_47.2.1
theorem dX8_about_66 : decode cX8_about 66 = .ok (.getfield 141, 3) := zy_b21mb_47.2.2.1
theorem dX8_about_69 : decode cX8_about 69 = .ok (.ireturn, 1) := zy_b21mb_47.2.2.2.1
theorem dX8_about_70 : decode cX8_about 70 = .ok (.iload_n 1, 1) := zy_b21mb_47.2.2.2.2.1
theorem dX8_about_71 : decode cX8_about 71 = .ok (.i2l, 1) := zy_b21mb_47.2.2.2.2.2.1
theorem dX8_about_72 : decode cX8_about 72 = .ok (.ldc2_w 311, 3) := zy_b21mb_47.2.2.2.2.2.2.1
theorem dX8_about_75 : decode cX8_about 75 = .ok (.ldc2_w 313, 3) := zy_b21mb_47.2.2.2.2.2.2.2
theorem zy_b21mb_48 : decode cX8_about 78 = .ok (.invokestatic 118, 3) ∧ decode cX8_about 81 = .ok (.ifCond .eq 15, 3) ∧ decode cX8_about 84 = .ok (.aload_n 0, 1) ∧ decode cX8_about 85 = .ok (.getfield 55, 3) ∧ decode cX8_about 88 = .ok (.iload_n 1, 1) ∧ decode cX8_about 89 = .ok (.bipush 20, 2) ∧ decode cX8_about 91 = .ok (.isub, 1) ∧ decode cX8_about 92 = .ok (.iaload, 1) := by decide +kernel
theorem dX8_about_78 : decode cX8_about 78 = .ok (.invokestatic 118, 3) := zy_b21mb_48.1
theorem dX8_about_81 : decode cX8_about 81 = .ok (.ifCond .eq 15, 3) := zy_b21mb_48.2.1
theorem dX8_about_84 : decode cX8_about 84 = .ok (.aload_n 0, 1) := zy_b21mb_48.2.2.1
theorem dX8_about_85 : decode cX8_about 85 = .ok (.getfield 55, 3) := zy_b21mb_48.2.2.2.1
theorem dX8_about_88 : decode cX8_about 88 = .ok (.iload_n 1, 1) := zy_b21mb_48.2.2.2.2.1
theorem dX8_about_89 : decode cX8_about 89 = .ok (.bipush 20, 2) := zy_b21mb_48.2.2.2.2.2.1
theorem dX8_about_91 : decode cX8_about 91 = .ok (.isub, 1) := zy_b21mb_48.2.2.2.2.2.2.1
theorem dX8_about_92 : decode cX8_about 92 = .ok (.iaload, 1) := zy_b21mb_48.2.2.2.2.2.2.2
theorem zy_b21mb_49 : decode cX8_about 93 = .ok (.goto 4, 3) ∧ decode cX8_about 96 = .ok (.iconst (-1), 1) ∧ decode cX8_about 97 = .ok (.ireturn, 1) := by decide +kernel
theorem dX8_about_93 : decode cX8_about 93 = .ok (.goto 4, 3) := zy_b21mb_49.1
theorem dX8_about_96 : decode cX8_about 96 = .ok (.iconst (-1), 1) := zy_b21mb_49.2.1
theorem dX8_about_97 : decode cX8_about 97 = .ok (.ireturn, 1) := zy_b21mb_49.2.2
set_option maxHeartbeats 4000000 in
set_option maxRecDepth 100000 in
theorem m_end (l : Launch) (dC : Nat → ClassId) (dI : Nat → Nat → Nat) (b : Nat → Nat) (gg : Nat → Int32) (mt : Nat) (mc : Nat) (mh : Nat) (mf : Nat) (md : Nat) (p0 : Int32) (sz : Nat) (hmt : mt ≤ 200) : Met l yX8_end (zz_w yX8_end cX8_end 2 (some .int)) ({ frames := 1, cells := 0, slots := 0, locals := 25 }) (va_Pc [.ref (b 0), .int p0] (zz_B (dC, dI) sz [(b 0, .inr (8, [.ref (b 1), .int (nI mt), .int (gg 2), .int (gg 3), .int (gg 4), .int (gg 5), .int (gg 6), .int (gg 7), .int (gg 8), .int (gg 9), .ref (b 11), .ref (b 12), .ref (b 13), .int (nI mc), .int (nI mh), .ref (b 16), .ref (b 17), .ref (b 18), .ref (b 19), .ref (b 20), .ref (b 21), .ref (b 22), .ref (b 23), .ref (b 24), .int (nI mf), .ref (b 26), .ref (b 27), .ref (b 28), .ref (b 29), .ref (b 30), .ref (b 31), .ref (b 32), .int (gg 32), .int (nI md), .ref (b 35), .ref (b 36), .ref (b 37), .ref (b 38), .ref (b 39), .ref (b 40), .int (gg 40), .ref (b 42), .ref (b 43), .ref (b 44), .int (gg 44), .ref (b 46), .ref (b 47), .int (gg 47), .ref (b 49)]))] [])) (va_Qi (fun (r : Int32) (t2 : Nat) => ((0 ≤ p0.toInt ∧ p0.toInt ≤ (mt : Int)) ∧ r = p0 ∧ (t2 : Int) = p0.toInt) ∨ (¬ (0 ≤ p0.toInt ∧ p0.toInt ≤ (mt : Int)) ∧ r = -1 ∧ t2 = mt)) (fun (u0 : Nat) (t : State) => va_P (dC, dI) vwCl [(b 0, .inr (8, [.ref (b 1), .int (nI u0), .int (gg 2), .int (gg 3), .int (gg 4), .int (gg 5), .int (gg 6), .int (gg 7), .int (gg 8), .int (gg 9), .ref (b 11), .ref (b 12), .ref (b 13), .int (nI mc), .int (nI mh), .ref (b 16), .ref (b 17), .ref (b 18), .ref (b 19), .ref (b 20), .ref (b 21), .ref (b 22), .ref (b 23), .ref (b 24), .int (nI mf), .ref (b 26), .ref (b 27), .ref (b 28), .ref (b 29), .ref (b 30), .ref (b 31), .ref (b 32), .int (gg 32), .int (nI md), .ref (b 35), .ref (b 36), .ref (b 37), .ref (b 38), .ref (b 39), .ref (b 40), .int (gg 40), .ref (b 42), .ref (b 43), .ref (b 44), .int (gg 44), .ref (b 46), .ref (b 47), .int (gg 47), .ref (b 49)]))] t.heap ∧ va_K (dC, dI) vwCl [] t ∧ va_D (va_A [(b 0, .inr (8, [.ref (b 1), .int (nI mt), .int (gg 2), .int (gg 3), .int (gg 4), .int (gg 5), .int (gg 6), .int (gg 7), .int (gg 8), .int (gg 9), .ref (b 11), .ref (b 12), .ref (b 13), .int (nI mc), .int (nI mh), .ref (b 16), .ref (b 17), .ref (b 18), .ref (b 19), .ref (b 20), .ref (b 21), .ref (b 22), .ref (b 23), .ref (b 24), .int (nI mf), .ref (b 26), .ref (b 27), .ref (b 28), .ref (b 29), .ref (b 30), .ref (b 31), .ref (b 32), .int (gg 32), .int (nI md), .ref (b 35), .ref (b 36), .ref (b 37), .ref (b 38), .ref (b 39), .ref (b 40), .int (gg 40), .ref (b 42), .ref (b 43), .ref (b 44), .int (gg 44), .ref (b 46), .ref (b 47), .int (gg 47), .ref (b 49)]))] sz) [(b 0, .inr (8, [.ref (b 1), .int (nI u0), .int (gg 2), .int (gg 3), .int (gg 4), .int (gg 5), .int (gg 6), .int (gg 7), .int (gg 8), .int (gg 9), .ref (b 11), .ref (b 12), .ref (b 13), .int (nI mc), .int (nI mh), .ref (b 16), .ref (b 17), .ref (b 18), .ref (b 19), .ref (b 20), .ref (b 21), .ref (b 22), .ref (b 23), .ref (b 24), .int (nI mf), .ref (b 26), .ref (b 27), .ref (b 28), .ref (b 29), .ref (b 30), .ref (b 31), .ref (b 32), .int (gg 32), .int (nI md), .ref (b 35), .ref (b 36), .ref (b 37), .ref (b 38), .ref (b 39), .ref (b 40), .int (gg 40), .ref (b 42), .ref (b 43), .ref (b 44), .int (gg 44), .ref (b 46), .ref (b 47), .int (gg 47), .ref (b 49)]))]) (va_A [(b 0, .inr (8, [.ref (b 1), .int (nI mt), .int (gg 2), .int (gg 3), .int (gg 4), .int (gg 5), .int (gg 6), .int (gg 7), .int (gg 8), .int (gg 9), .ref (b 11), .ref (b 12), .ref (b 13), .int (nI mc), .int (nI mh), .ref (b 16), .ref (b 17), .ref (b 18), .ref (b 19), .ref (b 20), .ref (b 21), .ref (b 22), .ref (b 23), .ref (b 24), .int (nI mf), .ref (b 26), .ref (b 27), .ref (b 28), .ref (b 29), .ref (b 30), .ref (b 31), .ref (b 32), .int (gg 32), .int (nI md), .ref (b 35), .ref (b 36), .ref (b 37), .ref (b 38), .ref (b 39), .ref (b 40), .int (gg 40), .ref (b 42), .ref (b 43), .ref (b 44), .int (gg 44), .ref (b 46), .ref (b 47), .int (gg 47), .ref (b 49)]))] sz)) 0 0 (va_A [(b 0, .inr (8, [.ref (b 1), .int (nI mt), .int (gg 2), .int (gg 3), .int (gg 4), .int (gg 5), .int (gg 6), .int (gg 7), .int (gg 8), .int (gg 9), .ref (b 11), .ref (b 12), .ref (b 13), .int (nI mc), .int (nI mh), .ref (b 16), .ref (b 17), .ref (b 18), .ref (b 19), .ref (b 20), .ref (b 21), .ref (b 22), .ref (b 23), .ref (b 24), .int (nI mf), .ref (b 26), .ref (b 27), .ref (b 28), .ref (b 29), .ref (b 30), .ref (b 31), .ref (b 32), .int (gg 32), .int (nI md), .ref (b 35), .ref (b 36), .ref (b 37), .ref (b 38), .ref (b 39), .ref (b 40), .int (gg 40), .ref (b 42), .ref (b 43), .ref (b 44), .int (gg 44), .ref (b 46), .ref (b 47), .int (gg 47), .ref (b 49)]))] sz) := by
  refine Met.ofW (cc := cX8_end) (maxL := 2) (ret := (some .int)) (by decide) rfl ?_
  intro p e s m args below meth c s₁ B hml hv
  obtain ⟨rfl, hsz, hP, hK, hD0, hN⟩ := hv
  have hx := B.exec
  have hb := B.bytes
  have hr := B.returns
  have hts := atoms_spec (ws := zz_w yX8_end cX8_end 2 (some .int)) B.pre
  have hw : ∀ w ∈ zz_all, w.before _ s = true := fun w h => hts w (List.mem_cons_of_mem _ h)
  have hown : s.vm.findClass RX8 = some m.cls := findClass_of_methodNamed B.named
  have hlocks := B.notSynchronized
  subst hsz
  have hD := hD0.self (sz := s.heap.size)
  generalize hAe : va_A [(b 0, .inr (8, [.ref (b 1), .int (nI mt), .int (gg 2), .int (gg 3), .int (gg 4), .int (gg 5), .int (gg 6), .int (gg 7), .int (gg 8), .int (gg 9), .ref (b 11), .ref (b 12), .ref (b 13), .int (nI mc), .int (nI mh), .ref (b 16), .ref (b 17), .ref (b 18), .ref (b 19), .ref (b 20), .ref (b 21), .ref (b 22), .ref (b 23), .ref (b 24), .int (nI mf), .ref (b 26), .ref (b 27), .ref (b 28), .ref (b 29), .ref (b 30), .ref (b 31), .ref (b 32), .int (gg 32), .int (nI md), .ref (b 35), .ref (b 36), .ref (b 37), .ref (b 38), .ref (b 39), .ref (b 40), .int (gg 40), .ref (b 42), .ref (b 43), .ref (b 44), .int (gg 44), .ref (b 46), .ref (b 47), .int (gg 47), .ref (b 49)]))] s.heap.size = A at hD ⊢
  have hA : ∀ q : Nat, s.heap.size ≤ q → A q := fun q h => by rw [← hAe]; exact Or.inr h
  have hS : va_S A s.heap s.heap [] := va_S.rf
  have hP : va_P (dC, dI) vwCl [(b 0, .inr (8, [.ref (b 1), .int (nI mt), .int (gg 2), .int (gg 3), .int (gg 4), .int (gg 5), .int (gg 6), .int (gg 7), .int (gg 8), .int (gg 9), .ref (b 11), .ref (b 12), .ref (b 13), .int (nI mc), .int (nI mh), .ref (b 16), .ref (b 17), .ref (b 18), .ref (b 19), .ref (b 20), .ref (b 21), .ref (b 22), .ref (b 23), .ref (b 24), .int (nI mf), .ref (b 26), .ref (b 27), .ref (b 28), .ref (b 29), .ref (b 30), .ref (b 31), .ref (b 32), .int (gg 32), .int (nI md), .ref (b 35), .ref (b 36), .ref (b 37), .ref (b 38), .ref (b 39), .ref (b 40), .int (gg 40), .ref (b 42), .ref (b 43), .ref (b 44), .int (gg 44), .ref (b 46), .ref (b 47), .int (gg 47), .ref (b 49)]))] s.heap := hP
  have hl := lv_entry ([.ref (b 0), .int p0]) (n := 2) (Nat.le_of_ble_eq_true rfl)
  rw [lg_entry_eq]
  generalize (lg_sl ([.ref (b 0), .int p0]) ++ List.replicate (2 - (lg_sl ([.ref (b 0), .int p0])).length) Slot.unset).toArray = ls at hl ⊢
  have hl : lv_has ls 2 [(0, .ref (b 0)), (1, .int p0)] := hl
  refine lv_iload_n hx hb dX8_end_0 rfl (lv_at hl 1 rfl) ?_
  refine lv_i2l (v := Int32.toInt64 p0) hx hb dX8_end_1 rfl ?_
  refine lv_lconst (v := Int32.toInt64 0) hx hb dX8_end_2 (by decide) ?_
  refine lv_aload_n hx hb dX8_end_3 rfl (lv_at hl 0 rfl) ?_
  refine va_get (D := (dC, dI)) (ci := 8) (v := .int (nI mt)) (C := RX8) (T := TX8) (N := 49) hx hb hw zz_inX8 hown hK hP 0 rfl rfl 1 (by decide) (hw _ tw_192) (fun _ h9 => h9) rfl dX8_end_4 ?_
  refine lv_i2l (v := Int32.toInt64 (nI mt)) hx hb dX8_end_7 rfl ?_
  obtain ⟨hPc, hDc⟩ := zz_sub2 (ws' := []) hP hD [] (by decide) rfl
  have hKc := hK.sub (tys' := []) [] rfl
  have hFc := zz_free0 hS hA
  refine va_calli (va_runS (As := [.long (Int32.toInt64 p0), .long (Int32.toInt64 0), .long (Int32.toInt64 (nI mt))]) (rest := []) ⟨hx, hb, hml, hown, hw⟩ (k_in l dC dI p0 0 (nI mt) s.heap.size) ⟨callB_of 3 hw (zz_good tw_183) rfl rfl rfl (hw _ tw_184) (hw _ tw_185) (by decide +kernel) ⟨Nat.le_of_ble_eq_true rfl, Nat.le_of_ble_eq_true rfl⟩, (hw _ tw_186)⟩ ⟨zz_blind, zz_pre hPc hKc hDc hN⟩ rfl rfl hl.1 rfl (lv_room (Nat.le_of_ble_eq_true rfl)) dX8_end_8 ⟨Nat.le_of_ble_eq_true rfl, Nat.le_of_ble_eq_true rfl⟩) hS (fun q _ h => hFc q h) hFc (fun r_1 u_1 t H1 locs ht hvm e_1 hB hz1 hk1 hS => ?_)
  try dsimp only at e_1
  have hP := zz_keep hP hk1
  clear hk1 hB ht hvm
  generalize H1 = H at hP hS ⊢
  refine lv_if_ne (tgt := 16) hx hb dX8_end_11 (by decide) (fun c_2 => ?_) (fun c_2 => ?_)
  · have zc_2 := c_2
    rw [e_1, zz_in0, Int32.le_iff_toInt_le, Int32.le_iff_toInt_le] at zc_2
    try rw [show (0 : Int32).toInt = 0 from by decide] at zc_2
    try rw [zz_toInt mt (by omega)] at zc_2
    refine lv_aload_n hx hb dX8_end_16 rfl (lv_at hl 0 rfl) ?_
    refine lv_iload_n hx hb dX8_end_17 rfl (lv_at hl 1 rfl) ?_
    refine zz_seti (nI (Int32.toNatClampNeg p0)) (zz_back (by omega)) ?_
    refine va_put (D := (dC, dI)) (ci := 8) (v := .int (nI (Int32.toNatClampNeg p0))) (ty := .int) (C := RX8) (T := TX8) (N := 49) hx hb hw zz_inX8 tyX8 tyX8_ok nmX8 hown hK hP hD hS 0 rfl rfl 1 (by decide) (hw _ tw_192) (fun _ h9 => h9) rfl (by decide +kernel) rfl rfl (Nat.le_of_ble_eq_true rfl) dX8_end_18 (fun H locs hP hD hS => ?_)
    obtain ⟨hP, hD⟩ := zz_ty (D := (dC, dI)) (cl := vwCl) (A := A) (H := H) [(b 0, .inr (8, [.ref (b 1), .int (nI (Int32.toNatClampNeg p0)), .int (gg 2), .int (gg 3), .int (gg 4), .int (gg 5), .int (gg 6), .int (gg 7), .int (gg 8), .int (gg 9), .ref (b 11), .ref (b 12), .ref (b 13), .int (nI mc), .int (nI mh), .ref (b 16), .ref (b 17), .ref (b 18), .ref (b 19), .ref (b 20), .ref (b 21), .ref (b 22), .ref (b 23), .ref (b 24), .int (nI mf), .ref (b 26), .ref (b 27), .ref (b 28), .ref (b 29), .ref (b 30), .ref (b 31), .ref (b 32), .int (gg 32), .int (nI md), .ref (b 35), .ref (b 36), .ref (b 37), .ref (b 38), .ref (b 39), .ref (b 40), .int (gg 40), .ref (b 42), .ref (b 43), .ref (b 44), .int (gg 44), .ref (b 46), .ref (b 47), .int (gg 47), .ref (b 49)]))] hP hD rfl
    refine lv_iload_n hx hb dX8_end_21 rfl (lv_at hl 1 rfl) ?_
    obtain ⟨hP9, hD9⟩ := zz_sub2 (ws' := [(b 0, .inr (8, [.ref (b 1), .int (nI (Int32.toNatClampNeg p0)), .int (gg 2), .int (gg 3), .int (gg 4), .int (gg 5), .int (gg 6), .int (gg 7), .int (gg 8), .int (gg 9), .ref (b 11), .ref (b 12), .ref (b 13), .int (nI mc), .int (nI mh), .ref (b 16), .ref (b 17), .ref (b 18), .ref (b 19), .ref (b 20), .ref (b 21), .ref (b 22), .ref (b 23), .ref (b 24), .int (nI mf), .ref (b 26), .ref (b 27), .ref (b 28), .ref (b 29), .ref (b 30), .ref (b 31), .ref (b 32), .int (gg 32), .int (nI md), .ref (b 35), .ref (b 36), .ref (b 37), .ref (b 38), .ref (b 39), .ref (b 40), .int (gg 40), .ref (b 42), .ref (b 43), .ref (b 44), .int (gg 44), .ref (b 46), .ref (b 47), .int (gg 47), .ref (b 49)]))]) hP hD [0] (by decide) rfl
    have hK9 := hK.sub (tys' := []) [] rfl
    exact W.iret (v := p0) hx hb hr (fun t ht hW => ⟨⟨p0, ((Int32.toNatClampNeg p0)), rfl, (by first | exact Or.inl ⟨by omega, rfl, zz_clN (by omega)⟩ | exact Or.inr ⟨by omega, rfl, rfl⟩), by rw [ht]; exact hP9, va_K.moved hW.alike hK9, hD9⟩, hS.F ht⟩) hS.2.2 dX8_end_22
  · have zc_2 := c_2
    rw [e_1, zz_in0, Int32.le_iff_toInt_le, Int32.le_iff_toInt_le] at zc_2
    try rw [show (0 : Int32).toInt = 0 from by decide] at zc_2
    try rw [zz_toInt mt (by omega)] at zc_2
    refine lv_iconst (v := (-1)) hx hb dX8_end_14 (by decide) ?_
    obtain ⟨hP9, hD9⟩ := zz_sub2 (ws' := [(b 0, .inr (8, [.ref (b 1), .int (nI mt), .int (gg 2), .int (gg 3), .int (gg 4), .int (gg 5), .int (gg 6), .int (gg 7), .int (gg 8), .int (gg 9), .ref (b 11), .ref (b 12), .ref (b 13), .int (nI mc), .int (nI mh), .ref (b 16), .ref (b 17), .ref (b 18), .ref (b 19), .ref (b 20), .ref (b 21), .ref (b 22), .ref (b 23), .ref (b 24), .int (nI mf), .ref (b 26), .ref (b 27), .ref (b 28), .ref (b 29), .ref (b 30), .ref (b 31), .ref (b 32), .int (gg 32), .int (nI md), .ref (b 35), .ref (b 36), .ref (b 37), .ref (b 38), .ref (b 39), .ref (b 40), .int (gg 40), .ref (b 42), .ref (b 43), .ref (b 44), .int (gg 44), .ref (b 46), .ref (b 47), .int (gg 47), .ref (b 49)]))]) hP hD [0] (by decide) rfl
    have hK9 := hK.sub (tys' := []) [] rfl
    exact W.iret (v := (-1)) hx hb hr (fun t ht hW => ⟨⟨(-1), (mt), rfl, (by first | exact Or.inl ⟨by omega, rfl, zz_clN (by omega)⟩ | exact Or.inr ⟨by omega, rfl, rfl⟩), by rw [ht]; exact hP9, va_K.moved hW.alike hK9, hD9⟩, hS.F ht⟩) hS.2.2 dX8_end_15
