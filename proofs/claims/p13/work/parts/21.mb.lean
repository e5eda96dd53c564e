theorem tw_191 : Cond.fieldLink RX8 7 "HandsReturnedModel" "tape" "[B" ∈ zz_all := zz_m3 165 rfl rfl
theorem tw_192 : Cond.fieldLink RX8 141 "HandsReturnedModel" "taped" "I" ∈ zz_all := zz_m3 166 rfl rfl
theorem tw_193 : Cond.code yX8_put cX8_put 2 none ∈ zz_all := zz_m4 106 rfl rfl
theorem tw_194 : Cond.methodLink RX8 144 yX8_put ∈ zz_all := zz_m4 103 rfl rfl
theorem tw_195 : Cond.instanceMethod yX8_put ∈ zz_all := zz_m4 105 rfl rfl
theorem tw_196 : Cond.selects RX8 yX8_put yX8_put ∈ zz_all := zz_ms 38 rfl rfl
theorem tw_197 : Cond.code yX8_isHouse cX8_isHouse 2 (some .boolean) ∈ zz_all := zz_m4 89 rfl rfl
theorem tw_198 : Cond.methodLink RX8 127 yX8_isHouse ∈ zz_all := zz_m4 86 rfl rfl
theorem tw_199 : Cond.instanceMethod yX8_isHouse ∈ zz_all := zz_m4 88 rfl rfl
theorem tw_200 : Cond.selects RX8 yX8_isHouse yX8_isHouse ∈ zz_all := zz_ms 37 rfl rfl
theorem tw_201 : Cond.constantLong RX8 135 400 ∈ zz_all := zz_m4 92 rfl rfl
theorem tw_202 : Cond.fieldLink RX8 37 "HandsReturnedModel" "ill" "[I" ∈ zz_all := zz_m3 182 rfl rfl
theorem tw_203 : Cond.constantLong RX8 139 100 ∈ zz_all := zz_m4 98 rfl rfl
theorem tw_204 : Cond.fieldLink RX8 55 "HandsReturnedModel" "loss" "[I" ∈ zz_all := zz_m3 188 rfl rfl
theorem tw_205 : Cond.fieldLink RX8 40 "HandsReturnedModel" "used" "[I" ∈ zz_all := zz_m3 183 rfl rfl
theorem tw_206 : Cond.fieldLink RX8 230 "HandsReturnedModel" "debts" "I" ∈ zz_all := zz_m3 198 rfl rfl
theorem tw_207 : Cond.fieldLink RX8 79 "HandsReturnedModel" "debtor" "[I" ∈ zz_all := zz_m3 199 rfl rfl
theorem tw_208 : Cond.fieldLink RX8 82 "HandsReturnedModel" "creditor" "[I" ∈ zz_all := zz_m3 200 rfl rfl
theorem tw_209 : Cond.fieldLink RX8 85 "HandsReturnedModel" "debtDay" "[I" ∈ zz_all := zz_m3 201 rfl rfl
theorem tw_210 : Cond.fieldLink RX8 88 "HandsReturnedModel" "units" "[I" ∈ zz_all := zz_m3 202 rfl rfl
theorem tw_211 : Cond.code yX8_owed cX8_owed 5 (some .int) ∈ zz_all := zz_m4 239 rfl rfl
theorem tw_212 : Cond.methodLink RX8 267 yX8_owed ∈ zz_all := zz_m4 236 rfl rfl
theorem tw_213 : Cond.instanceMethod yX8_owed ∈ zz_all := zz_m4 238 rfl rfl
theorem tw_214 : Cond.selects RX8 yX8_owed yX8_owed ∈ zz_all := zz_ms 53 rfl rfl
theorem tw_215 : Cond.fieldLink RX8 17 "HandsReturnedModel" "faultAt" "I" ∈ zz_all := zz_m3 174 rfl rfl
theorem tw_216 : Cond.fieldLink RX8 13 "HandsReturnedModel" "fault" "I" ∈ zz_all := zz_m3 173 rfl rfl
theorem tw_217 : Cond.constantLong RX8 218 6 ∈ zz_all := zz_m4 162 rfl rfl
theorem tw_218 : Cond.fieldLink RX8 28 "HandsReturnedModel" "custom" "[I" ∈ zz_all := zz_m3 177 rfl rfl
theorem tw_219 : Cond.fieldLink RX8 223 "HandsReturnedModel" "clock" "I" ∈ zz_all := zz_m3 178 rfl rfl
theorem tw_220 : Cond.fieldLink RX8 254 "HandsReturnedModel" "hired" "I" ∈ zz_all := zz_m3 197 rfl rfl
theorem tw_221 : Cond.constantLong RX8 311 20 ∈ zz_all := zz_m5 64 rfl rfl
theorem tw_222 : Cond.constantLong RX8 313 29 ∈ zz_all := zz_m5 65 rfl rfl
theorem dX8_put_0 : decode cX8_put 0 = .ok (.aload_n 0, 1) := by decide +kernel
theorem dX8_put_1 : decode cX8_put 1 = .ok (.getfield 7, 3) := by decide +kernel
theorem dX8_put_4 : decode cX8_put 4 = .ok (.aload_n 0, 1) := by decide +kernel
theorem dX8_put_5 : decode cX8_put 5 = .ok (.getfield 141, 3) := by decide +kernel
theorem dX8_put_8 : decode cX8_put 8 = .ok (.iload_n 1, 1) := by decide +kernel
theorem dX8_put_9 : decode cX8_put 9 = .ok (.bipush 24, 2) := by decide +kernel
theorem dX8_put_11 : decode cX8_put 11 = .ok (.ishr, 1) := by decide +kernel
theorem dX8_put_12 : decode cX8_put 12 = .ok (.i2b, 1) := by decide +kernel
theorem dX8_put_13 : decode cX8_put 13 = .ok (.bastore, 1) := by decide +kernel
theorem dX8_put_14 : decode cX8_put 14 = .ok (.aload_n 0, 1) := by decide +kernel
theorem dX8_put_15 : decode cX8_put 15 = .ok (.getfield 7, 3) := by decide +kernel
theorem dX8_put_18 : decode cX8_put 18 = .ok (.aload_n 0, 1) := by decide +kernel
theorem dX8_put_19 : decode cX8_put 19 = .ok (.getfield 141, 3) := by decide +kernel
theorem dX8_put_22 : decode cX8_put 22 = .ok (.iconst 1, 1) := by decide +kernel
theorem dX8_put_23 : decode cX8_put 23 = .ok (.iadd, 1) := by decide +kernel
theorem dX8_put_24 : decode cX8_put 24 = .ok (.iload_n 1, 1) := by decide +kernel
theorem dX8_put_25 : decode cX8_put 25 = .ok (.bipush 16, 2) := by decide +kernel
theorem dX8_put_27 : decode cX8_put 27 = .ok (.ishr, 1) := by decide +kernel
theorem dX8_put_28 : decode cX8_put 28 = .ok (.i2b, 1) := by decide +kernel
theorem dX8_put_29 : decode cX8_put 29 = .ok (.bastore, 1) := by decide +kernel
theorem dX8_put_30 : decode cX8_put 30 = .ok (.aload_n 0, 1) := by decide +kernel
theorem dX8_put_31 : decode cX8_put 31 = .ok (.getfield 7, 3) := by decide +kernel
theorem dX8_put_34 : decode cX8_put 34 = .ok (.aload_n 0, 1) := by decide +kernel
theorem dX8_put_35 : decode cX8_put 35 = .ok (.getfield 141, 3) := by decide +kernel
theorem dX8_put_38 : decode cX8_put 38 = .ok (.iconst 2, 1) := by decide +kernel
theorem dX8_put_39 : decode cX8_put 39 = .ok (.iadd, 1) := by decide +kernel
theorem dX8_put_40 : decode cX8_put 40 = .ok (.iload_n 1, 1) := by decide +kernel
theorem dX8_put_41 : decode cX8_put 41 = .ok (.bipush 8, 2) := by decide +kernel
theorem dX8_put_43 : decode cX8_put 43 = .ok (.ishr, 1) := by decide +kernel
theorem dX8_put_44 : decode cX8_put 44 = .ok (.i2b, 1) := by decide +kernel
theorem dX8_put_45 : decode cX8_put 45 = .ok (.bastore, 1) := by decide +kernel
theorem dX8_put_46 : decode cX8_put 46 = .ok (.aload_n 0, 1) := by decide +kernel
theorem dX8_put_47 : decode cX8_put 47 = .ok (.getfield 7, 3) := by decide +kernel
theorem dX8_put_50 : decode cX8_put 50 = .ok (.aload_n 0, 1) := by decide +kernel
theorem dX8_put_51 : decode cX8_put 51 = .ok (.getfield 141, 3) := by decide +kernel
theorem dX8_put_54 : decode cX8_put 54 = .ok (.iconst 3, 1) := by decide +kernel
theorem dX8_put_55 : decode cX8_put 55 = .ok (.iadd, 1) := by decide +kernel
theorem dX8_put_56 : decode cX8_put 56 = .ok (.iload_n 1, 1) := by decide +kernel
theorem dX8_put_57 : decode cX8_put 57 = .ok (.i2b, 1) := by decide +kernel
theorem dX8_put_58 : decode cX8_put 58 = .ok (.bastore, 1) := by decide +kernel
theorem dX8_put_59 : decode cX8_put 59 = .ok (.aload_n 0, 1) := by decide +kernel
theorem dX8_put_60 : decode cX8_put 60 = .ok (.dup, 1) := by decide +kernel
theorem dX8_put_61 : decode cX8_put 61 = .ok (.getfield 141, 3) := by decide +kernel
theorem dX8_put_64 : decode cX8_put 64 = .ok (.iconst 4, 1) := by decide +kernel
theorem dX8_put_65 : decode cX8_put 65 = .ok (.iadd, 1) := by decide +kernel
theorem dX8_put_66 : decode cX8_put 66 = .ok (.putfield 141, 3) := by decide +kernel
theorem dX8_put_69 : decode cX8_put 69 = .ok (.return_, 1) := by decide +kernel
theorem dX8_feed_0 : decode cX8_feed 0 = .ok (.aload_n 0, 1) := by decide +kernel
theorem dX8_feed_1 : decode cX8_feed 1 = .ok (.getfield 141, 3) := by decide +kernel
theorem dX8_feed_4 : decode cX8_feed 4 = .ok (.bipush 20, 2) := by decide +kernel
theorem dX8_feed_6 : decode cX8_feed 6 = .ok (.iadd, 1) := by decide +kernel
theorem dX8_feed_7 : decode cX8_feed 7 = .ok (.sipush 200, 3) := by decide +kernel
theorem dX8_feed_10 : decode cX8_feed 10 = .ok (.if_icmp .le 5, 3) := by decide +kernel
theorem dX8_feed_13 : decode cX8_feed 13 = .ok (.iconst (-1), 1) := by decide +kernel
theorem dX8_feed_14 : decode cX8_feed 14 = .ok (.ireturn, 1) := by decide +kernel
theorem dX8_feed_15 : decode cX8_feed 15 = .ok (.aload_n 0, 1) := by decide +kernel
theorem dX8_feed_16 : decode cX8_feed 16 = .ok (.iload_n 1, 1) := by decide +kernel
theorem dX8_feed_17 : decode cX8_feed 17 = .ok (.invokevirtual 144, 3) := by decide +kernel
theorem dX8_feed_20 : decode cX8_feed 20 = .ok (.aload_n 0, 1) := by decide +kernel
theorem dX8_feed_21 : decode cX8_feed 21 = .ok (.iload_n 2, 1) := by decide +kernel
theorem dX8_feed_22 : decode cX8_feed 22 = .ok (.invokevirtual 144, 3) := by decide +kernel
theorem dX8_feed_25 : decode cX8_feed 25 = .ok (.aload_n 0, 1) := by decide +kernel
theorem dX8_feed_26 : decode cX8_feed 26 = .ok (.iload_n 3, 1) := by decide +kernel
theorem dX8_feed_27 : decode cX8_feed 27 = .ok (.invokevirtual 144, 3) := by decide +kernel
theorem dX8_feed_30 : decode cX8_feed 30 = .ok (.aload_n 0, 1) := by decide +kernel
theorem dX8_feed_31 : decode cX8_feed 31 = .ok (.iload 4, 2) := by decide +kernel
theorem dX8_feed_33 : decode cX8_feed 33 = .ok (.invokevirtual 144, 3) := by decide +kernel
theorem dX8_feed_36 : decode cX8_feed 36 = .ok (.aload_n 0, 1) := by decide +kernel
theorem dX8_feed_37 : decode cX8_feed 37 = .ok (.iload 5, 2) := by decide +kernel
theorem dX8_feed_39 : decode cX8_feed 39 = .ok (.invokevirtual 144, 3) := by decide +kernel
theorem dX8_feed_42 : decode cX8_feed 42 = .ok (.aload_n 0, 1) := by decide +kernel
theorem dX8_feed_43 : decode cX8_feed 43 = .ok (.getfield 141, 3) := by decide +kernel
theorem dX8_feed_46 : decode cX8_feed 46 = .ok (.ireturn, 1) := by decide +kernel
theorem dX8_end_0 : decode cX8_end 0 = .ok (.iload_n 1, 1) := by decide +kernel
theorem dX8_end_1 : decode cX8_end 1 = .ok (.i2l, 1) := by decide +kernel
theorem dX8_end_2 : decode cX8_end 2 = .ok (.lconst 0, 1) := by decide +kernel
theorem dX8_end_3 : decode cX8_end 3 = .ok (.aload_n 0, 1) := by decide +kernel
theorem dX8_end_4 : decode cX8_end 4 = .ok (.getfield 141, 3) := by decide +kernel
theorem dX8_end_7 : decode cX8_end 7 = .ok (.i2l, 1) := by decide +kernel
theorem dX8_end_8 : decode cX8_end 8 = .ok (.invokestatic 118, 3) := by decide +kernel
theorem dX8_end_11 : decode cX8_end 11 = .ok (.ifCond .ne 5, 3) := by decide +kernel
theorem dX8_end_14 : decode cX8_end 14 = .ok (.iconst (-1), 1) := by decide +kernel
theorem dX8_end_15 : decode cX8_end 15 = .ok (.ireturn, 1) := by decide +kernel
theorem dX8_end_16 : decode cX8_end 16 = .ok (.aload_n 0, 1) := by decide +kernel
theorem dX8_end_17 : decode cX8_end 17 = .ok (.iload_n 1, 1) := by decide +kernel
theorem dX8_end_18 : decode cX8_end 18 = .ok (.putfield 141, 3) := by decide +kernel
theorem dX8_end_21 : decode cX8_end 21 = .ok (.iload_n 1, 1) := by decide +kernel
theorem dX8_end_22 : decode cX8_end 22 = .ok (.ireturn, 1) := by decide +kernel
theorem dX8_ill_0 : decode cX8_ill 0 = .ok (.aload_n 0, 1) := by decide +kernel
theorem dX8_ill_1 : decode cX8_ill 1 = .ok (.iload_n 1, 1) := by decide +kernel
theorem dX8_ill_2 : decode cX8_ill 2 = .ok (.invokevirtual 127, 3) := by decide +kernel
theorem dX8_ill_5 : decode cX8_ill 5 = .ok (.ifCond .eq 15, 3) := by decide +kernel
theorem dX8_ill_8 : decode cX8_ill 8 = .ok (.iload_n 2, 1) := by decide +kernel
theorem dX8_ill_9 : decode cX8_ill 9 = .ok (.i2l, 1) := by decide +kernel
theorem dX8_ill_10 : decode cX8_ill 10 = .ok (.lconst 0, 1) := by decide +kernel
theorem dX8_ill_11 : decode cX8_ill 11 = .ok (.ldc2_w 135, 3) := by decide +kernel
theorem dX8_ill_14 : decode cX8_ill 14 = .ok (.invokestatic 118, 3) := by decide +kernel
theorem dX8_ill_17 : decode cX8_ill 17 = .ok (.ifCond .ne 5, 3) := by decide +kernel
theorem dX8_ill_20 : decode cX8_ill 20 = .ok (.iconst 0, 1) := by decide +kernel
theorem dX8_ill_21 : decode cX8_ill 21 = .ok (.ireturn, 1) := by decide +kernel
theorem dX8_ill_22 : decode cX8_ill 22 = .ok (.aload_n 0, 1) := by decide +kernel
theorem dX8_ill_23 : decode cX8_ill 23 = .ok (.getfield 37, 3) := by decide +kernel
theorem dX8_ill_26 : decode cX8_ill 26 = .ok (.iload_n 1, 1) := by decide +kernel
theorem dX8_ill_27 : decode cX8_ill 27 = .ok (.iload_n 2, 1) := by decide +kernel
theorem dX8_ill_28 : decode cX8_ill 28 = .ok (.iastore, 1) := by decide +kernel
theorem dX8_ill_29 : decode cX8_ill 29 = .ok (.iconst 1, 1) := by decide +kernel
theorem dX8_ill_30 : decode cX8_ill 30 = .ok (.ireturn, 1) := by decide +kernel
theorem dX8_loss_0 : decode cX8_loss 0 = .ok (.iload_n 1, 1) := by decide +kernel
theorem dX8_loss_1 : decode cX8_loss 1 = .ok (.i2l, 1) := by decide +kernel
theorem dX8_loss_2 : decode cX8_loss 2 = .ok (.lconst 0, 1) := by decide +kernel
theorem dX8_loss_3 : decode cX8_loss 3 = .ok (.ldc2_w 125, 3) := by decide +kernel
theorem dX8_loss_6 : decode cX8_loss 6 = .ok (.invokestatic 118, 3) := by decide +kernel
theorem dX8_loss_9 : decode cX8_loss 9 = .ok (.ifCond .eq 15, 3) := by decide +kernel
theorem dX8_loss_12 : decode cX8_loss 12 = .ok (.iload_n 2, 1) := by decide +kernel
theorem dX8_loss_13 : decode cX8_loss 13 = .ok (.i2l, 1) := by decide +kernel
theorem dX8_loss_14 : decode cX8_loss 14 = .ok (.lconst 0, 1) := by decide +kernel
theorem dX8_loss_15 : decode cX8_loss 15 = .ok (.ldc2_w 139, 3) := by decide +kernel
theorem dX8_loss_18 : decode cX8_loss 18 = .ok (.invokestatic 118, 3) := by decide +kernel
theorem dX8_loss_21 : decode cX8_loss 21 = .ok (.ifCond .ne 5, 3) := by decide +kernel
theorem dX8_loss_24 : decode cX8_loss 24 = .ok (.iconst 0, 1) := by decide +kernel
theorem dX8_loss_25 : decode cX8_loss 25 = .ok (.ireturn, 1) := by decide +kernel
theorem dX8_loss_26 : decode cX8_loss 26 = .ok (.aload_n 0, 1) := by decide +kernel
theorem dX8_loss_27 : decode cX8_loss 27 = .ok (.getfield 55, 3) := by decide +kernel
theorem dX8_loss_30 : decode cX8_loss 30 = .ok (.iload_n 1, 1) := by decide +kernel
theorem dX8_loss_31 : decode cX8_loss 31 = .ok (.iload_n 2, 1) := by decide +kernel
theorem dX8_loss_32 : decode cX8_loss 32 = .ok (.iastore, 1) := by decide +kernel
theorem dX8_loss_33 : decode cX8_loss 33 = .ok (.iconst 1, 1) := by decide +kernel
theorem dX8_loss_34 : decode cX8_loss 34 = .ok (.ireturn, 1) := by decide +kernel
theorem dX8_free_0 : decode cX8_free 0 = .ok (.aload_n 0, 1) := by decide +kernel
theorem dX8_free_1 : decode cX8_free 1 = .ok (.getfield 37, 3) := by decide +kernel
theorem dX8_free_4 : decode cX8_free 4 = .ok (.iload_n 1, 1) := by decide +kernel
theorem dX8_free_5 : decode cX8_free 5 = .ok (.iaload, 1) := by decide +kernel
theorem dX8_free_6 : decode cX8_free 6 = .ok (.ifCond .le 7, 3) := by decide +kernel
theorem dX8_free_9 : decode cX8_free 9 = .ok (.iconst 0, 1) := by decide +kernel
theorem dX8_free_10 : decode cX8_free 10 = .ok (.goto 16, 3) := by decide +kernel
theorem dX8_free_13 : decode cX8_free 13 = .ok (.aload_n 0, 1) := by decide +kernel
theorem dX8_free_14 : decode cX8_free 14 = .ok (.getfield 31, 3) := by decide +kernel
theorem dX8_free_17 : decode cX8_free 17 = .ok (.iload_n 1, 1) := by decide +kernel
theorem dX8_free_18 : decode cX8_free 18 = .ok (.iaload, 1) := by decide +kernel
theorem dX8_free_19 : decode cX8_free 19 = .ok (.aload_n 0, 1) := by decide +kernel
theorem dX8_free_20 : decode cX8_free 20 = .ok (.getfield 40, 3) := by decide +kernel
theorem dX8_free_23 : decode cX8_free 23 = .ok (.iload_n 1, 1) := by decide +kernel
theorem dX8_free_24 : decode cX8_free 24 = .ok (.iaload, 1) := by decide +kernel
theorem dX8_free_25 : decode cX8_free 25 = .ok (.isub, 1) := by decide +kernel
theorem dX8_free_26 : decode cX8_free 26 = .ok (.ireturn, 1) := by decide +kernel
theorem dX8_debtOf_0 : decode cX8_debtOf 0 = .ok (.iconst (-1), 1) := by decide +kernel
theorem dX8_debtOf_1 : decode cX8_debtOf 1 = .ok (.istore 4, 2) := by decide +kernel
theorem dX8_debtOf_3 : decode cX8_debtOf 3 = .ok (.iconst 0, 1) := by decide +kernel
theorem dX8_debtOf_4 : decode cX8_debtOf 4 = .ok (.istore 5, 2) := by decide +kernel
theorem dX8_debtOf_6 : decode cX8_debtOf 6 = .ok (.iload 5, 2) := by decide +kernel
theorem dX8_debtOf_8 : decode cX8_debtOf 8 = .ok (.aload_n 0, 1) := by decide +kernel
theorem dX8_debtOf_9 : decode cX8_debtOf 9 = .ok (.getfield 230, 3) := by decide +kernel
theorem dX8_debtOf_12 : decode cX8_debtOf 12 = .ok (.if_icmp .ge 51, 3) := by decide +kernel
theorem dX8_debtOf_15 : decode cX8_debtOf 15 = .ok (.aload_n 0, 1) := by decide +kernel
theorem dX8_debtOf_16 : decode cX8_debtOf 16 = .ok (.getfield 79, 3) := by decide +kernel
theorem dX8_debtOf_19 : decode cX8_debtOf 19 = .ok (.iload 5, 2) := by decide +kernel
theorem dX8_debtOf_21 : decode cX8_debtOf 21 = .ok (.iaload, 1) := by decide +kernel
theorem dX8_debtOf_22 : decode cX8_debtOf 22 = .ok (.iload_n 1, 1) := by decide +kernel
theorem dX8_debtOf_23 : decode cX8_debtOf 23 = .ok (.if_icmp .ne 30, 3) := by decide +kernel
theorem dX8_debtOf_26 : decode cX8_debtOf 26 = .ok (.aload_n 0, 1) := by decide +kernel
theorem dX8_debtOf_27 : decode cX8_debtOf 27 = .ok (.getfield 82, 3) := by decide +kernel
theorem dX8_debtOf_30 : decode cX8_debtOf 30 = .ok (.iload 5, 2) := by decide +kernel
theorem dX8_debtOf_32 : decode cX8_debtOf 32 = .ok (.iaload, 1) := by decide +kernel
theorem dX8_debtOf_33 : decode cX8_debtOf 33 = .ok (.iload_n 2, 1) := by decide +kernel
theorem dX8_debtOf_34 : decode cX8_debtOf 34 = .ok (.if_icmp .ne 19, 3) := by decide +kernel
theorem dX8_debtOf_37 : decode cX8_debtOf 37 = .ok (.aload_n 0, 1) := by decide +kernel
theorem dX8_debtOf_38 : decode cX8_debtOf 38 = .ok (.getfield 85, 3) := by decide +kernel
theorem dX8_debtOf_41 : decode cX8_debtOf 41 = .ok (.iload 5, 2) := by decide +kernel
theorem dX8_debtOf_43 : decode cX8_debtOf 43 = .ok (.iaload, 1) := by decide +kernel
theorem dX8_debtOf_44 : decode cX8_debtOf 44 = .ok (.iload_n 3, 1) := by decide +kernel
theorem dX8_debtOf_45 : decode cX8_debtOf 45 = .ok (.if_icmp .ne 8, 3) := by decide +kernel
theorem dX8_debtOf_48 : decode cX8_debtOf 48 = .ok (.iload 5, 2) := by decide +kernel
theorem dX8_debtOf_50 : decode cX8_debtOf 50 = .ok (.goto 5, 3) := by decide +kernel
theorem dX8_debtOf_53 : decode cX8_debtOf 53 = .ok (.iload 4, 2) := by decide +kernel
theorem dX8_debtOf_55 : decode cX8_debtOf 55 = .ok (.istore 4, 2) := by decide +kernel
theorem dX8_debtOf_57 : decode cX8_debtOf 57 = .ok (.iinc 5 1, 3) := by decide +kernel
theorem dX8_debtOf_60 : decode cX8_debtOf 60 = .ok (.goto (-54), 3) := by decide +kernel
theorem dX8_debtOf_63 : decode cX8_debtOf 63 = .ok (.iload 4, 2) := by decide +kernel
theorem dX8_debtOf_65 : decode cX8_debtOf 65 = .ok (.ireturn, 1) := by decide +kernel
theorem dX8_owed_0 : decode cX8_owed 0 = .ok (.iconst 0, 1) := by decide +kernel
theorem dX8_owed_1 : decode cX8_owed 1 = .ok (.istore_n 3, 1) := by decide +kernel
theorem dX8_owed_2 : decode cX8_owed 2 = .ok (.iconst 0, 1) := by decide +kernel
theorem dX8_owed_3 : decode cX8_owed 3 = .ok (.istore 4, 2) := by decide +kernel
theorem dX8_owed_5 : decode cX8_owed 5 = .ok (.iload 4, 2) := by decide +kernel
theorem dX8_owed_7 : decode cX8_owed 7 = .ok (.aload_n 0, 1) := by decide +kernel
theorem dX8_owed_8 : decode cX8_owed 8 = .ok (.getfield 230, 3) := by decide +kernel
theorem dX8_owed_11 : decode cX8_owed 11 = .ok (.if_icmp .ge 45, 3) := by decide +kernel
theorem dX8_owed_14 : decode cX8_owed 14 = .ok (.iload_n 3, 1) := by decide +kernel
theorem dX8_owed_15 : decode cX8_owed 15 = .ok (.aload_n 0, 1) := by decide +kernel
theorem dX8_owed_16 : decode cX8_owed 16 = .ok (.getfield 79, 3) := by decide +kernel
theorem dX8_owed_19 : decode cX8_owed 19 = .ok (.iload 4, 2) := by decide +kernel
theorem dX8_owed_21 : decode cX8_owed 21 = .ok (.iaload, 1) := by decide +kernel
theorem dX8_owed_22 : decode cX8_owed 22 = .ok (.iload_n 1, 1) := by decide +kernel
theorem dX8_owed_23 : decode cX8_owed 23 = .ok (.if_icmp .ne 24, 3) := by decide +kernel
theorem dX8_owed_26 : decode cX8_owed 26 = .ok (.aload_n 0, 1) := by decide +kernel
theorem dX8_owed_27 : decode cX8_owed 27 = .ok (.getfield 82, 3) := by decide +kernel
theorem dX8_owed_30 : decode cX8_owed 30 = .ok (.iload 4, 2) := by decide +kernel
theorem dX8_owed_32 : decode cX8_owed 32 = .ok (.iaload, 1) := by decide +kernel
theorem dX8_owed_33 : decode cX8_owed 33 = .ok (.iload_n 2, 1) := by decide +kernel
theorem dX8_owed_34 : decode cX8_owed 34 = .ok (.if_icmp .ne 13, 3) := by decide +kernel
theorem dX8_owed_37 : decode cX8_owed 37 = .ok (.aload_n 0, 1) := by decide +kernel
theorem dX8_owed_38 : decode cX8_owed 38 = .ok (.getfield 88, 3) := by decide +kernel
theorem dX8_owed_41 : decode cX8_owed 41 = .ok (.iload 4, 2) := by decide +kernel
theorem dX8_owed_43 : decode cX8_owed 43 = .ok (.iaload, 1) := by decide +kernel
theorem dX8_owed_44 : decode cX8_owed 44 = .ok (.goto 4, 3) := by decide +kernel
theorem dX8_owed_47 : decode cX8_owed 47 = .ok (.iconst 0, 1) := by decide +kernel
theorem dX8_owed_48 : decode cX8_owed 48 = .ok (.iadd, 1) := by decide +kernel
theorem dX8_owed_49 : decode cX8_owed 49 = .ok (.istore_n 3, 1) := by decide +kernel
theorem dX8_owed_50 : decode cX8_owed 50 = .ok (.iinc 4 1, 3) := by decide +kernel
theorem dX8_owed_53 : decode cX8_owed 53 = .ok (.goto (-48), 3) := by decide +kernel
theorem dX8_owed_56 : decode cX8_owed 56 = .ok (.iload_n 3, 1) := by decide +kernel
theorem dX8_owed_57 : decode cX8_owed 57 = .ok (.ireturn, 1) := by decide +kernel
theorem dX8_drops_0 : decode cX8_drops 0 = .ok (.iconst 0, 1) := by decide +kernel
theorem dX8_drops_1 : decode cX8_drops 1 = .ok (.istore_n 1, 1) := by decide +kernel
theorem dX8_drops_2 : decode cX8_drops 2 = .ok (.iconst 0, 1) := by decide +kernel
theorem dX8_drops_3 : decode cX8_drops 3 = .ok (.istore_n 2, 1) := by decide +kernel
theorem dX8_drops_4 : decode cX8_drops 4 = .ok (.iload_n 2, 1) := by decide +kernel
theorem dX8_drops_5 : decode cX8_drops 5 = .ok (.aload_n 0, 1) := by decide +kernel
theorem dX8_drops_6 : decode cX8_drops 6 = .ok (.getfield 230, 3) := by decide +kernel
theorem dX8_drops_9 : decode cX8_drops 9 = .ok (.if_icmp .ge 69, 3) := by decide +kernel
theorem dX8_drops_12 : decode cX8_drops 12 = .ok (.aload_n 0, 1) := by decide +kernel
theorem dX8_drops_13 : decode cX8_drops 13 = .ok (.getfield 88, 3) := by decide +kernel
theorem dX8_drops_16 : decode cX8_drops 16 = .ok (.iload_n 2, 1) := by decide +kernel
theorem dX8_drops_17 : decode cX8_drops 17 = .ok (.iaload, 1) := by decide +kernel
theorem dX8_drops_18 : decode cX8_drops 18 = .ok (.ifCond .le 54, 3) := by decide +kernel
theorem dX8_drops_21 : decode cX8_drops 21 = .ok (.aload_n 0, 1) := by decide +kernel
theorem dX8_drops_22 : decode cX8_drops 22 = .ok (.getfield 79, 3) := by decide +kernel
theorem dX8_drops_25 : decode cX8_drops 25 = .ok (.iload_n 1, 1) := by decide +kernel
theorem dX8_drops_26 : decode cX8_drops 26 = .ok (.aload_n 0, 1) := by decide +kernel
theorem dX8_drops_27 : decode cX8_drops 27 = .ok (.getfield 79, 3) := by decide +kernel
theorem dX8_drops_30 : decode cX8_drops 30 = .ok (.iload_n 2, 1) := by decide +kernel
theorem dX8_drops_31 : decode cX8_drops 31 = .ok (.iaload, 1) := by decide +kernel
theorem dX8_drops_32 : decode cX8_drops 32 = .ok (.iastore, 1) := by decide +kernel
theorem dX8_drops_33 : decode cX8_drops 33 = .ok (.aload_n 0, 1) := by decide +kernel
theorem dX8_drops_34 : decode cX8_drops 34 = .ok (.getfield 82, 3) := by decide +kernel
theorem dX8_drops_37 : decode cX8_drops 37 = .ok (.iload_n 1, 1) := by decide +kernel
theorem dX8_drops_38 : decode cX8_drops 38 = .ok (.aload_n 0, 1) := by decide +kernel
theorem dX8_drops_39 : decode cX8_drops 39 = .ok (.getfield 82, 3) := by decide +kernel
theorem dX8_drops_42 : decode cX8_drops 42 = .ok (.iload_n 2, 1) := by decide +kernel
theorem dX8_drops_43 : decode cX8_drops 43 = .ok (.iaload, 1) := by decide +kernel
theorem dX8_drops_44 : decode cX8_drops 44 = .ok (.iastore, 1) := by decide +kernel
theorem dX8_drops_45 : decode cX8_drops 45 = .ok (.aload_n 0, 1) := by decide +kernel
theorem dX8_drops_46 : decode cX8_drops 46 = .ok (.getfield 85, 3) := by decide +kernel
theorem dX8_drops_49 : decode cX8_drops 49 = .ok (.iload_n 1, 1) := by decide +kernel
theorem dX8_drops_50 : decode cX8_drops 50 = .ok (.aload_n 0, 1) := by decide +kernel
theorem dX8_drops_51 : decode cX8_drops 51 = .ok (.getfield 85, 3) := by decide +kernel
theorem dX8_drops_54 : decode cX8_drops 54 = .ok (.iload_n 2, 1) := by decide +kernel
theorem dX8_drops_55 : decode cX8_drops 55 = .ok (.iaload, 1) := by decide +kernel
theorem dX8_drops_56 : decode cX8_drops 56 = .ok (.iastore, 1) := by decide +kernel
theorem dX8_drops_57 : decode cX8_drops 57 = .ok (.aload_n 0, 1) := by decide +kernel
theorem dX8_drops_58 : decode cX8_drops 58 = .ok (.getfield 88, 3) := by decide +kernel
theorem dX8_drops_61 : decode cX8_drops 61 = .ok (.iload_n 1, 1) := by decide +kernel
theorem dX8_drops_62 : decode cX8_drops 62 = .ok (.aload_n 0, 1) := by decide +kernel
theorem dX8_drops_63 : decode cX8_drops 63 = .ok (.getfield 88, 3) := by decide +kernel
theorem dX8_drops_66 : decode cX8_drops 66 = .ok (.iload_n 2, 1) := by decide +kernel
theorem dX8_drops_67 : decode cX8_drops 67 = .ok (.iaload, 1) := by decide +kernel
theorem dX8_drops_68 : decode cX8_drops 68 = .ok (.iastore, 1) := by decide +kernel
theorem dX8_drops_69 : decode cX8_drops 69 = .ok (.iinc 1 1, 3) := by decide +kernel
theorem dX8_drops_72 : decode cX8_drops 72 = .ok (.iinc 2 1, 3) := by decide +kernel
theorem dX8_drops_75 : decode cX8_drops 75 = .ok (.goto (-71), 3) := by decide +kernel
theorem dX8_drops_78 : decode cX8_drops 78 = .ok (.aload_n 0, 1) := by decide +kernel
theorem dX8_drops_79 : decode cX8_drops 79 = .ok (.iload_n 1, 1) := by decide +kernel
theorem dX8_drops_80 : decode cX8_drops 80 = .ok (.putfield 230, 3) := by decide +kernel
theorem dX8_drops_83 : decode cX8_drops 83 = .ok (.return_, 1) := by decide +kernel
theorem dX8_owes_0 : decode cX8_owes 0 = .ok (.aload_n 0, 1) := by decide +kernel
theorem dX8_owes_1 : decode cX8_owes 1 = .ok (.iload_n 1, 1) := by decide +kernel
theorem dX8_owes_2 : decode cX8_owes 2 = .ok (.invokevirtual 127, 3) := by decide +kernel
theorem dX8_owes_5 : decode cX8_owes 5 = .ok (.ifCond .eq 16, 3) := by decide +kernel
theorem dX8_owes_8 : decode cX8_owes 8 = .ok (.aload_n 0, 1) := by decide +kernel
theorem dX8_owes_9 : decode cX8_owes 9 = .ok (.iload_n 2, 1) := by decide +kernel
theorem dX8_owes_10 : decode cX8_owes 10 = .ok (.invokevirtual 127, 3) := by decide +kernel
theorem dX8_owes_13 : decode cX8_owes 13 = .ok (.ifCond .eq 8, 3) := by decide +kernel
theorem dX8_owes_16 : decode cX8_owes 16 = .ok (.iload_n 1, 1) := by decide +kernel
theorem dX8_owes_17 : decode cX8_owes 17 = .ok (.iload_n 2, 1) := by decide +kernel
theorem dX8_owes_18 : decode cX8_owes 18 = .ok (.if_icmp .ne 7, 3) := by decide +kernel
theorem dX8_owes_21 : decode cX8_owes 21 = .ok (.iconst (-1), 1) := by decide +kernel
theorem dX8_owes_22 : decode cX8_owes 22 = .ok (.goto 9, 3) := by decide +kernel
theorem dX8_owes_25 : decode cX8_owes 25 = .ok (.aload_n 0, 1) := by decide +kernel
theorem dX8_owes_26 : decode cX8_owes 26 = .ok (.iload_n 1, 1) := by decide +kernel
theorem dX8_owes_27 : decode cX8_owes 27 = .ok (.iload_n 2, 1) := by decide +kernel
theorem dX8_owes_28 : decode cX8_owes 28 = .ok (.invokevirtual 267, 3) := by decide +kernel
theorem dX8_owes_31 : decode cX8_owes 31 = .ok (.ireturn, 1) := by decide +kernel
theorem dX8_oldest_0 : decode cX8_oldest 0 = .ok (.aload_n 0, 1) := by decide +kernel
theorem dX8_oldest_1 : decode cX8_oldest 1 = .ok (.iload_n 1, 1) := by decide +kernel
theorem dX8_oldest_2 : decode cX8_oldest 2 = .ok (.invokevirtual 127, 3) := by decide +kernel
theorem dX8_oldest_5 : decode cX8_oldest 5 = .ok (.ifCond .eq 11, 3) := by decide +kernel
theorem dX8_oldest_8 : decode cX8_oldest 8 = .ok (.aload_n 0, 1) := by decide +kernel
theorem dX8_oldest_9 : decode cX8_oldest 9 = .ok (.iload_n 2, 1) := by decide +kernel
theorem dX8_oldest_10 : decode cX8_oldest 10 = .ok (.invokevirtual 127, 3) := by decide +kernel
theorem dX8_oldest_13 : decode cX8_oldest 13 = .ok (.ifCond .ne 5, 3) := by decide +kernel
theorem dX8_oldest_16 : decode cX8_oldest 16 = .ok (.iconst (-1), 1) := by decide +kernel
theorem dX8_oldest_17 : decode cX8_oldest 17 = .ok (.ireturn, 1) := by decide +kernel
theorem dX8_oldest_18 : decode cX8_oldest 18 = .ok (.iconst 0, 1) := by decide +kernel
theorem dX8_oldest_19 : decode cX8_oldest 19 = .ok (.istore_n 3, 1) := by decide +kernel
theorem dX8_oldest_20 : decode cX8_oldest 20 = .ok (.iload_n 3, 1) := by decide +kernel
theorem dX8_oldest_21 : decode cX8_oldest 21 = .ok (.aload_n 0, 1) := by decide +kernel
theorem dX8_oldest_22 : decode cX8_oldest 22 = .ok (.getfield 230, 3) := by decide +kernel
theorem dX8_oldest_25 : decode cX8_oldest 25 = .ok (.if_icmp .ge 36, 3) := by decide +kernel
theorem dX8_oldest_28 : decode cX8_oldest 28 = .ok (.aload_n 0, 1) := by decide +kernel
theorem dX8_oldest_29 : decode cX8_oldest 29 = .ok (.getfield 79, 3) := by decide +kernel
theorem dX8_oldest_32 : decode cX8_oldest 32 = .ok (.iload_n 3, 1) := by decide +kernel
theorem dX8_oldest_33 : decode cX8_oldest 33 = .ok (.iaload, 1) := by decide +kernel
theorem dX8_oldest_34 : decode cX8_oldest 34 = .ok (.iload_n 1, 1) := by decide +kernel
theorem dX8_oldest_35 : decode cX8_oldest 35 = .ok (.if_icmp .ne 20, 3) := by decide +kernel
theorem dX8_oldest_38 : decode cX8_oldest 38 = .ok (.aload_n 0, 1) := by decide +kernel
theorem dX8_oldest_39 : decode cX8_oldest 39 = .ok (.getfield 82, 3) := by decide +kernel
theorem dX8_oldest_42 : decode cX8_oldest 42 = .ok (.iload_n 3, 1) := by decide +kernel
theorem dX8_oldest_43 : decode cX8_oldest 43 = .ok (.iaload, 1) := by decide +kernel
theorem dX8_oldest_44 : decode cX8_oldest 44 = .ok (.iload_n 2, 1) := by decide +kernel
theorem dX8_oldest_45 : decode cX8_oldest 45 = .ok (.if_icmp .ne 10, 3) := by decide +kernel
theorem dX8_oldest_48 : decode cX8_oldest 48 = .ok (.aload_n 0, 1) := by decide +kernel
theorem dX8_oldest_49 : decode cX8_oldest 49 = .ok (.getfield 85, 3) := by decide +kernel
theorem dX8_oldest_52 : decode cX8_oldest 52 = .ok (.iload_n 3, 1) := by decide +kernel
theorem dX8_oldest_53 : decode cX8_oldest 53 = .ok (.iaload, 1) := by decide +kernel
theorem dX8_oldest_54 : decode cX8_oldest 54 = .ok (.ireturn, 1) := by decide +kernel
theorem dX8_oldest_55 : decode cX8_oldest 55 = .ok (.iinc 3 1, 3) := by decide +kernel
theorem dX8_oldest_58 : decode cX8_oldest 58 = .ok (.goto (-38), 3) := by decide +kernel
theorem dX8_oldest_61 : decode cX8_oldest 61 = .ok (.iconst (-1), 1) := by decide +kernel
theorem dX8_oldest_62 : decode cX8_oldest 62 = .ok (.ireturn, 1) := by decide +kernel
theorem dX8_fault_0 : decode cX8_fault 0 = .ok (.iload_n 1, 1) := by decide +kernel
theorem dX8_fault_1 : decode cX8_fault 1 = .ok (.ifCond .ne 10, 3) := by decide +kernel
theorem dX8_fault_4 : decode cX8_fault 4 = .ok (.aload_n 0, 1) := by decide +kernel
theorem dX8_fault_5 : decode cX8_fault 5 = .ok (.getfield 13, 3) := by decide +kernel
theorem dX8_fault_8 : decode cX8_fault 8 = .ok (.goto 16, 3) := by decide +kernel
theorem dX8_fault_11 : decode cX8_fault 11 = .ok (.iload_n 1, 1) := by decide +kernel
theorem dX8_fault_12 : decode cX8_fault 12 = .ok (.iconst 1, 1) := by decide +kernel
theorem dX8_fault_13 : decode cX8_fault 13 = .ok (.if_icmp .ne 10, 3) := by decide +kernel
theorem dX8_fault_16 : decode cX8_fault 16 = .ok (.aload_n 0, 1) := by decide +kernel
theorem dX8_fault_17 : decode cX8_fault 17 = .ok (.getfield 17, 3) := by decide +kernel
theorem dX8_fault_20 : decode cX8_fault 20 = .ok (.goto 4, 3) := by decide +kernel
theorem dX8_fault_23 : decode cX8_fault 23 = .ok (.iconst (-1), 1) := by decide +kernel
theorem dX8_fault_24 : decode cX8_fault 24 = .ok (.ireturn, 1) := by decide +kernel
theorem dX8_says_0 : decode cX8_says 0 = .ok (.iload_n 1, 1) := by decide +kernel
theorem dX8_says_1 : decode cX8_says 1 = .ok (.i2l, 1) := by decide +kernel
theorem dX8_says_2 : decode cX8_says 2 = .ok (.lconst 0, 1) := by decide +kernel
theorem dX8_says_3 : decode cX8_says 3 = .ok (.ldc2_w 218, 3) := by decide +kernel
theorem dX8_says_6 : decode cX8_says 6 = .ok (.invokestatic 118, 3) := by decide +kernel
theorem dX8_says_9 : decode cX8_says 9 = .ok (.ifCond .eq 12, 3) := by decide +kernel
theorem dX8_says_12 : decode cX8_says 12 = .ok (.aload_n 0, 1) := by decide +kernel
theorem dX8_says_13 : decode cX8_says 13 = .ok (.getfield 28, 3) := by decide +kernel
theorem dX8_says_16 : decode cX8_says 16 = .ok (.iload_n 1, 1) := by decide +kernel
theorem dX8_says_17 : decode cX8_says 17 = .ok (.iaload, 1) := by decide +kernel
theorem dX8_says_18 : decode cX8_says 18 = .ok (.goto 4, 3) := by decide +kernel
theorem dX8_says_21 : decode cX8_says 21 = .ok (.iconst (-1), 1) := by decide +kernel
theorem dX8_says_22 : decode cX8_says 22 = .ok (.ireturn, 1) := by decide +kernel
theorem dX8_about_0 : decode cX8_about 0 = .ok (.iload_n 1, 1) := by decide +kernel
theorem dX8_about_1 : decode cX8_about 1 = .ok (.tableswitch 69 0 5 #[39, 44, 49, 54, 59, 64], 39) := by decide +kernel
theorem dX8_about_40 : decode cX8_about 40 = .ok (.aload_n 0, 1) := by decide +kernel
theorem dX8_about_41 : decode cX8_about 41 = .ok (.getfield 115, 3) := by decide +kernel
theorem dX8_about_44 : decode cX8_about 44 = .ok (.ireturn, 1) := by decide +kernel
theorem dX8_about_45 : decode cX8_about 45 = .ok (.aload_n 0, 1) := by decide +kernel
theorem dX8_about_46 : decode cX8_about 46 = .ok (.getfield 122, 3) := by decide +kernel
theorem dX8_about_49 : decode cX8_about 49 = .ok (.ireturn, 1) := by decide +kernel
theorem dX8_about_50 : decode cX8_about 50 = .ok (.aload_n 0, 1) := by decide +kernel
theorem dX8_about_51 : decode cX8_about 51 = .ok (.getfield 223, 3) := by decide +kernel
theorem dX8_about_54 : decode cX8_about 54 = .ok (.ireturn, 1) := by decide +kernel
theorem dX8_about_55 : decode cX8_about 55 = .ok (.aload_n 0, 1) := by decide +kernel
theorem dX8_about_56 : decode cX8_about 56 = .ok (.getfield 230, 3) := by decide +kernel
theorem dX8_about_59 : decode cX8_about 59 = .ok (.ireturn, 1) := by decide +kernel
theorem dX8_about_60 : decode cX8_about 60 = .ok (.aload_n 0, 1) := by decide +kernel
theorem dX8_about_61 : decode cX8_about 61 = .ok (.getfield 254, 3) := by decide +kernel
theorem dX8_about_64 : decode cX8_about 64 = .ok (.ireturn, 1) := by decide +kernel
theorem dX8_about_65 : decode cX8_about 65 = .ok (.aload_n 0, 1) := by decide +kernel
theorem dX8_about_66 : decode cX8_about 66 = .ok (.getfield 141, 3) := by decide +kernel
theorem dX8_about_69 : decode cX8_about 69 = .ok (.ireturn, 1) := by decide +kernel
theorem dX8_about_70 : decode cX8_about 70 = .ok (.iload_n 1, 1) := by decide +kernel
theorem dX8_about_71 : decode cX8_about 71 = .ok (.i2l, 1) := by decide +kernel
theorem dX8_about_72 : decode cX8_about 72 = .ok (.ldc2_w 311, 3) := by decide +kernel
theorem dX8_about_75 : decode cX8_about 75 = .ok (.ldc2_w 313, 3) := by decide +kernel
theorem dX8_about_78 : decode cX8_about 78 = .ok (.invokestatic 118, 3) := by decide +kernel
theorem dX8_about_81 : decode cX8_about 81 = .ok (.ifCond .eq 15, 3) := by decide +kernel
theorem dX8_about_84 : decode cX8_about 84 = .ok (.aload_n 0, 1) := by decide +kernel
theorem dX8_about_85 : decode cX8_about 85 = .ok (.getfield 55, 3) := by decide +kernel
theorem dX8_about_88 : decode cX8_about 88 = .ok (.iload_n 1, 1) := by decide +kernel
theorem dX8_about_89 : decode cX8_about 89 = .ok (.bipush 20, 2) := by decide +kernel
theorem dX8_about_91 : decode cX8_about 91 = .ok (.isub, 1) := by decide +kernel
theorem dX8_about_92 : decode cX8_about 92 = .ok (.iaload, 1) := by decide +kernel
theorem dX8_about_93 : decode cX8_about 93 = .ok (.goto 4, 3) := by decide +kernel
theorem dX8_about_96 : decode cX8_about 96 = .ok (.iconst (-1), 1) := by decide +kernel
theorem dX8_about_97 : decode cX8_about 97 = .ok (.ireturn, 1) := by decide +kernel
set_option maxHeartbeats 4000000 in
set_option maxRecDepth 100000 in
theorem m_put (l : Launch) (dC : Nat → ClassId) (dI : Nat → Nat → Nat) (b : Nat → Nat) (gg : Nat → Int32) (mt : Nat) (mc : Nat) (mh : Nat) (mf : Nat) (md : Nat) (cB : ClassId) (ta : Nat → Int32) (p0 : Int32) (sz : Nat) (ht : mt ≤ 196) : Met l yX8_put (zz_w yX8_put cX8_put 2 none) ({ frames := 0, cells := 0, slots := 0, locals := 0 }) (va_Pc [.ref (b 0), .int p0] (zz_B (dC, dI) sz [(b 0, .inr (8, [.ref (b 1), .int (nI mt), .int (gg 2), .int (gg 3), .int (gg 4), .int (gg 5), .int (gg 6), .int (gg 7), .int (gg 8), .int (gg 9), .ref (b 11), .ref (b 12), .ref (b 13), .int (nI mc), .int (nI mh), .ref (b 16), .ref (b 17), .ref (b 18), .ref (b 19), .ref (b 20), .ref (b 21), .ref (b 22), .ref (b 23), .ref (b 24), .int (nI mf), .ref (b 26), .ref (b 27), .ref (b 28), .ref (b 29), .ref (b 30), .ref (b 31), .ref (b 32), .int (gg 32), .int (nI md), .ref (b 35), .ref (b 36), .ref (b 37), .ref (b 38), .ref (b 39), .ref (b 40), .int (gg 40), .ref (b 42), .ref (b 43), .ref (b 44), .int (gg 44), .ref (b 46), .ref (b 47), .int (gg 47), .ref (b 49)])), (b 1, .inl (cB, 200, .inl ta))] [(cB, .byte)])) (va_Qv (fun (u : Nat × (Nat → Int32)) => match u with | (t2, _) => t2 = mt + 4) (fun (u : Nat × (Nat → Int32)) (t : State) => match u with | (u0, u1) => va_P (dC, dI) vwCl [(b 0, .inr (8, [.ref (b 1), .int (nI u0), .int (gg 2), .int (gg 3), .int (gg 4), .int (gg 5), .int (gg 6), .int (gg 7), .int (gg 8), .int (gg 9), .ref (b 11), .ref (b 12), .ref (b 13), .int (nI mc), .int (nI mh), .ref (b 16), .ref (b 17), .ref (b 18), .ref (b 19), .ref (b 20), .ref (b 21), .ref (b 22), .ref (b 23), .ref (b 24), .int (nI mf), .ref (b 26), .ref (b 27), .ref (b 28), .ref (b 29), .ref (b 30), .ref (b 31), .ref (b 32), .int (gg 32), .int (nI md), .ref (b 35), .ref (b 36), .ref (b 37), .ref (b 38), .ref (b 39), .ref (b 40), .int (gg 40), .ref (b 42), .ref (b 43), .ref (b 44), .int (gg 44), .ref (b 46), .ref (b 47), .int (gg 47), .ref (b 49)])), (b 1, .inl (cB, 200, .inl u1))] t.heap ∧ va_K (dC, dI) vwCl [(cB, .byte)] t ∧ va_D (va_A [(b 0, .inr (8, [.ref (b 1), .int (nI mt), .int (gg 2), .int (gg 3), .int (gg 4), .int (gg 5), .int (gg 6), .int (gg 7), .int (gg 8), .int (gg 9), .ref (b 11), .ref (b 12), .ref (b 13), .int (nI mc), .int (nI mh), .ref (b 16), .ref (b 17), .ref (b 18), .ref (b 19), .ref (b 20), .ref (b 21), .ref (b 22), .ref (b 23), .ref (b 24), .int (nI mf), .ref (b 26), .ref (b 27), .ref (b 28), .ref (b 29), .ref (b 30), .ref (b 31), .ref (b 32), .int (gg 32), .int (nI md), .ref (b 35), .ref (b 36), .ref (b 37), .ref (b 38), .ref (b 39), .ref (b 40), .int (gg 40), .ref (b 42), .ref (b 43), .ref (b 44), .int (gg 44), .ref (b 46), .ref (b 47), .int (gg 47), .ref (b 49)])), (b 1, .inl (cB, 200, .inl ta))] sz) [(b 0, .inr (8, [.ref (b 1), .int (nI u0), .int (gg 2), .int (gg 3), .int (gg 4), .int (gg 5), .int (gg 6), .int (gg 7), .int (gg 8), .int (gg 9), .ref (b 11), .ref (b 12), .ref (b 13), .int (nI mc), .int (nI mh), .ref (b 16), .ref (b 17), .ref (b 18), .ref (b 19), .ref (b 20), .ref (b 21), .ref (b 22), .ref (b 23), .ref (b 24), .int (nI mf), .ref (b 26), .ref (b 27), .ref (b 28), .ref (b 29), .ref (b 30), .ref (b 31), .ref (b 32), .int (gg 32), .int (nI md), .ref (b 35), .ref (b 36), .ref (b 37), .ref (b 38), .ref (b 39), .ref (b 40), .int (gg 40), .ref (b 42), .ref (b 43), .ref (b 44), .int (gg 44), .ref (b 46), .ref (b 47), .int (gg 47), .ref (b 49)])), (b 1, .inl (cB, 200, .inl u1))]) (va_A [(b 0, .inr (8, [.ref (b 1), .int (nI mt), .int (gg 2), .int (gg 3), .int (gg 4), .int (gg 5), .int (gg 6), .int (gg 7), .int (gg 8), .int (gg 9), .ref (b 11), .ref (b 12), .ref (b 13), .int (nI mc), .int (nI mh), .ref (b 16), .ref (b 17), .ref (b 18), .ref (b 19), .ref (b 20), .ref (b 21), .ref (b 22), .ref (b 23), .ref (b 24), .int (nI mf), .ref (b 26), .ref (b 27), .ref (b 28), .ref (b 29), .ref (b 30), .ref (b 31), .ref (b 32), .int (gg 32), .int (nI md), .ref (b 35), .ref (b 36), .ref (b 37), .ref (b 38), .ref (b 39), .ref (b 40), .int (gg 40), .ref (b 42), .ref (b 43), .ref (b 44), .int (gg 44), .ref (b 46), .ref (b 47), .int (gg 47), .ref (b 49)])), (b 1, .inl (cB, 200, .inl ta))] sz)) 0 0 (va_A [(b 0, .inr (8, [.ref (b 1), .int (nI mt), .int (gg 2), .int (gg 3), .int (gg 4), .int (gg 5), .int (gg 6), .int (gg 7), .int (gg 8), .int (gg 9), .ref (b 11), .ref (b 12), .ref (b 13), .int (nI mc), .int (nI mh), .ref (b 16), .ref (b 17), .ref (b 18), .ref (b 19), .ref (b 20), .ref (b 21), .ref (b 22), .ref (b 23), .ref (b 24), .int (nI mf), .ref (b 26), .ref (b 27), .ref (b 28), .ref (b 29), .ref (b 30), .ref (b 31), .ref (b 32), .int (gg 32), .int (nI md), .ref (b 35), .ref (b 36), .ref (b 37), .ref (b 38), .ref (b 39), .ref (b 40), .int (gg 40), .ref (b 42), .ref (b 43), .ref (b 44), .int (gg 44), .ref (b 46), .ref (b 47), .int (gg 47), .ref (b 49)])), (b 1, .inl (cB, 200, .inl ta))] sz) := by
  refine Met.ofW (cc := cX8_put) (maxL := 2) (ret := none) (by decide) rfl ?_
  intro p e s m args below meth c s₁ B hml hv
  obtain ⟨rfl, hsz, hP, hK, hD0, hN⟩ := hv
  have hx := B.exec
  have hb := B.bytes
  have hr := B.returns
  have hts := atoms_spec (ws := zz_w yX8_put cX8_put 2 none) B.pre
  have hw : ∀ w ∈ zz_all, w.before _ s = true := fun w h => hts w (List.mem_cons_of_mem _ h)
  have hown : s.vm.findClass RX8 = some m.cls := findClass_of_methodNamed B.named
  have hlocks := B.notSynchronized
  subst hsz
  have hD := hD0.self (sz := s.heap.size)
  generalize hAe : va_A [(b 0, .inr (8, [.ref (b 1), .int (nI mt), .int (gg 2), .int (gg 3), .int (gg 4), .int (gg 5), .int (gg 6), .int (gg 7), .int (gg 8), .int (gg 9), .ref (b 11), .ref (b 12), .ref (b 13), .int (nI mc), .int (nI mh), .ref (b 16), .ref (b 17), .ref (b 18), .ref (b 19), .ref (b 20), .ref (b 21), .ref (b 22), .ref (b 23), .ref (b 24), .int (nI mf), .ref (b 26), .ref (b 27), .ref (b 28), .ref (b 29), .ref (b 30), .ref (b 31), .ref (b 32), .int (gg 32), .int (nI md), .ref (b 35), .ref (b 36), .ref (b 37), .ref (b 38), .ref (b 39), .ref (b 40), .int (gg 40), .ref (b 42), .ref (b 43), .ref (b 44), .int (gg 44), .ref (b 46), .ref (b 47), .int (gg 47), .ref (b 49)])), (b 1, .inl (cB, 200, .inl ta))] s.heap.size = A at hD ⊢
  have hA : ∀ q : Nat, s.heap.size ≤ q → A q := fun q h => by rw [← hAe]; exact Or.inr h
  have hS : va_S A s.heap s.heap [] := va_S.rf
  have hP : va_P (dC, dI) vwCl [(b 0, .inr (8, [.ref (b 1), .int (nI mt), .int (gg 2), .int (gg 3), .int (gg 4), .int (gg 5), .int (gg 6), .int (gg 7), .int (gg 8), .int (gg 9), .ref (b 11), .ref (b 12), .ref (b 13), .int (nI mc), .int (nI mh), .ref (b 16), .ref (b 17), .ref (b 18), .ref (b 19), .ref (b 20), .ref (b 21), .ref (b 22), .ref (b 23), .ref (b 24), .int (nI mf), .ref (b 26), .ref (b 27), .ref (b 28), .ref (b 29), .ref (b 30), .ref (b 31), .ref (b 32), .int (gg 32), .int (nI md), .ref (b 35), .ref (b 36), .ref (b 37), .ref (b 38), .ref (b 39), .ref (b 40), .int (gg 40), .ref (b 42), .ref (b 43), .ref (b 44), .int (gg 44), .ref (b 46), .ref (b 47), .int (gg 47), .ref (b 49)])), (b 1, .inl (cB, 200, .inl ta))] s.heap := hP
  have hl := lv_entry ([.ref (b 0), .int p0]) (n := 2) (Nat.le_of_ble_eq_true rfl)
  rw [lg_entry_eq]
  generalize (lg_sl ([.ref (b 0), .int p0]) ++ List.replicate (2 - (lg_sl ([.ref (b 0), .int p0])).length) Slot.unset).toArray = ls at hl ⊢
  have hl : lv_has ls 2 [(0, .ref (b 0)), (1, .int p0)] := hl
  refine lv_aload_n hx hb dX8_put_0 rfl (lv_at hl 0 rfl) ?_
  refine va_get (D := (dC, dI)) (ci := 8) (v := .ref (b 1)) (C := RX8) (T := TX8) (N := 49) hx hb hw zz_inX8 hown hK hP 0 rfl rfl 0 (by decide) (hw _ tw_191) (fun _ h9 => h9) rfl dX8_put_1 ?_
  refine lv_aload_n hx hb dX8_put_4 rfl (lv_at hl 0 rfl) ?_
  refine va_get (D := (dC, dI)) (ci := 8) (v := .int (nI mt)) (C := RX8) (T := TX8) (N := 49) hx hb hw zz_inX8 hown hK hP 0 rfl rfl 1 (by decide) (hw _ tw_192) (fun _ h9 => h9) rfl dX8_put_5 ?_
  refine lv_iload_n hx hb dX8_put_8 rfl (lv_at hl 1 rfl) ?_
  refine lv_bipush (v := 24) hx hb dX8_put_9 (by decide) ?_
  refine lv_ishr hx hb dX8_put_11 ?_
  refine lv_i2b (v := (Int8.toInt32 (Int32.toInt8 (p0 >>> (24 &&& 31))))) hx hb dX8_put_12 rfl ?_
  refine va_bast hx hb hK hP hD hS 1 0 rfl rfl (vp_in_iff.mpr (by rw [zz_toInt mt (by omega)]; constructor <;> omega)) dX8_put_13 (fun H locs hP hD hS => ?_)
  have hP : va_P (dC, dI) vwCl [(b 0, .inr (8, [.ref (b 1), .int (nI mt), .int (gg 2), .int (gg 3), .int (gg 4), .int (gg 5), .int (gg 6), .int (gg 7), .int (gg 8), .int (gg 9), .ref (b 11), .ref (b 12), .ref (b 13), .int (nI mc), .int (nI mh), .ref (b 16), .ref (b 17), .ref (b 18), .ref (b 19), .ref (b 20), .ref (b 21), .ref (b 22), .ref (b 23), .ref (b 24), .int (nI mf), .ref (b 26), .ref (b 27), .ref (b 28), .ref (b 29), .ref (b 30), .ref (b 31), .ref (b 32), .int (gg 32), .int (nI md), .ref (b 35), .ref (b 36), .ref (b 37), .ref (b 38), .ref (b 39), .ref (b 40), .int (gg 40), .ref (b 42), .ref (b 43), .ref (b 44), .int (gg 44), .ref (b 46), .ref (b 47), .int (gg 47), .ref (b 49)])), (b 1, .inl (cB, 200, .inl (upd ta (Int32.toNatClampNeg (nI mt)) (vp_nar .byte (Int8.toInt32 (Int32.toInt8 (p0 >>> (24 &&& 31))))))))] H := hP
  have hD : va_D A [(b 0, .inr (8, [.ref (b 1), .int (nI mt), .int (gg 2), .int (gg 3), .int (gg 4), .int (gg 5), .int (gg 6), .int (gg 7), .int (gg 8), .int (gg 9), .ref (b 11), .ref (b 12), .ref (b 13), .int (nI mc), .int (nI mh), .ref (b 16), .ref (b 17), .ref (b 18), .ref (b 19), .ref (b 20), .ref (b 21), .ref (b 22), .ref (b 23), .ref (b 24), .int (nI mf), .ref (b 26), .ref (b 27), .ref (b 28), .ref (b 29), .ref (b 30), .ref (b 31), .ref (b 32), .int (gg 32), .int (nI md), .ref (b 35), .ref (b 36), .ref (b 37), .ref (b 38), .ref (b 39), .ref (b 40), .int (gg 40), .ref (b 42), .ref (b 43), .ref (b 44), .int (gg 44), .ref (b 46), .ref (b 47), .int (gg 47), .ref (b 49)])), (b 1, .inl (cB, 200, .inl (upd ta (Int32.toNatClampNeg (nI mt)) (vp_nar .byte (Int8.toInt32 (Int32.toInt8 (p0 >>> (24 &&& 31))))))))] := hD
  refine lv_aload_n hx hb dX8_put_14 rfl (lv_at hl 0 rfl) ?_
  refine va_get (D := (dC, dI)) (ci := 8) (v := .ref (b 1)) (C := RX8) (T := TX8) (N := 49) hx hb hw zz_inX8 hown hK hP 0 rfl rfl 0 (by decide) (hw _ tw_191) (fun _ h9 => h9) rfl dX8_put_15 ?_
  refine lv_aload_n hx hb dX8_put_18 rfl (lv_at hl 0 rfl) ?_
  refine va_get (D := (dC, dI)) (ci := 8) (v := .int (nI mt)) (C := RX8) (T := TX8) (N := 49) hx hb hw zz_inX8 hown hK hP 0 rfl rfl 1 (by decide) (hw _ tw_192) (fun _ h9 => h9) rfl dX8_put_19 ?_
  refine lv_iconst (v := 1) hx hb dX8_put_22 (by decide) ?_
  refine lv_iadd hx hb dX8_put_23 ?_
  refine zz_seti (nI (mt + 1)) (nI_1 _) ?_
  refine lv_iload_n hx hb dX8_put_24 rfl (lv_at hl 1 rfl) ?_
  refine lv_bipush (v := 16) hx hb dX8_put_25 (by decide) ?_
  refine lv_ishr hx hb dX8_put_27 ?_
  refine lv_i2b (v := (Int8.toInt32 (Int32.toInt8 (p0 >>> (16 &&& 31))))) hx hb dX8_put_28 rfl ?_
  refine va_bast hx hb hK hP hD hS 1 0 rfl rfl (vp_in_iff.mpr (by rw [zz_toInt (mt + 1) (by omega)]; constructor <;> omega)) dX8_put_29 (fun H locs hP hD hS => ?_)
  have hP : va_P (dC, dI) vwCl [(b 0, .inr (8, [.ref (b 1), .int (nI mt), .int (gg 2), .int (gg 3), .int (gg 4), .int (gg 5), .int (gg 6), .int (gg 7), .int (gg 8), .int (gg 9), .ref (b 11), .ref (b 12), .ref (b 13), .int (nI mc), .int (nI mh), .ref (b 16), .ref (b 17), .ref (b 18), .ref (b 19), .ref (b 20), .ref (b 21), .ref (b 22), .ref (b 23), .ref (b 24), .int (nI mf), .ref (b 26), .ref (b 27), .ref (b 28), .ref (b 29), .ref (b 30), .ref (b 31), .ref (b 32), .int (gg 32), .int (nI md), .ref (b 35), .ref (b 36), .ref (b 37), .ref (b 38), .ref (b 39), .ref (b 40), .int (gg 40), .ref (b 42), .ref (b 43), .ref (b 44), .int (gg 44), .ref (b 46), .ref (b 47), .int (gg 47), .ref (b 49)])), (b 1, .inl (cB, 200, .inl (upd (upd ta (Int32.toNatClampNeg (nI mt)) (vp_nar .byte (Int8.toInt32 (Int32.toInt8 (p0 >>> (24 &&& 31)))))) (Int32.toNatClampNeg (nI (mt + 1))) (vp_nar .byte (Int8.toInt32 (Int32.toInt8 (p0 >>> (16 &&& 31))))))))] H := hP
  have hD : va_D A [(b 0, .inr (8, [.ref (b 1), .int (nI mt), .int (gg 2), .int (gg 3), .int (gg 4), .int (gg 5), .int (gg 6), .int (gg 7), .int (gg 8), .int (gg 9), .ref (b 11), .ref (b 12), .ref (b 13), .int (nI mc), .int (nI mh), .ref (b 16), .ref (b 17), .ref (b 18), .ref (b 19), .ref (b 20), .ref (b 21), .ref (b 22), .ref (b 23), .ref (b 24), .int (nI mf), .ref (b 26), .ref (b 27), .ref (b 28), .ref (b 29), .ref (b 30), .ref (b 31), .ref (b 32), .int (gg 32), .int (nI md), .ref (b 35), .ref (b 36), .ref (b 37), .ref (b 38), .ref (b 39), .ref (b 40), .int (gg 40), .ref (b 42), .ref (b 43), .ref (b 44), .int (gg 44), .ref (b 46), .ref (b 47), .int (gg 47), .ref (b 49)])), (b 1, .inl (cB, 200, .inl (upd (upd ta (Int32.toNatClampNeg (nI mt)) (vp_nar .byte (Int8.toInt32 (Int32.toInt8 (p0 >>> (24 &&& 31)))))) (Int32.toNatClampNeg (nI (mt + 1))) (vp_nar .byte (Int8.toInt32 (Int32.toInt8 (p0 >>> (16 &&& 31))))))))] := hD
  refine lv_aload_n hx hb dX8_put_30 rfl (lv_at hl 0 rfl) ?_
  refine va_get (D := (dC, dI)) (ci := 8) (v := .ref (b 1)) (C := RX8) (T := TX8) (N := 49) hx hb hw zz_inX8 hown hK hP 0 rfl rfl 0 (by decide) (hw _ tw_191) (fun _ h9 => h9) rfl dX8_put_31 ?_
  refine lv_aload_n hx hb dX8_put_34 rfl (lv_at hl 0 rfl) ?_
  refine va_get (D := (dC, dI)) (ci := 8) (v := .int (nI mt)) (C := RX8) (T := TX8) (N := 49) hx hb hw zz_inX8 hown hK hP 0 rfl rfl 1 (by decide) (hw _ tw_192) (fun _ h9 => h9) rfl dX8_put_35 ?_
  refine lv_iconst (v := 2) hx hb dX8_put_38 (by decide) ?_
  refine lv_iadd hx hb dX8_put_39 ?_
  refine zz_seti (nI (mt + 2)) (nI_add _ 2) ?_
  refine lv_iload_n hx hb dX8_put_40 rfl (lv_at hl 1 rfl) ?_
  refine lv_bipush (v := 8) hx hb dX8_put_41 (by decide) ?_
  refine lv_ishr hx hb dX8_put_43 ?_
  refine lv_i2b (v := (Int8.toInt32 (Int32.toInt8 (p0 >>> (8 &&& 31))))) hx hb dX8_put_44 rfl ?_
  refine va_bast hx hb hK hP hD hS 1 0 rfl rfl (vp_in_iff.mpr (by rw [zz_toInt (mt + 2) (by omega)]; constructor <;> omega)) dX8_put_45 (fun H locs hP hD hS => ?_)
  have hP : va_P (dC, dI) vwCl [(b 0, .inr (8, [.ref (b 1), .int (nI mt), .int (gg 2), .int (gg 3), .int (gg 4), .int (gg 5), .int (gg 6), .int (gg 7), .int (gg 8), .int (gg 9), .ref (b 11), .ref (b 12), .ref (b 13), .int (nI mc), .int (nI mh), .ref (b 16), .ref (b 17), .ref (b 18), .ref (b 19), .ref (b 20), .ref (b 21), .ref (b 22), .ref (b 23), .ref (b 24), .int (nI mf), .ref (b 26), .ref (b 27), .ref (b 28), .ref (b 29), .ref (b 30), .ref (b 31), .ref (b 32), .int (gg 32), .int (nI md), .ref (b 35), .ref (b 36), .ref (b 37), .ref (b 38), .ref (b 39), .ref (b 40), .int (gg 40), .ref (b 42), .ref (b 43), .ref (b 44), .int (gg 44), .ref (b 46), .ref (b 47), .int (gg 47), .ref (b 49)])), (b 1, .inl (cB, 200, .inl (upd (upd (upd ta (Int32.toNatClampNeg (nI mt)) (vp_nar .byte (Int8.toInt32 (Int32.toInt8 (p0 >>> (24 &&& 31)))))) (Int32.toNatClampNeg (nI (mt + 1))) (vp_nar .byte (Int8.toInt32 (Int32.toInt8 (p0 >>> (16 &&& 31)))))) (Int32.toNatClampNeg (nI (mt + 2))) (vp_nar .byte (Int8.toInt32 (Int32.toInt8 (p0 >>> (8 &&& 31))))))))] H := hP
  have hD : va_D A [(b 0, .inr (8, [.ref (b 1), .int (nI mt), .int (gg 2), .int (gg 3), .int (gg 4), .int (gg 5), .int (gg 6), .int (gg 7), .int (gg 8), .int (gg 9), .ref (b 11), .ref (b 12), .ref (b 13), .int (nI mc), .int (nI mh), .ref (b 16), .ref (b 17), .ref (b 18), .ref (b 19), .ref (b 20), .ref (b 21), .ref (b 22), .ref (b 23), .ref (b 24), .int (nI mf), .ref (b 26), .ref (b 27), .ref (b 28), .ref (b 29), .ref (b 30), .ref (b 31), .ref (b 32), .int (gg 32), .int (nI md), .ref (b 35), .ref (b 36), .ref (b 37), .ref (b 38), .ref (b 39), .ref (b 40), .int (gg 40), .ref (b 42), .ref (b 43), .ref (b 44), .int (gg 44), .ref (b 46), .ref (b 47), .int (gg 47), .ref (b 49)])), (b 1, .inl (cB, 200, .inl (upd (upd (upd ta (Int32.toNatClampNeg (nI mt)) (vp_nar .byte (Int8.toInt32 (Int32.toInt8 (p0 >>> (24 &&& 31)))))) (Int32.toNatClampNeg (nI (mt + 1))) (vp_nar .byte (Int8.toInt32 (Int32.toInt8 (p0 >>> (16 &&& 31)))))) (Int32.toNatClampNeg (nI (mt + 2))) (vp_nar .byte (Int8.toInt32 (Int32.toInt8 (p0 >>> (8 &&& 31))))))))] := hD
  refine lv_aload_n hx hb dX8_put_46 rfl (lv_at hl 0 rfl) ?_
  refine va_get (D := (dC, dI)) (ci := 8) (v := .ref (b 1)) (C := RX8) (T := TX8) (N := 49) hx hb hw zz_inX8 hown hK hP 0 rfl rfl 0 (by decide) (hw _ tw_191) (fun _ h9 => h9) rfl dX8_put_47 ?_
  refine lv_aload_n hx hb dX8_put_50 rfl (lv_at hl 0 rfl) ?_
  refine va_get (D := (dC, dI)) (ci := 8) (v := .int (nI mt)) (C := RX8) (T := TX8) (N := 49) hx hb hw zz_inX8 hown hK hP 0 rfl rfl 1 (by decide) (hw _ tw_192) (fun _ h9 => h9) rfl dX8_put_51 ?_
  refine lv_iconst (v := 3) hx hb dX8_put_54 (by decide) ?_
  refine lv_iadd hx hb dX8_put_55 ?_
  refine zz_seti (nI (mt + 3)) (nI_add _ 3) ?_
  refine lv_iload_n hx hb dX8_put_56 rfl (lv_at hl 1 rfl) ?_
  refine lv_i2b (v := (Int8.toInt32 (Int32.toInt8 p0))) hx hb dX8_put_57 rfl ?_
  refine va_bast hx hb hK hP hD hS 1 0 rfl rfl (vp_in_iff.mpr (by rw [zz_toInt (mt + 3) (by omega)]; constructor <;> omega)) dX8_put_58 (fun H locs hP hD hS => ?_)
  have hP : va_P (dC, dI) vwCl [(b 0, .inr (8, [.ref (b 1), .int (nI mt), .int (gg 2), .int (gg 3), .int (gg 4), .int (gg 5), .int (gg 6), .int (gg 7), .int (gg 8), .int (gg 9), .ref (b 11), .ref (b 12), .ref (b 13), .int (nI mc), .int (nI mh), .ref (b 16), .ref (b 17), .ref (b 18), .ref (b 19), .ref (b 20), .ref (b 21), .ref (b 22), .ref (b 23), .ref (b 24), .int (nI mf), .ref (b 26), .ref (b 27), .ref (b 28), .ref (b 29), .ref (b 30), .ref (b 31), .ref (b 32), .int (gg 32), .int (nI md), .ref (b 35), .ref (b 36), .ref (b 37), .ref (b 38), .ref (b 39), .ref (b 40), .int (gg 40), .ref (b 42), .ref (b 43), .ref (b 44), .int (gg 44), .ref (b 46), .ref (b 47), .int (gg 47), .ref (b 49)])), (b 1, .inl (cB, 200, .inl (upd (upd (upd (upd ta (Int32.toNatClampNeg (nI mt)) (vp_nar .byte (Int8.toInt32 (Int32.toInt8 (p0 >>> (24 &&& 31)))))) (Int32.toNatClampNeg (nI (mt + 1))) (vp_nar .byte (Int8.toInt32 (Int32.toInt8 (p0 >>> (16 &&& 31)))))) (Int32.toNatClampNeg (nI (mt + 2))) (vp_nar .byte (Int8.toInt32 (Int32.toInt8 (p0 >>> (8 &&& 31)))))) (Int32.toNatClampNeg (nI (mt + 3))) (vp_nar .byte (Int8.toInt32 (Int32.toInt8 p0))))))] H := hP
  have hD : va_D A [(b 0, .inr (8, [.ref (b 1), .int (nI mt), .int (gg 2), .int (gg 3), .int (gg 4), .int (gg 5), .int (gg 6), .int (gg 7), .int (gg 8), .int (gg 9), .ref (b 11), .ref (b 12), .ref (b 13), .int (nI mc), .int (nI mh), .ref (b 16), .ref (b 17), .ref (b 18), .ref (b 19), .ref (b 20), .ref (b 21), .ref (b 22), .ref (b 23), .ref (b 24), .int (nI mf), .ref (b 26), .ref (b 27), .ref (b 28), .ref (b 29), .ref (b 30), .ref (b 31), .ref (b 32), .int (gg 32), .int (nI md), .ref (b 35), .ref (b 36), .ref (b 37), .ref (b 38), .ref (b 39), .ref (b 40), .int (gg 40), .ref (b 42), .ref (b 43), .ref (b 44), .int (gg 44), .ref (b 46), .ref (b 47), .int (gg 47), .ref (b 49)])), (b 1, .inl (cB, 200, .inl (upd (upd (upd (upd ta (Int32.toNatClampNeg (nI mt)) (vp_nar .byte (Int8.toInt32 (Int32.toInt8 (p0 >>> (24 &&& 31)))))) (Int32.toNatClampNeg (nI (mt + 1))) (vp_nar .byte (Int8.toInt32 (Int32.toInt8 (p0 >>> (16 &&& 31)))))) (Int32.toNatClampNeg (nI (mt + 2))) (vp_nar .byte (Int8.toInt32 (Int32.toInt8 (p0 >>> (8 &&& 31)))))) (Int32.toNatClampNeg (nI (mt + 3))) (vp_nar .byte (Int8.toInt32 (Int32.toInt8 p0))))))] := hD
  refine lv_aload_n hx hb dX8_put_59 rfl (lv_at hl 0 rfl) ?_
  refine lv_dup hx hb dX8_put_60 rfl ?_
  refine va_get (D := (dC, dI)) (ci := 8) (v := .int (nI mt)) (C := RX8) (T := TX8) (N := 49) hx hb hw zz_inX8 hown hK hP 0 rfl rfl 1 (by decide) (hw _ tw_192) (fun _ h9 => h9) rfl dX8_put_61 ?_
  refine lv_iconst (v := 4) hx hb dX8_put_64 (by decide) ?_
  refine lv_iadd hx hb dX8_put_65 ?_
  refine zz_seti (nI (mt + 4)) (nI_add _ 4) ?_
  refine va_put (D := (dC, dI)) (ci := 8) (v := .int (nI (mt + 4))) (ty := .int) (C := RX8) (T := TX8) (N := 49) hx hb hw zz_inX8 tyX8 tyX8_ok nmX8 hown hK hP hD hS 0 rfl rfl 1 (by decide) (hw _ tw_192) (fun _ h9 => h9) rfl (by decide +kernel) rfl rfl (Nat.le_of_ble_eq_true rfl) dX8_put_66 (fun H locs hP hD hS => ?_)
  have hP : va_P (dC, dI) vwCl [(b 0, .inr (8, [.ref (b 1), .int (nI (mt + 4)), .int (gg 2), .int (gg 3), .int (gg 4), .int (gg 5), .int (gg 6), .int (gg 7), .int (gg 8), .int (gg 9), .ref (b 11), .ref (b 12), .ref (b 13), .int (nI mc), .int (nI mh), .ref (b 16), .ref (b 17), .ref (b 18), .ref (b 19), .ref (b 20), .ref (b 21), .ref (b 22), .ref (b 23), .ref (b 24), .int (nI mf), .ref (b 26), .ref (b 27), .ref (b 28), .ref (b 29), .ref (b 30), .ref (b 31), .ref (b 32), .int (gg 32), .int (nI md), .ref (b 35), .ref (b 36), .ref (b 37), .ref (b 38), .ref (b 39), .ref (b 40), .int (gg 40), .ref (b 42), .ref (b 43), .ref (b 44), .int (gg 44), .ref (b 46), .ref (b 47), .int (gg 47), .ref (b 49)])), (b 1, .inl (cB, 200, .inl (upd (upd (upd (upd ta (Int32.toNatClampNeg (nI mt)) (vp_nar .byte (Int8.toInt32 (Int32.toInt8 (p0 >>> (24 &&& 31)))))) (Int32.toNatClampNeg (nI (mt + 1))) (vp_nar .byte (Int8.toInt32 (Int32.toInt8 (p0 >>> (16 &&& 31)))))) (Int32.toNatClampNeg (nI (mt + 2))) (vp_nar .byte (Int8.toInt32 (Int32.toInt8 (p0 >>> (8 &&& 31)))))) (Int32.toNatClampNeg (nI (mt + 3))) (vp_nar .byte (Int8.toInt32 (Int32.toInt8 p0))))))] H := hP
  have hD : va_D A [(b 0, .inr (8, [.ref (b 1), .int (nI (mt + 4)), .int (gg 2), .int (gg 3), .int (gg 4), .int (gg 5), .int (gg 6), .int (gg 7), .int (gg 8), .int (gg 9), .ref (b 11), .ref (b 12), .ref (b 13), .int (nI mc), .int (nI mh), .ref (b 16), .ref (b 17), .ref (b 18), .ref (b 19), .ref (b 20), .ref (b 21), .ref (b 22), .ref (b 23), .ref (b 24), .int (nI mf), .ref (b 26), .ref (b 27), .ref (b 28), .ref (b 29), .ref (b 30), .ref (b 31), .ref (b 32), .int (gg 32), .int (nI md), .ref (b 35), .ref (b 36), .ref (b 37), .ref (b 38), .ref (b 39), .ref (b 40), .int (gg 40), .ref (b 42), .ref (b 43), .ref (b 44), .int (gg 44), .ref (b 46), .ref (b 47), .int (gg 47), .ref (b 49)])), (b 1, .inl (cB, 200, .inl (upd (upd (upd (upd ta (Int32.toNatClampNeg (nI mt)) (vp_nar .byte (Int8.toInt32 (Int32.toInt8 (p0 >>> (24 &&& 31)))))) (Int32.toNatClampNeg (nI (mt + 1))) (vp_nar .byte (Int8.toInt32 (Int32.toInt8 (p0 >>> (16 &&& 31)))))) (Int32.toNatClampNeg (nI (mt + 2))) (vp_nar .byte (Int8.toInt32 (Int32.toInt8 (p0 >>> (8 &&& 31)))))) (Int32.toNatClampNeg (nI (mt + 3))) (vp_nar .byte (Int8.toInt32 (Int32.toInt8 p0))))))] := hD
  have hP9 := hP.sub (ws' := [(b 0, .inr (8, [.ref (b 1), .int (nI (mt + 4)), .int (gg 2), .int (gg 3), .int (gg 4), .int (gg 5), .int (gg 6), .int (gg 7), .int (gg 8), .int (gg 9), .ref (b 11), .ref (b 12), .ref (b 13), .int (nI mc), .int (nI mh), .ref (b 16), .ref (b 17), .ref (b 18), .ref (b 19), .ref (b 20), .ref (b 21), .ref (b 22), .ref (b 23), .ref (b 24), .int (nI mf), .ref (b 26), .ref (b 27), .ref (b 28), .ref (b 29), .ref (b 30), .ref (b 31), .ref (b 32), .int (gg 32), .int (nI md), .ref (b 35), .ref (b 36), .ref (b 37), .ref (b 38), .ref (b 39), .ref (b 40), .int (gg 40), .ref (b 42), .ref (b 43), .ref (b 44), .int (gg 44), .ref (b 46), .ref (b 47), .int (gg 47), .ref (b 49)])), (b 1, .inl (cB, 200, .inl (upd (upd (upd (upd ta (Int32.toNatClampNeg (nI mt)) (vp_nar .byte (Int8.toInt32 (Int32.toInt8 (p0 >>> (24 &&& 31)))))) (Int32.toNatClampNeg (nI (mt + 1))) (vp_nar .byte (Int8.toInt32 (Int32.toInt8 (p0 >>> (16 &&& 31)))))) (Int32.toNatClampNeg (nI (mt + 2))) (vp_nar .byte (Int8.toInt32 (Int32.toInt8 (p0 >>> (8 &&& 31)))))) (Int32.toNatClampNeg (nI (mt + 3))) (vp_nar .byte (Int8.toInt32 (Int32.toInt8 p0))))))]) [0, 1] rfl
  have hD9 := hD.sub (ws' := [(b 0, .inr (8, [.ref (b 1), .int (nI (mt + 4)), .int (gg 2), .int (gg 3), .int (gg 4), .int (gg 5), .int (gg 6), .int (gg 7), .int (gg 8), .int (gg 9), .ref (b 11), .ref (b 12), .ref (b 13), .int (nI mc), .int (nI mh), .ref (b 16), .ref (b 17), .ref (b 18), .ref (b 19), .ref (b 20), .ref (b 21), .ref (b 22), .ref (b 23), .ref (b 24), .int (nI mf), .ref (b 26), .ref (b 27), .ref (b 28), .ref (b 29), .ref (b 30), .ref (b 31), .ref (b 32), .int (gg 32), .int (nI md), .ref (b 35), .ref (b 36), .ref (b 37), .ref (b 38), .ref (b 39), .ref (b 40), .int (gg 40), .ref (b 42), .ref (b 43), .ref (b 44), .int (gg 44), .ref (b 46), .ref (b 47), .int (gg 47), .ref (b 49)])), (b 1, .inl (cB, 200, .inl (upd (upd (upd (upd ta (Int32.toNatClampNeg (nI mt)) (vp_nar .byte (Int8.toInt32 (Int32.toInt8 (p0 >>> (24 &&& 31)))))) (Int32.toNatClampNeg (nI (mt + 1))) (vp_nar .byte (Int8.toInt32 (Int32.toInt8 (p0 >>> (16 &&& 31)))))) (Int32.toNatClampNeg (nI (mt + 2))) (vp_nar .byte (Int8.toInt32 (Int32.toInt8 (p0 >>> (8 &&& 31)))))) (Int32.toNatClampNeg (nI (mt + 3))) (vp_nar .byte (Int8.toInt32 (Int32.toInt8 p0))))))]) [0, 1] (by decide) rfl
  have hK9 := hK.sub (tys' := [(cB, .byte)]) [0] rfl
  exact W.vret hx hb hr (fun t ht hW => ⟨⟨((mt + 4), (upd (upd (upd (upd ta (Int32.toNatClampNeg (nI mt)) (vp_nar .byte (Int8.toInt32 (Int32.toInt8 (p0 >>> (24 &&& 31)))))) (Int32.toNatClampNeg (nI (mt + 1))) (vp_nar .byte (Int8.toInt32 (Int32.toInt8 (p0 >>> (16 &&& 31)))))) (Int32.toNatClampNeg (nI (mt + 2))) (vp_nar .byte (Int8.toInt32 (Int32.toInt8 (p0 >>> (8 &&& 31)))))) (Int32.toNatClampNeg (nI (mt + 3))) (vp_nar .byte (Int8.toInt32 (Int32.toInt8 p0))))), rfl, (by show _ = _; omega), by rw [ht]; exact hP9, va_K.moved hW.alike hK9, hD9⟩, hS.F ht⟩) hS.2.2 dX8_put_69

set_option maxHeartbeats 4000000 in
set_option maxRecDepth 100000 in
theorem m_feed (l : Launch) (dC : Nat → ClassId) (dI : Nat → Nat → Nat) (b : Nat → Nat) (gg : Nat → Int32) (mt : Nat) (mc : Nat) (mh : Nat) (mf : Nat) (md : Nat) (cB : ClassId) (ta : Nat → Int32) (p0 : Int32) (p1 : Int32) (p2 : Int32) (p3 : Int32) (p4 : Int32) (sz : Nat) (hmt : mt ≤ 200) : Met l yX8_feed (zz_w yX8_feed cX8_feed 6 (some .int)) ({ frames := 1, cells := 0, slots := 0, locals := 21 }) (va_Pc [.ref (b 0), .int p0, .int p1, .int p2, .int p3, .int p4] (zz_B (dC, dI) sz [(b 0, .inr (8, [.ref (b 1), .int (nI mt), .int (gg 2), .int (gg 3), .int (gg 4), .int (gg 5), .int (gg 6), .int (gg 7), .int (gg 8), .int (gg 9), .ref (b 11), .ref (b 12), .ref (b 13), .int (nI mc), .int (nI mh), .ref (b 16), .ref (b 17), .ref (b 18), .ref (b 19), .ref (b 20), .ref (b 21), .ref (b 22), .ref (b 23), .ref (b 24), .int (nI mf), .ref (b 26), .ref (b 27), .ref (b 28), .ref (b 29), .ref (b 30), .ref (b 31), .ref (b 32), .int (gg 32), .int (nI md), .ref (b 35), .ref (b 36), .ref (b 37), .ref (b 38), .ref (b 39), .ref (b 40), .int (gg 40), .ref (b 42), .ref (b 43), .ref (b 44), .int (gg 44), .ref (b 46), .ref (b 47), .int (gg 47), .ref (b 49)])), (b 1, .inl (cB, 200, .inl ta))] [(cB, .byte)])) (va_Qi (fun (r : Int32) (u : Nat × (Nat → Int32)) => match u with | (t2, _) => (mt ≤ 180 ∧ r = nI t2 ∧ t2 = mt + 20) ∨ (¬ mt ≤ 180 ∧ r = -1 ∧ t2 = mt)) (fun (u : Nat × (Nat → Int32)) (t : State) => match u with | (u0, u1) => va_P (dC, dI) vwCl [(b 0, .inr (8, [.ref (b 1), .int (nI u0), .int (gg 2), .int (gg 3), .int (gg 4), .int (gg 5), .int (gg 6), .int (gg 7), .int (gg 8), .int (gg 9), .ref (b 11), .ref (b 12), .ref (b 13), .int (nI mc), .int (nI mh), .ref (b 16), .ref (b 17), .ref (b 18), .ref (b 19), .ref (b 20), .ref (b 21), .ref (b 22), .ref (b 23), .ref (b 24), .int (nI mf), .ref (b 26), .ref (b 27), .ref (b 28), .ref (b 29), .ref (b 30), .ref (b 31), .ref (b 32), .int (gg 32), .int (nI md), .ref (b 35), .ref (b 36), .ref (b 37), .ref (b 38), .ref (b 39), .ref (b 40), .int (gg 40), .ref (b 42), .ref (b 43), .ref (b 44), .int (gg 44), .ref (b 46), .ref (b 47), .int (gg 47), .ref (b 49)])), (b 1, .inl (cB, 200, .inl u1))] t.heap ∧ va_K (dC, dI) vwCl [(cB, .byte)] t ∧ va_D (va_A [(b 0, .inr (8, [.ref (b 1), .int (nI mt), .int (gg 2), .int (gg 3), .int (gg 4), .int (gg 5), .int (gg 6), .int (gg 7), .int (gg 8), .int (gg 9), .ref (b 11), .ref (b 12), .ref (b 13), .int (nI mc), .int (nI mh), .ref (b 16), .ref (b 17), .ref (b 18), .ref (b 19), .ref (b 20), .ref (b 21), .ref (b 22), .ref (b 23), .ref (b 24), .int (nI mf), .ref (b 26), .ref (b 27), .ref (b 28), .ref (b 29), .ref (b 30), .ref (b 31), .ref (b 32), .int (gg 32), .int (nI md), .ref (b 35), .ref (b 36), .ref (b 37), .ref (b 38), .ref (b 39), .ref (b 40), .int (gg 40), .ref (b 42), .ref (b 43), .ref (b 44), .int (gg 44), .ref (b 46), .ref (b 47), .int (gg 47), .ref (b 49)])), (b 1, .inl (cB, 200, .inl ta))] sz) [(b 0, .inr (8, [.ref (b 1), .int (nI u0), .int (gg 2), .int (gg 3), .int (gg 4), .int (gg 5), .int (gg 6), .int (gg 7), .int (gg 8), .int (gg 9), .ref (b 11), .ref (b 12), .ref (b 13), .int (nI mc), .int (nI mh), .ref (b 16), .ref (b 17), .ref (b 18), .ref (b 19), .ref (b 20), .ref (b 21), .ref (b 22), .ref (b 23), .ref (b 24), .int (nI mf), .ref (b 26), .ref (b 27), .ref (b 28), .ref (b 29), .ref (b 30), .ref (b 31), .ref (b 32), .int (gg 32), .int (nI md), .ref (b 35), .ref (b 36), .ref (b 37), .ref (b 38), .ref (b 39), .ref (b 40), .int (gg 40), .ref (b 42), .ref (b 43), .ref (b 44), .int (gg 44), .ref (b 46), .ref (b 47), .int (gg 47), .ref (b 49)])), (b 1, .inl (cB, 200, .inl u1))]) (va_A [(b 0, .inr (8, [.ref (b 1), .int (nI mt), .int (gg 2), .int (gg 3), .int (gg 4), .int (gg 5), .int (gg 6), .int (gg 7), .int (gg 8), .int (gg 9), .ref (b 11), .ref (b 12), .ref (b 13), .int (nI mc), .int (nI mh), .ref (b 16), .ref (b 17), .ref (b 18), .ref (b 19), .ref (b 20), .ref (b 21), .ref (b 22), .ref (b 23), .ref (b 24), .int (nI mf), .ref (b 26), .ref (b 27), .ref (b 28), .ref (b 29), .ref (b 30), .ref (b 31), .ref (b 32), .int (gg 32), .int (nI md), .ref (b 35), .ref (b 36), .ref (b 37), .ref (b 38), .ref (b 39), .ref (b 40), .int (gg 40), .ref (b 42), .ref (b 43), .ref (b 44), .int (gg 44), .ref (b 46), .ref (b 47), .int (gg 47), .ref (b 49)])), (b 1, .inl (cB, 200, .inl ta))] sz)) 0 0 (va_A [(b 0, .inr (8, [.ref (b 1), .int (nI mt), .int (gg 2), .int (gg 3), .int (gg 4), .int (gg 5), .int (gg 6), .int (gg 7), .int (gg 8), .int (gg 9), .ref (b 11), .ref (b 12), .ref (b 13), .int (nI mc), .int (nI mh), .ref (b 16), .ref (b 17), .ref (b 18), .ref (b 19), .ref (b 20), .ref (b 21), .ref (b 22), .ref (b 23), .ref (b 24), .int (nI mf), .ref (b 26), .ref (b 27), .ref (b 28), .ref (b 29), .ref (b 30), .ref (b 31), .ref (b 32), .int (gg 32), .int (nI md), .ref (b 35), .ref (b 36), .ref (b 37), .ref (b 38), .ref (b 39), .ref (b 40), .int (gg 40), .ref (b 42), .ref (b 43), .ref (b 44), .int (gg 44), .ref (b 46), .ref (b 47), .int (gg 47), .ref (b 49)])), (b 1, .inl (cB, 200, .inl ta))] sz) := by
  refine Met.ofW (cc := cX8_feed) (maxL := 6) (ret := (some .int)) (by decide) rfl ?_
  intro p e s m args below meth c s₁ B hml hv
  obtain ⟨rfl, hsz, hP, hK, hD0, hN⟩ := hv
  have hx := B.exec
  have hb := B.bytes
  have hr := B.returns
  have hts := atoms_spec (ws := zz_w yX8_feed cX8_feed 6 (some .int)) B.pre
  have hw : ∀ w ∈ zz_all, w.before _ s = true := fun w h => hts w (List.mem_cons_of_mem _ h)
  have hown : s.vm.findClass RX8 = some m.cls := findClass_of_methodNamed B.named
  have hlocks := B.notSynchronized
  subst hsz
  have hD := hD0.self (sz := s.heap.size)
  generalize hAe : va_A [(b 0, .inr (8, [.ref (b 1), .int (nI mt), .int (gg 2), .int (gg 3), .int (gg 4), .int (gg 5), .int (gg 6), .int (gg 7), .int (gg 8), .int (gg 9), .ref (b 11), .ref (b 12), .ref (b 13), .int (nI mc), .int (nI mh), .ref (b 16), .ref (b 17), .ref (b 18), .ref (b 19), .ref (b 20), .ref (b 21), .ref (b 22), .ref (b 23), .ref (b 24), .int (nI mf), .ref (b 26), .ref (b 27), .ref (b 28), .ref (b 29), .ref (b 30), .ref (b 31), .ref (b 32), .int (gg 32), .int (nI md), .ref (b 35), .ref (b 36), .ref (b 37), .ref (b 38), .ref (b 39), .ref (b 40), .int (gg 40), .ref (b 42), .ref (b 43), .ref (b 44), .int (gg 44), .ref (b 46), .ref (b 47), .int (gg 47), .ref (b 49)])), (b 1, .inl (cB, 200, .inl ta))] s.heap.size = A at hD ⊢
  have hA : ∀ q : Nat, s.heap.size ≤ q → A q := fun q h => by rw [← hAe]; exact Or.inr h
  have hS : va_S A s.heap s.heap [] := va_S.rf
  have hP : va_P (dC, dI) vwCl [(b 0, .inr (8, [.ref (b 1), .int (nI mt), .int (gg 2), .int (gg 3), .int (gg 4), .int (gg 5), .int (gg 6), .int (gg 7), .int (gg 8), .int (gg 9), .ref (b 11), .ref (b 12), .ref (b 13), .int (nI mc), .int (nI mh), .ref (b 16), .ref (b 17), .ref (b 18), .ref (b 19), .ref (b 20), .ref (b 21), .ref (b 22), .ref (b 23), .ref (b 24), .int (nI mf), .ref (b 26), .ref (b 27), .ref (b 28), .ref (b 29), .ref (b 30), .ref (b 31), .ref (b 32), .int (gg 32), .int (nI md), .ref (b 35), .ref (b 36), .ref (b 37), .ref (b 38), .ref (b 39), .ref (b 40), .int (gg 40), .ref (b 42), .ref (b 43), .ref (b 44), .int (gg 44), .ref (b 46), .ref (b 47), .int (gg 47), .ref (b 49)])), (b 1, .inl (cB, 200, .inl ta))] s.heap := hP
  have hl := lv_entry ([.ref (b 0), .int p0, .int p1, .int p2, .int p3, .int p4]) (n := 6) (Nat.le_of_ble_eq_true rfl)
  rw [lg_entry_eq]
  generalize (lg_sl ([.ref (b 0), .int p0, .int p1, .int p2, .int p3, .int p4]) ++ List.replicate (6 - (lg_sl ([.ref (b 0), .int p0, .int p1, .int p2, .int p3, .int p4])).length) Slot.unset).toArray = ls at hl ⊢
  have hl : lv_has ls 6 [(0, .ref (b 0)), (1, .int p0), (2, .int p1), (3, .int p2), (4, .int p3), (5, .int p4)] := hl
  refine lv_aload_n hx hb dX8_feed_0 rfl (lv_at hl 0 rfl) ?_
  refine va_get (D := (dC, dI)) (ci := 8) (v := .int (nI mt)) (C := RX8) (T := TX8) (N := 49) hx hb hw zz_inX8 hown hK hP 0 rfl rfl 1 (by decide) (hw _ tw_192) (fun _ h9 => h9) rfl dX8_feed_1 ?_
  refine lv_bipush (v := 20) hx hb dX8_feed_4 (by decide) ?_
  refine lv_iadd hx hb dX8_feed_6 ?_
  refine zz_seti (nI (mt + 20)) (nI_add _ 20) ?_
  refine lv_sipush (v := 200) hx hb dX8_feed_7 (by decide) ?_
  refine lv_icmp_le (tgt := 15) hx hb dX8_feed_10 (by decide) (fun c_1 => ?_) (fun c_1 => ?_)
  · have zc_1 := c_1
    rw [Int32.le_iff_toInt_le] at zc_1
    try rw [zz_toInt (mt + 20) (by omega)] at zc_1
    try rw [show (200 : Int32).toInt = 200 from by decide] at zc_1
    refine lv_aload_n hx hb dX8_feed_15 rfl (lv_at hl 0 rfl) ?_
    refine lv_iload_n hx hb dX8_feed_16 rfl (lv_at hl 1 rfl) ?_
    have hPc := hP.sub (ws' := [(b 0, .inr (8, [.ref (b 1), .int (nI mt), .int (gg 2), .int (gg 3), .int (gg 4), .int (gg 5), .int (gg 6), .int (gg 7), .int (gg 8), .int (gg 9), .ref (b 11), .ref (b 12), .ref (b 13), .int (nI mc), .int (nI mh), .ref (b 16), .ref (b 17), .ref (b 18), .ref (b 19), .ref (b 20), .ref (b 21), .ref (b 22), .ref (b 23), .ref (b 24), .int (nI mf), .ref (b 26), .ref (b 27), .ref (b 28), .ref (b 29), .ref (b 30), .ref (b 31), .ref (b 32), .int (gg 32), .int (nI md), .ref (b 35), .ref (b 36), .ref (b 37), .ref (b 38), .ref (b 39), .ref (b 40), .int (gg 40), .ref (b 42), .ref (b 43), .ref (b 44), .int (gg 44), .ref (b 46), .ref (b 47), .int (gg 47), .ref (b 49)])), (b 1, .inl (cB, 200, .inl ta))]) [0, 1] rfl
    have hDc := hD.sub (ws' := [(b 0, .inr (8, [.ref (b 1), .int (nI mt), .int (gg 2), .int (gg 3), .int (gg 4), .int (gg 5), .int (gg 6), .int (gg 7), .int (gg 8), .int (gg 9), .ref (b 11), .ref (b 12), .ref (b 13), .int (nI mc), .int (nI mh), .ref (b 16), .ref (b 17), .ref (b 18), .ref (b 19), .ref (b 20), .ref (b 21), .ref (b 22), .ref (b 23), .ref (b 24), .int (nI mf), .ref (b 26), .ref (b 27), .ref (b 28), .ref (b 29), .ref (b 30), .ref (b 31), .ref (b 32), .int (gg 32), .int (nI md), .ref (b 35), .ref (b 36), .ref (b 37), .ref (b 38), .ref (b 39), .ref (b 40), .int (gg 40), .ref (b 42), .ref (b 43), .ref (b 44), .int (gg 44), .ref (b 46), .ref (b 47), .int (gg 47), .ref (b 49)])), (b 1, .inl (cB, 200, .inl ta))]) [0, 1] (by decide) rfl
    have hKc := hK.sub (tys' := [(cB, .byte)]) [0] rfl
    have hFc := va_free (wc := [(b 0, .inr (8, [.ref (b 1), .int (nI mt), .int (gg 2), .int (gg 3), .int (gg 4), .int (gg 5), .int (gg 6), .int (gg 7), .int (gg 8), .int (gg 9), .ref (b 11), .ref (b 12), .ref (b 13), .int (nI mc), .int (nI mh), .ref (b 16), .ref (b 17), .ref (b 18), .ref (b 19), .ref (b 20), .ref (b 21), .ref (b 22), .ref (b 23), .ref (b 24), .int (nI mf), .ref (b 26), .ref (b 27), .ref (b 28), .ref (b 29), .ref (b 30), .ref (b 31), .ref (b 32), .int (gg 32), .int (nI md), .ref (b 35), .ref (b 36), .ref (b 37), .ref (b 38), .ref (b 39), .ref (b 40), .int (gg 40), .ref (b 42), .ref (b 43), .ref (b 44), .int (gg 44), .ref (b 46), .ref (b 47), .int (gg 47), .ref (b 49)])), (b 1, .inl (cB, 200, .inl ta))]) hD hS hA [0, 1] rfl
    refine va_callv (va_runV (As := [.int p0]) (rest := []) ⟨hx, hb, hml, hown, hw⟩ (m_put l dC dI b gg mt mc mh mf md cB ta p0 s.heap.size (by omega)) ⟨callB_of 1 hw (zz_good tw_193) rfl rfl rfl (hw _ tw_184) (hw _ tw_194) (by decide +kernel) ⟨Nat.le_of_ble_eq_true rfl, Nat.le_of_ble_eq_true rfl⟩, (hw _ tw_195), (hw _ tw_196)⟩ ⟨zz_blind, va_recv hKc hPc (ci := 8) (q0 := 0) rfl rfl, zz_pre hPc hKc hDc hN⟩ rfl rfl hl.1 rfl (lv_room (Nat.le_of_ble_eq_true rfl)) dX8_feed_17 ⟨Nat.le_of_ble_eq_true rfl, Nat.le_of_ble_eq_true rfl⟩) hS (fun q _ h => hFc q h) hFc (fun u_2 t H1 locs ht hvm e_2 hB hz1 hk1 hS => ?_)
    try dsimp only at e_2
    obtain ⟨v_2_0, v_2_1⟩ := u_2
    obtain ⟨hP1, hK1, hD1⟩ := hB
    rw [ht] at hP1
    have hK1 := va_K.moved hvm.symm hK1
    try dsimp only at e_2
    obtain ⟨hP, hD⟩ := va_join (wr := []) (w1 := [(b 0, .inr (8, [.ref (b 1), .int (nI v_2_0), .int (gg 2), .int (gg 3), .int (gg 4), .int (gg 5), .int (gg 6), .int (gg 7), .int (gg 8), .int (gg 9), .ref (b 11), .ref (b 12), .ref (b 13), .int (nI mc), .int (nI mh), .ref (b 16), .ref (b 17), .ref (b 18), .ref (b 19), .ref (b 20), .ref (b 21), .ref (b 22), .ref (b 23), .ref (b 24), .int (nI mf), .ref (b 26), .ref (b 27), .ref (b 28), .ref (b 29), .ref (b 30), .ref (b 31), .ref (b 32), .int (gg 32), .int (nI md), .ref (b 35), .ref (b 36), .ref (b 37), .ref (b 38), .ref (b 39), .ref (b 40), .int (gg 40), .ref (b 42), .ref (b 43), .ref (b 44), .int (gg 44), .ref (b 46), .ref (b 47), .int (gg 47), .ref (b 49)])), (b 1, .inl (cB, 200, .inl v_2_1))]) hP hD [0, 1] [] rfl rfl (by decide) (by decide) hk1 hFc hP1 hD1
    clear hk1 ht hvm
    generalize H1 = H at hP hS ⊢
    have hP : va_P (dC, dI) vwCl [(b 0, .inr (8, [.ref (b 1), .int (nI v_2_0), .int (gg 2), .int (gg 3), .int (gg 4), .int (gg 5), .int (gg 6), .int (gg 7), .int (gg 8), .int (gg 9), .ref (b 11), .ref (b 12), .ref (b 13), .int (nI mc), .int (nI mh), .ref (b 16), .ref (b 17), .ref (b 18), .ref (b 19), .ref (b 20), .ref (b 21), .ref (b 22), .ref (b 23), .ref (b 24), .int (nI mf), .ref (b 26), .ref (b 27), .ref (b 28), .ref (b 29), .ref (b 30), .ref (b 31), .ref (b 32), .int (gg 32), .int (nI md), .ref (b 35), .ref (b 36), .ref (b 37), .ref (b 38), .ref (b 39), .ref (b 40), .int (gg 40), .ref (b 42), .ref (b 43), .ref (b 44), .int (gg 44), .ref (b 46), .ref (b 47), .int (gg 47), .ref (b 49)])), (b 1, .inl (cB, 200, .inl v_2_1))] H := hP
    have hD : va_D A [(b 0, .inr (8, [.ref (b 1), .int (nI v_2_0), .int (gg 2), .int (gg 3), .int (gg 4), .int (gg 5), .int (gg 6), .int (gg 7), .int (gg 8), .int (gg 9), .ref (b 11), .ref (b 12), .ref (b 13), .int (nI mc), .int (nI mh), .ref (b 16), .ref (b 17), .ref (b 18), .ref (b 19), .ref (b 20), .ref (b 21), .ref (b 22), .ref (b 23), .ref (b 24), .int (nI mf), .ref (b 26), .ref (b 27), .ref (b 28), .ref (b 29), .ref (b 30), .ref (b 31), .ref (b 32), .int (gg 32), .int (nI md), .ref (b 35), .ref (b 36), .ref (b 37), .ref (b 38), .ref (b 39), .ref (b 40), .int (gg 40), .ref (b 42), .ref (b 43), .ref (b 44), .int (gg 44), .ref (b 46), .ref (b 47), .int (gg 47), .ref (b 49)])), (b 1, .inl (cB, 200, .inl v_2_1))] := hD
    refine lv_aload_n hx hb dX8_feed_20 rfl (lv_at hl 0 rfl) ?_
    refine lv_iload_n hx hb dX8_feed_21 rfl (lv_at hl 2 rfl) ?_
    have hPc := hP.sub (ws' := [(b 0, .inr (8, [.ref (b 1), .int (nI v_2_0), .int (gg 2), .int (gg 3), .int (gg 4), .int (gg 5), .int (gg 6), .int (gg 7), .int (gg 8), .int (gg 9), .ref (b 11), .ref (b 12), .ref (b 13), .int (nI mc), .int (nI mh), .ref (b 16), .ref (b 17), .ref (b 18), .ref (b 19), .ref (b 20), .ref (b 21), .ref (b 22), .ref (b 23), .ref (b 24), .int (nI mf), .ref (b 26), .ref (b 27), .ref (b 28), .ref (b 29), .ref (b 30), .ref (b 31), .ref (b 32), .int (gg 32), .int (nI md), .ref (b 35), .ref (b 36), .ref (b 37), .ref (b 38), .ref (b 39), .ref (b 40), .int (gg 40), .ref (b 42), .ref (b 43), .ref (b 44), .int (gg 44), .ref (b 46), .ref (b 47), .int (gg 47), .ref (b 49)])), (b 1, .inl (cB, 200, .inl v_2_1))]) [0, 1] rfl
    have hDc := hD.sub (ws' := [(b 0, .inr (8, [.ref (b 1), .int (nI v_2_0), .int (gg 2), .int (gg 3), .int (gg 4), .int (gg 5), .int (gg 6), .int (gg 7), .int (gg 8), .int (gg 9), .ref (b 11), .ref (b 12), .ref (b 13), .int (nI mc), .int (nI mh), .ref (b 16), .ref (b 17), .ref (b 18), .ref (b 19), .ref (b 20), .ref (b 21), .ref (b 22), .ref (b 23), .ref (b 24), .int (nI mf), .ref (b 26), .ref (b 27), .ref (b 28), .ref (b 29), .ref (b 30), .ref (b 31), .ref (b 32), .int (gg 32), .int (nI md), .ref (b 35), .ref (b 36), .ref (b 37), .ref (b 38), .ref (b 39), .ref (b 40), .int (gg 40), .ref (b 42), .ref (b 43), .ref (b 44), .int (gg 44), .ref (b 46), .ref (b 47), .int (gg 47), .ref (b 49)])), (b 1, .inl (cB, 200, .inl v_2_1))]) [0, 1] (by decide) rfl
    have hKc := hK.sub (tys' := [(cB, .byte)]) [0] rfl
    have hFc := va_free (wc := [(b 0, .inr (8, [.ref (b 1), .int (nI v_2_0), .int (gg 2), .int (gg 3), .int (gg 4), .int (gg 5), .int (gg 6), .int (gg 7), .int (gg 8), .int (gg 9), .ref (b 11), .ref (b 12), .ref (b 13), .int (nI mc), .int (nI mh), .ref (b 16), .ref (b 17), .ref (b 18), .ref (b 19), .ref (b 20), .ref (b 21), .ref (b 22), .ref (b 23), .ref (b 24), .int (nI mf), .ref (b 26), .ref (b 27), .ref (b 28), .ref (b 29), .ref (b 30), .ref (b 31), .ref (b 32), .int (gg 32), .int (nI md), .ref (b 35), .ref (b 36), .ref (b 37), .ref (b 38), .ref (b 39), .ref (b 40), .int (gg 40), .ref (b 42), .ref (b 43), .ref (b 44), .int (gg 44), .ref (b 46), .ref (b 47), .int (gg 47), .ref (b 49)])), (b 1, .inl (cB, 200, .inl v_2_1))]) hD hS hA [0, 1] rfl
    refine va_callv (va_runV (As := [.int p1]) (rest := []) ⟨hx, hb, hml, hown, hw⟩ (m_put l dC dI b gg v_2_0 mc mh mf md cB v_2_1 p1 H.size (by omega)) ⟨callB_of 1 hw (zz_good tw_193) rfl rfl rfl (hw _ tw_184) (hw _ tw_194) (by decide +kernel) ⟨Nat.le_of_ble_eq_true rfl, Nat.le_of_ble_eq_true rfl⟩, (hw _ tw_195), (hw _ tw_196)⟩ ⟨zz_blind, va_recv hKc hPc (ci := 8) (q0 := 0) rfl rfl, zz_pre hPc hKc hDc hN⟩ rfl rfl hl.1 rfl (lv_room (Nat.le_of_ble_eq_true rfl)) dX8_feed_22 ⟨Nat.le_of_ble_eq_true rfl, Nat.le_of_ble_eq_true rfl⟩) hS (fun q _ h => hFc q h) hFc (fun u_3 t H1 locs ht hvm e_3 hB hz1 hk1 hS => ?_)
    try dsimp only at e_3
    obtain ⟨v_3_0, v_3_1⟩ := u_3
    obtain ⟨hP1, hK1, hD1⟩ := hB
    rw [ht] at hP1
    have hK1 := va_K.moved hvm.symm hK1
    try dsimp only at e_3
    obtain ⟨hP, hD⟩ := va_join (wr := []) (w1 := [(b 0, .inr (8, [.ref (b 1), .int (nI v_3_0), .int (gg 2), .int (gg 3), .int (gg 4), .int (gg 5), .int (gg 6), .int (gg 7), .int (gg 8), .int (gg 9), .ref (b 11), .ref (b 12), .ref (b 13), .int (nI mc), .int (nI mh), .ref (b 16), .ref (b 17), .ref (b 18), .ref (b 19), .ref (b 20), .ref (b 21), .ref (b 22), .ref (b 23), .ref (b 24), .int (nI mf), .ref (b 26), .ref (b 27), .ref (b 28), .ref (b 29), .ref (b 30), .ref (b 31), .ref (b 32), .int (gg 32), .int (nI md), .ref (b 35), .ref (b 36), .ref (b 37), .ref (b 38), .ref (b 39), .ref (b 40), .int (gg 40), .ref (b 42), .ref (b 43), .ref (b 44), .int (gg 44), .ref (b 46), .ref (b 47), .int (gg 47), .ref (b 49)])), (b 1, .inl (cB, 200, .inl v_3_1))]) hP hD [0, 1] [] rfl rfl (by decide) (by decide) hk1 hFc hP1 hD1
    clear hk1 ht hvm
    generalize H1 = H at hP hS ⊢
    have hP : va_P (dC, dI) vwCl [(b 0, .inr (8, [.ref (b 1), .int (nI v_3_0), .int (gg 2), .int (gg 3), .int (gg 4), .int (gg 5), .int (gg 6), .int (gg 7), .int (gg 8), .int (gg 9), .ref (b 11), .ref (b 12), .ref (b 13), .int (nI mc), .int (nI mh), .ref (b 16), .ref (b 17), .ref (b 18), .ref (b 19), .ref (b 20), .ref (b 21), .ref (b 22), .ref (b 23), .ref (b 24), .int (nI mf), .ref (b 26), .ref (b 27), .ref (b 28), .ref (b 29), .ref (b 30), .ref (b 31), .ref (b 32), .int (gg 32), .int (nI md), .ref (b 35), .ref (b 36), .ref (b 37), .ref (b 38), .ref (b 39), .ref (b 40), .int (gg 40), .ref (b 42), .ref (b 43), .ref (b 44), .int (gg 44), .ref (b 46), .ref (b 47), .int (gg 47), .ref (b 49)])), (b 1, .inl (cB, 200, .inl v_3_1))] H := hP
    have hD : va_D A [(b 0, .inr (8, [.ref (b 1), .int (nI v_3_0), .int (gg 2), .int (gg 3), .int (gg 4), .int (gg 5), .int (gg 6), .int (gg 7), .int (gg 8), .int (gg 9), .ref (b 11), .ref (b 12), .ref (b 13), .int (nI mc), .int (nI mh), .ref (b 16), .ref (b 17), .ref (b 18), .ref (b 19), .ref (b 20), .ref (b 21), .ref (b 22), .ref (b 23), .ref (b 24), .int (nI mf), .ref (b 26), .ref (b 27), .ref (b 28), .ref (b 29), .ref (b 30), .ref (b 31), .ref (b 32), .int (gg 32), .int (nI md), .ref (b 35), .ref (b 36), .ref (b 37), .ref (b 38), .ref (b 39), .ref (b 40), .int (gg 40), .ref (b 42), .ref (b 43), .ref (b 44), .int (gg 44), .ref (b 46), .ref (b 47), .int (gg 47), .ref (b 49)])), (b 1, .inl (cB, 200, .inl v_3_1))] := hD
    refine lv_aload_n hx hb dX8_feed_25 rfl (lv_at hl 0 rfl) ?_
    refine lv_iload_n hx hb dX8_feed_26 rfl (lv_at hl 3 rfl) ?_
    have hPc := hP.sub (ws' := [(b 0, .inr (8, [.ref (b 1), .int (nI v_3_0), .int (gg 2), .int (gg 3), .int (gg 4), .int (gg 5), .int (gg 6), .int (gg 7), .int (gg 8), .int (gg 9), .ref (b 11), .ref (b 12), .ref (b 13), .int (nI mc), .int (nI mh), .ref (b 16), .ref (b 17), .ref (b 18), .ref (b 19), .ref (b 20), .ref (b 21), .ref (b 22), .ref (b 23), .ref (b 24), .int (nI mf), .ref (b 26), .ref (b 27), .ref (b 28), .ref (b 29), .ref (b 30), .ref (b 31), .ref (b 32), .int (gg 32), .int (nI md), .ref (b 35), .ref (b 36), .ref (b 37), .ref (b 38), .ref (b 39), .ref (b 40), .int (gg 40), .ref (b 42), .ref (b 43), .ref (b 44), .int (gg 44), .ref (b 46), .ref (b 47), .int (gg 47), .ref (b 49)])), (b 1, .inl (cB, 200, .inl v_3_1))]) [0, 1] rfl
    have hDc := hD.sub (ws' := [(b 0, .inr (8, [.ref (b 1), .int (nI v_3_0), .int (gg 2), .int (gg 3), .int (gg 4), .int (gg 5), .int (gg 6), .int (gg 7), .int (gg 8), .int (gg 9), .ref (b 11), .ref (b 12), .ref (b 13), .int (nI mc), .int (nI mh), .ref (b 16), .ref (b 17), .ref (b 18), .ref (b 19), .ref (b 20), .ref (b 21), .ref (b 22), .ref (b 23), .ref (b 24), .int (nI mf), .ref (b 26), .ref (b 27), .ref (b 28), .ref (b 29), .ref (b 30), .ref (b 31), .ref (b 32), .int (gg 32), .int (nI md), .ref (b 35), .ref (b 36), .ref (b 37), .ref (b 38), .ref (b 39), .ref (b 40), .int (gg 40), .ref (b 42), .ref (b 43), .ref (b 44), .int (gg 44), .ref (b 46), .ref (b 47), .int (gg 47), .ref (b 49)])), (b 1, .inl (cB, 200, .inl v_3_1))]) [0, 1] (by decide) rfl
    have hKc := hK.sub (tys' := [(cB, .byte)]) [0] rfl
    have hFc := va_free (wc := [(b 0, .inr (8, [.ref (b 1), .int (nI v_3_0), .int (gg 2), .int (gg 3), .int (gg 4), .int (gg 5), .int (gg 6), .int (gg 7), .int (gg 8), .int (gg 9), .ref (b 11), .ref (b 12), .ref (b 13), .int (nI mc), .int (nI mh), .ref (b 16), .ref (b 17), .ref (b 18), .ref (b 19), .ref (b 20), .ref (b 21), .ref (b 22), .ref (b 23), .ref (b 24), .int (nI mf), .ref (b 26), .ref (b 27), .ref (b 28), .ref (b 29), .ref (b 30), .ref (b 31), .ref (b 32), .int (gg 32), .int (nI md), .ref (b 35), .ref (b 36), .ref (b 37), .ref (b 38), .ref (b 39), .ref (b 40), .int (gg 40), .ref (b 42), .ref (b 43), .ref (b 44), .int (gg 44), .ref (b 46), .ref (b 47), .int (gg 47), .ref (b 49)])), (b 1, .inl (cB, 200, .inl v_3_1))]) hD hS hA [0, 1] rfl
    refine va_callv (va_runV (As := [.int p2]) (rest := []) ⟨hx, hb, hml, hown, hw⟩ (m_put l dC dI b gg v_3_0 mc mh mf md cB v_3_1 p2 H.size (by omega)) ⟨callB_of 1 hw (zz_good tw_193) rfl rfl rfl (hw _ tw_184) (hw _ tw_194) (by decide +kernel) ⟨Nat.le_of_ble_eq_true rfl, Nat.le_of_ble_eq_true rfl⟩, (hw _ tw_195), (hw _ tw_196)⟩ ⟨zz_blind, va_recv hKc hPc (ci := 8) (q0 := 0) rfl rfl, zz_pre hPc hKc hDc hN⟩ rfl rfl hl.1 rfl (lv_room (Nat.le_of_ble_eq_true rfl)) dX8_feed_27 ⟨Nat.le_of_ble_eq_true rfl, Nat.le_of_ble_eq_true rfl⟩) hS (fun q _ h => hFc q h) hFc (fun u_4 t H1 locs ht hvm e_4 hB hz1 hk1 hS => ?_)
    try dsimp only at e_4
    obtain ⟨v_4_0, v_4_1⟩ := u_4
    obtain ⟨hP1, hK1, hD1⟩ := hB
    rw [ht] at hP1
    have hK1 := va_K.moved hvm.symm hK1
    try dsimp only at e_4
    obtain ⟨hP, hD⟩ := va_join (wr := []) (w1 := [(b 0, .inr (8, [.ref (b 1), .int (nI v_4_0), .int (gg 2), .int (gg 3), .int (gg 4), .int (gg 5), .int (gg 6), .int (gg 7), .int (gg 8), .int (gg 9), .ref (b 11), .ref (b 12), .ref (b 13), .int (nI mc), .int (nI mh), .ref (b 16), .ref (b 17), .ref (b 18), .ref (b 19), .ref (b 20), .ref (b 21), .ref (b 22), .ref (b 23), .ref (b 24), .int (nI mf), .ref (b 26), .ref (b 27), .ref (b 28), .ref (b 29), .ref (b 30), .ref (b 31), .ref (b 32), .int (gg 32), .int (nI md), .ref (b 35), .ref (b 36), .ref (b 37), .ref (b 38), .ref (b 39), .ref (b 40), .int (gg 40), .ref (b 42), .ref (b 43), .ref (b 44), .int (gg 44), .ref (b 46), .ref (b 47), .int (gg 47), .ref (b 49)])), (b 1, .inl (cB, 200, .inl v_4_1))]) hP hD [0, 1] [] rfl rfl (by decide) (by decide) hk1 hFc hP1 hD1
    clear hk1 ht hvm
    generalize H1 = H at hP hS ⊢
    have hP : va_P (dC, dI) vwCl [(b 0, .inr (8, [.ref (b 1), .int (nI v_4_0), .int (gg 2), .int (gg 3), .int (gg 4), .int (gg 5), .int (gg 6), .int (gg 7), .int (gg 8), .int (gg 9), .ref (b 11), .ref (b 12), .ref (b 13), .int (nI mc), .int (nI mh), .ref (b 16), .ref (b 17), .ref (b 18), .ref (b 19), .ref (b 20), .ref (b 21), .ref (b 22), .ref (b 23), .ref (b 24), .int (nI mf), .ref (b 26), .ref (b 27), .ref (b 28), .ref (b 29), .ref (b 30), .ref (b 31), .ref (b 32), .int (gg 32), .int (nI md), .ref (b 35), .ref (b 36), .ref (b 37), .ref (b 38), .ref (b 39), .ref (b 40), .int (gg 40), .ref (b 42), .ref (b 43), .ref (b 44), .int (gg 44), .ref (b 46), .ref (b 47), .int (gg 47), .ref (b 49)])), (b 1, .inl (cB, 200, .inl v_4_1))] H := hP
    have hD : va_D A [(b 0, .inr (8, [.ref (b 1), .int (nI v_4_0), .int (gg 2), .int (gg 3), .int (gg 4), .int (gg 5), .int (gg 6), .int (gg 7), .int (gg 8), .int (gg 9), .ref (b 11), .ref (b 12), .ref (b 13), .int (nI mc), .int (nI mh), .ref (b 16), .ref (b 17), .ref (b 18), .ref (b 19), .ref (b 20), .ref (b 21), .ref (b 22), .ref (b 23), .ref (b 24), .int (nI mf), .ref (b 26), .ref (b 27), .ref (b 28), .ref (b 29), .ref (b 30), .ref (b 31), .ref (b 32), .int (gg 32), .int (nI md), .ref (b 35), .ref (b 36), .ref (b 37), .ref (b 38), .ref (b 39), .ref (b 40), .int (gg 40), .ref (b 42), .ref (b 43), .ref (b 44), .int (gg 44), .ref (b 46), .ref (b 47), .int (gg 47), .ref (b 49)])), (b 1, .inl (cB, 200, .inl v_4_1))] := hD
    refine lv_aload_n hx hb dX8_feed_30 rfl (lv_at hl 0 rfl) ?_
    refine lv_iload hx hb dX8_feed_31 (lv_at hl 4 rfl) ?_
    have hPc := hP.sub (ws' := [(b 0, .inr (8, [.ref (b 1), .int (nI v_4_0), .int (gg 2), .int (gg 3), .int (gg 4), .int (gg 5), .int (gg 6), .int (gg 7), .int (gg 8), .int (gg 9), .ref (b 11), .ref (b 12), .ref (b 13), .int (nI mc), .int (nI mh), .ref (b 16), .ref (b 17), .ref (b 18), .ref (b 19), .ref (b 20), .ref (b 21), .ref (b 22), .ref (b 23), .ref (b 24), .int (nI mf), .ref (b 26), .ref (b 27), .ref (b 28), .ref (b 29), .ref (b 30), .ref (b 31), .ref (b 32), .int (gg 32), .int (nI md), .ref (b 35), .ref (b 36), .ref (b 37), .ref (b 38), .ref (b 39), .ref (b 40), .int (gg 40), .ref (b 42), .ref (b 43), .ref (b 44), .int (gg 44), .ref (b 46), .ref (b 47), .int (gg 47), .ref (b 49)])), (b 1, .inl (cB, 200, .inl v_4_1))]) [0, 1] rfl
    have hDc := hD.sub (ws' := [(b 0, .inr (8, [.ref (b 1), .int (nI v_4_0), .int (gg 2), .int (gg 3), .int (gg 4), .int (gg 5), .int (gg 6), .int (gg 7), .int (gg 8), .int (gg 9), .ref (b 11), .ref (b 12), .ref (b 13), .int (nI mc), .int (nI mh), .ref (b 16), .ref (b 17), .ref (b 18), .ref (b 19), .ref (b 20), .ref (b 21), .ref (b 22), .ref (b 23), .ref (b 24), .int (nI mf), .ref (b 26), .ref (b 27), .ref (b 28), .ref (b 29), .ref (b 30), .ref (b 31), .ref (b 32), .int (gg 32), .int (nI md), .ref (b 35), .ref (b 36), .ref (b 37), .ref (b 38), .ref (b 39), .ref (b 40), .int (gg 40), .ref (b 42), .ref (b 43), .ref (b 44), .int (gg 44), .ref (b 46), .ref (b 47), .int (gg 47), .ref (b 49)])), (b 1, .inl (cB, 200, .inl v_4_1))]) [0, 1] (by decide) rfl
    have hKc := hK.sub (tys' := [(cB, .byte)]) [0] rfl
    have hFc := va_free (wc := [(b 0, .inr (8, [.ref (b 1), .int (nI v_4_0), .int (gg 2), .int (gg 3), .int (gg 4), .int (gg 5), .int (gg 6), .int (gg 7), .int (gg 8), .int (gg 9), .ref (b 11), .ref (b 12), .ref (b 13), .int (nI mc), .int (nI mh), .ref (b 16), .ref (b 17), .ref (b 18), .ref (b 19), .ref (b 20), .ref (b 21), .ref (b 22), .ref (b 23), .ref (b 24), .int (nI mf), .ref (b 26), .ref (b 27), .ref (b 28), .ref (b 29), .ref (b 30), .ref (b 31), .ref (b 32), .int (gg 32), .int (nI md), .ref (b 35), .ref (b 36), .ref (b 37), .ref (b 38), .ref (b 39), .ref (b 40), .int (gg 40), .ref (b 42), .ref (b 43), .ref (b 44), .int (gg 44), .ref (b 46), .ref (b 47), .int (gg 47), .ref (b 49)])), (b 1, .inl (cB, 200, .inl v_4_1))]) hD hS hA [0, 1] rfl
    refine va_callv (va_runV (As := [.int p3]) (rest := []) ⟨hx, hb, hml, hown, hw⟩ (m_put l dC dI b gg v_4_0 mc mh mf md cB v_4_1 p3 H.size (by omega)) ⟨callB_of 1 hw (zz_good tw_193) rfl rfl rfl (hw _ tw_184) (hw _ tw_194) (by decide +kernel) ⟨Nat.le_of_ble_eq_true rfl, Nat.le_of_ble_eq_true rfl⟩, (hw _ tw_195), (hw _ tw_196)⟩ ⟨zz_blind, va_recv hKc hPc (ci := 8) (q0 := 0) rfl rfl, zz_pre hPc hKc hDc hN⟩ rfl rfl hl.1 rfl (lv_room (Nat.le_of_ble_eq_true rfl)) dX8_feed_33 ⟨Nat.le_of_ble_eq_true rfl, Nat.le_of_ble_eq_true rfl⟩) hS (fun q _ h => hFc q h) hFc (fun u_5 t H1 locs ht hvm e_5 hB hz1 hk1 hS => ?_)
    try dsimp only at e_5
    obtain ⟨v_5_0, v_5_1⟩ := u_5
    obtain ⟨hP1, hK1, hD1⟩ := hB
    rw [ht] at hP1
    have hK1 := va_K.moved hvm.symm hK1
    try dsimp only at e_5
    obtain ⟨hP, hD⟩ := va_join (wr := []) (w1 := [(b 0, .inr (8, [.ref (b 1), .int (nI v_5_0), .int (gg 2), .int (gg 3), .int (gg 4), .int (gg 5), .int (gg 6), .int (gg 7), .int (gg 8), .int (gg 9), .ref (b 11), .ref (b 12), .ref (b 13), .int (nI mc), .int (nI mh), .ref (b 16), .ref (b 17), .ref (b 18), .ref (b 19), .ref (b 20), .ref (b 21), .ref (b 22), .ref (b 23), .ref (b 24), .int (nI mf), .ref (b 26), .ref (b 27), .ref (b 28), .ref (b 29), .ref (b 30), .ref (b 31), .ref (b 32), .int (gg 32), .int (nI md), .ref (b 35), .ref (b 36), .ref (b 37), .ref (b 38), .ref (b 39), .ref (b 40), .int (gg 40), .ref (b 42), .ref (b 43), .ref (b 44), .int (gg 44), .ref (b 46), .ref (b 47), .int (gg 47), .ref (b 49)])), (b 1, .inl (cB, 200, .inl v_5_1))]) hP hD [0, 1] [] rfl rfl (by decide) (by decide) hk1 hFc hP1 hD1
    clear hk1 ht hvm
    generalize H1 = H at hP hS ⊢
    have hP : va_P (dC, dI) vwCl [(b 0, .inr (8, [.ref (b 1), .int (nI v_5_0), .int (gg 2), .int (gg 3), .int (gg 4), .int (gg 5), .int (gg 6), .int (gg 7), .int (gg 8), .int (gg 9), .ref (b 11), .ref (b 12), .ref (b 13), .int (nI mc), .int (nI mh), .ref (b 16), .ref (b 17), .ref (b 18), .ref (b 19), .ref (b 20), .ref (b 21), .ref (b 22), .ref (b 23), .ref (b 24), .int (nI mf), .ref (b 26), .ref (b 27), .ref (b 28), .ref (b 29), .ref (b 30), .ref (b 31), .ref (b 32), .int (gg 32), .int (nI md), .ref (b 35), .ref (b 36), .ref (b 37), .ref (b 38), .ref (b 39), .ref (b 40), .int (gg 40), .ref (b 42), .ref (b 43), .ref (b 44), .int (gg 44), .ref (b 46), .ref (b 47), .int (gg 47), .ref (b 49)])), (b 1, .inl (cB, 200, .inl v_5_1))] H := hP
    have hD : va_D A [(b 0, .inr (8, [.ref (b 1), .int (nI v_5_0), .int (gg 2), .int (gg 3), .int (gg 4), .int (gg 5), .int (gg 6), .int (gg 7), .int (gg 8), .int (gg 9), .ref (b 11), .ref (b 12), .ref (b 13), .int (nI mc), .int (nI mh), .ref (b 16), .ref (b 17), .ref (b 18), .ref (b 19), .ref (b 20), .ref (b 21), .ref (b 22), .ref (b 23), .ref (b 24), .int (nI mf), .ref (b 26), .ref (b 27), .ref (b 28), .ref (b 29), .ref (b 30), .ref (b 31), .ref (b 32), .int (gg 32), .int (nI md), .ref (b 35), .ref (b 36), .ref (b 37), .ref (b 38), .ref (b 39), .ref (b 40), .int (gg 40), .ref (b 42), .ref (b 43), .ref (b 44), .int (gg 44), .ref (b 46), .ref (b 47), .int (gg 47), .ref (b 49)])), (b 1, .inl (cB, 200, .inl v_5_1))] := hD
    refine lv_aload_n hx hb dX8_feed_36 rfl (lv_at hl 0 rfl) ?_
    refine lv_iload hx hb dX8_feed_37 (lv_at hl 5 rfl) ?_
    have hPc := hP.sub (ws' := [(b 0, .inr (8, [.ref (b 1), .int (nI v_5_0), .int (gg 2), .int (gg 3), .int (gg 4), .int (gg 5), .int (gg 6), .int (gg 7), .int (gg 8), .int (gg 9), .ref (b 11), .ref (b 12), .ref (b 13), .int (nI mc), .int (nI mh), .ref (b 16), .ref (b 17), .ref (b 18), .ref (b 19), .ref (b 20), .ref (b 21), .ref (b 22), .ref (b 23), .ref (b 24), .int (nI mf), .ref (b 26), .ref (b 27), .ref (b 28), .ref (b 29), .ref (b 30), .ref (b 31), .ref (b 32), .int (gg 32), .int (nI md), .ref (b 35), .ref (b 36), .ref (b 37), .ref (b 38), .ref (b 39), .ref (b 40), .int (gg 40), .ref (b 42), .ref (b 43), .ref (b 44), .int (gg 44), .ref (b 46), .ref (b 47), .int (gg 47), .ref (b 49)])), (b 1, .inl (cB, 200, .inl v_5_1))]) [0, 1] rfl
    have hDc := hD.sub (ws' := [(b 0, .inr (8, [.ref (b 1), .int (nI v_5_0), .int (gg 2), .int (gg 3), .int (gg 4), .int (gg 5), .int (gg 6), .int (gg 7), .int (gg 8), .int (gg 9), .ref (b 11), .ref (b 12), .ref (b 13), .int (nI mc), .int (nI mh), .ref (b 16), .ref (b 17), .ref (b 18), .ref (b 19), .ref (b 20), .ref (b 21), .ref (b 22), .ref (b 23), .ref (b 24), .int (nI mf), .ref (b 26), .ref (b 27), .ref (b 28), .ref (b 29), .ref (b 30), .ref (b 31), .ref (b 32), .int (gg 32), .int (nI md), .ref (b 35), .ref (b 36), .ref (b 37), .ref (b 38), .ref (b 39), .ref (b 40), .int (gg 40), .ref (b 42), .ref (b 43), .ref (b 44), .int (gg 44), .ref (b 46), .ref (b 47), .int (gg 47), .ref (b 49)])), (b 1, .inl (cB, 200, .inl v_5_1))]) [0, 1] (by decide) rfl
    have hKc := hK.sub (tys' := [(cB, .byte)]) [0] rfl
    have hFc := va_free (wc := [(b 0, .inr (8, [.ref (b 1), .int (nI v_5_0), .int (gg 2), .int (gg 3), .int (gg 4), .int (gg 5), .int (gg 6), .int (gg 7), .int (gg 8), .int (gg 9), .ref (b 11), .ref (b 12), .ref (b 13), .int (nI mc), .int (nI mh), .ref (b 16), .ref (b 17), .ref (b 18), .ref (b 19), .ref (b 20), .ref (b 21), .ref (b 22), .ref (b 23), .ref (b 24), .int (nI mf), .ref (b 26), .ref (b 27), .ref (b 28), .ref (b 29), .ref (b 30), .ref (b 31), .ref (b 32), .int (gg 32), .int (nI md), .ref (b 35), .ref (b 36), .ref (b 37), .ref (b 38), .ref (b 39), .ref (b 40), .int (gg 40), .ref (b 42), .ref (b 43), .ref (b 44), .int (gg 44), .ref (b 46), .ref (b 47), .int (gg 47), .ref (b 49)])), (b 1, .inl (cB, 200, .inl v_5_1))]) hD hS hA [0, 1] rfl
    refine va_callv (va_runV (As := [.int p4]) (rest := []) ⟨hx, hb, hml, hown, hw⟩ (m_put l dC dI b gg v_5_0 mc mh mf md cB v_5_1 p4 H.size (by omega)) ⟨callB_of 1 hw (zz_good tw_193) rfl rfl rfl (hw _ tw_184) (hw _ tw_194) (by decide +kernel) ⟨Nat.le_of_ble_eq_true rfl, Nat.le_of_ble_eq_true rfl⟩, (hw _ tw_195), (hw _ tw_196)⟩ ⟨zz_blind, va_recv hKc hPc (ci := 8) (q0 := 0) rfl rfl, zz_pre hPc hKc hDc hN⟩ rfl rfl hl.1 rfl (lv_room (Nat.le_of_ble_eq_true rfl)) dX8_feed_39 ⟨Nat.le_of_ble_eq_true rfl, Nat.le_of_ble_eq_true rfl⟩) hS (fun q _ h => hFc q h) hFc (fun u_6 t H1 locs ht hvm e_6 hB hz1 hk1 hS => ?_)
    try dsimp only at e_6
    obtain ⟨v_6_0, v_6_1⟩ := u_6
    obtain ⟨hP1, hK1, hD1⟩ := hB
    rw [ht] at hP1
    have hK1 := va_K.moved hvm.symm hK1
    try dsimp only at e_6
    obtain ⟨hP, hD⟩ := va_join (wr := []) (w1 := [(b 0, .inr (8, [.ref (b 1), .int (nI v_6_0), .int (gg 2), .int (gg 3), .int (gg 4), .int (gg 5), .int (gg 6), .int (gg 7), .int (gg 8), .int (gg 9), .ref (b 11), .ref (b 12), .ref (b 13), .int (nI mc), .int (nI mh), .ref (b 16), .ref (b 17), .ref (b 18), .ref (b 19), .ref (b 20), .ref (b 21), .ref (b 22), .ref (b 23), .ref (b 24), .int (nI mf), .ref (b 26), .ref (b 27), .ref (b 28), .ref (b 29), .ref (b 30), .ref (b 31), .ref (b 32), .int (gg 32), .int (nI md), .ref (b 35), .ref (b 36), .ref (b 37), .ref (b 38), .ref (b 39), .ref (b 40), .int (gg 40), .ref (b 42), .ref (b 43), .ref (b 44), .int (gg 44), .ref (b 46), .ref (b 47), .int (gg 47), .ref (b 49)])), (b 1, .inl (cB, 200, .inl v_6_1))]) hP hD [0, 1] [] rfl rfl (by decide) (by decide) hk1 hFc hP1 hD1
    clear hk1 ht hvm
    generalize H1 = H at hP hS ⊢
    have hP : va_P (dC, dI) vwCl [(b 0, .inr (8, [.ref (b 1), .int (nI v_6_0), .int (gg 2), .int (gg 3), .int (gg 4), .int (gg 5), .int (gg 6), .int (gg 7), .int (gg 8), .int (gg 9), .ref (b 11), .ref (b 12), .ref (b 13), .int (nI mc), .int (nI mh), .ref (b 16), .ref (b 17), .ref (b 18), .ref (b 19), .ref (b 20), .ref (b 21), .ref (b 22), .ref (b 23), .ref (b 24), .int (nI mf), .ref (b 26), .ref (b 27), .ref (b 28), .ref (b 29), .ref (b 30), .ref (b 31), .ref (b 32), .int (gg 32), .int (nI md), .ref (b 35), .ref (b 36), .ref (b 37), .ref (b 38), .ref (b 39), .ref (b 40), .int (gg 40), .ref (b 42), .ref (b 43), .ref (b 44), .int (gg 44), .ref (b 46), .ref (b 47), .int (gg 47), .ref (b 49)])), (b 1, .inl (cB, 200, .inl v_6_1))] H := hP
    have hD : va_D A [(b 0, .inr (8, [.ref (b 1), .int (nI v_6_0), .int (gg 2), .int (gg 3), .int (gg 4), .int (gg 5), .int (gg 6), .int (gg 7), .int (gg 8), .int (gg 9), .ref (b 11), .ref (b 12), .ref (b 13), .int (nI mc), .int (nI mh), .ref (b 16), .ref (b 17), .ref (b 18), .ref (b 19), .ref (b 20), .ref (b 21), .ref (b 22), .ref (b 23), .ref (b 24), .int (nI mf), .ref (b 26), .ref (b 27), .ref (b 28), .ref (b 29), .ref (b 30), .ref (b 31), .ref (b 32), .int (gg 32), .int (nI md), .ref (b 35), .ref (b 36), .ref (b 37), .ref (b 38), .ref (b 39), .ref (b 40), .int (gg 40), .ref (b 42), .ref (b 43), .ref (b 44), .int (gg 44), .ref (b 46), .ref (b 47), .int (gg 47), .ref (b 49)])), (b 1, .inl (cB, 200, .inl v_6_1))] := hD
    refine lv_aload_n hx hb dX8_feed_42 rfl (lv_at hl 0 rfl) ?_
    refine va_get (D := (dC, dI)) (ci := 8) (v := .int (nI v_6_0)) (C := RX8) (T := TX8) (N := 49) hx hb hw zz_inX8 hown hK hP 0 rfl rfl 1 (by decide) (hw _ tw_192) (fun _ h9 => h9) rfl dX8_feed_43 ?_
    have hP9 := hP.sub (ws' := [(b 0, .inr (8, [.ref (b 1), .int (nI v_6_0), .int (gg 2), .int (gg 3), .int (gg 4), .int (gg 5), .int (gg 6), .int (gg 7), .int (gg 8), .int (gg 9), .ref (b 11), .ref (b 12), .ref (b 13), .int (nI mc), .int (nI mh), .ref (b 16), .ref (b 17), .ref (b 18), .ref (b 19), .ref (b 20), .ref (b 21), .ref (b 22), .ref (b 23), .ref (b 24), .int (nI mf), .ref (b 26), .ref (b 27), .ref (b 28), .ref (b 29), .ref (b 30), .ref (b 31), .ref (b 32), .int (gg 32), .int (nI md), .ref (b 35), .ref (b 36), .ref (b 37), .ref (b 38), .ref (b 39), .ref (b 40), .int (gg 40), .ref (b 42), .ref (b 43), .ref (b 44), .int (gg 44), .ref (b 46), .ref (b 47), .int (gg 47), .ref (b 49)])), (b 1, .inl (cB, 200, .inl v_6_1))]) [0, 1] rfl
    have hD9 := hD.sub (ws' := [(b 0, .inr (8, [.ref (b 1), .int (nI v_6_0), .int (gg 2), .int (gg 3), .int (gg 4), .int (gg 5), .int (gg 6), .int (gg 7), .int (gg 8), .int (gg 9), .ref (b 11), .ref (b 12), .ref (b 13), .int (nI mc), .int (nI mh), .ref (b 16), .ref (b 17), .ref (b 18), .ref (b 19), .ref (b 20), .ref (b 21), .ref (b 22), .ref (b 23), .ref (b 24), .int (nI mf), .ref (b 26), .ref (b 27), .ref (b 28), .ref (b 29), .ref (b 30), .ref (b 31), .ref (b 32), .int (gg 32), .int (nI md), .ref (b 35), .ref (b 36), .ref (b 37), .ref (b 38), .ref (b 39), .ref (b 40), .int (gg 40), .ref (b 42), .ref (b 43), .ref (b 44), .int (gg 44), .ref (b 46), .ref (b 47), .int (gg 47), .ref (b 49)])), (b 1, .inl (cB, 200, .inl v_6_1))]) [0, 1] (by decide) rfl
    have hK9 := hK.sub (tys' := [(cB, .byte)]) [0] rfl
    exact W.iret (v := (nI v_6_0)) hx hb hr (fun t ht hW => ⟨⟨(nI v_6_0), (v_6_0, v_6_1), rfl, (by first | exact Or.inl ⟨by omega, rfl, by omega⟩ | exact Or.inr ⟨by omega, rfl, rfl⟩), by rw [ht]; exact hP9, va_K.moved hW.alike hK9, hD9⟩, hS.F ht⟩) hS.2.2 dX8_feed_46
  · have zc_1 := c_1
    rw [Int32.le_iff_toInt_le] at zc_1
    try rw [zz_toInt (mt + 20) (by omega)] at zc_1
    try rw [show (200 : Int32).toInt = 200 from by decide] at zc_1
    refine lv_iconst (v := (-1)) hx hb dX8_feed_13 (by decide) ?_
    have hP9 := hP.sub (ws' := [(b 0, .inr (8, [.ref (b 1), .int (nI mt), .int (gg 2), .int (gg 3), .int (gg 4), .int (gg 5), .int (gg 6), .int (gg 7), .int (gg 8), .int (gg 9), .ref (b 11), .ref (b 12), .ref (b 13), .int (nI mc), .int (nI mh), .ref (b 16), .ref (b 17), .ref (b 18), .ref (b 19), .ref (b 20), .ref (b 21), .ref (b 22), .ref (b 23), .ref (b 24), .int (nI mf), .ref (b 26), .ref (b 27), .ref (b 28), .ref (b 29), .ref (b 30), .ref (b 31), .ref (b 32), .int (gg 32), .int (nI md), .ref (b 35), .ref (b 36), .ref (b 37), .ref (b 38), .ref (b 39), .ref (b 40), .int (gg 40), .ref (b 42), .ref (b 43), .ref (b 44), .int (gg 44), .ref (b 46), .ref (b 47), .int (gg 47), .ref (b 49)])), (b 1, .inl (cB, 200, .inl ta))]) [0, 1] rfl
    have hD9 := hD.sub (ws' := [(b 0, .inr (8, [.ref (b 1), .int (nI mt), .int (gg 2), .int (gg 3), .int (gg 4), .int (gg 5), .int (gg 6), .int (gg 7), .int (gg 8), .int (gg 9), .ref (b 11), .ref (b 12), .ref (b 13), .int (nI mc), .int (nI mh), .ref (b 16), .ref (b 17), .ref (b 18), .ref (b 19), .ref (b 20), .ref (b 21), .ref (b 22), .ref (b 23), .ref (b 24), .int (nI mf), .ref (b 26), .ref (b 27), .ref (b 28), .ref (b 29), .ref (b 30), .ref (b 31), .ref (b 32), .int (gg 32), .int (nI md), .ref (b 35), .ref (b 36), .ref (b 37), .ref (b 38), .ref (b 39), .ref (b 40), .int (gg 40), .ref (b 42), .ref (b 43), .ref (b 44), .int (gg 44), .ref (b 46), .ref (b 47), .int (gg 47), .ref (b 49)])), (b 1, .inl (cB, 200, .inl ta))]) [0, 1] (by decide) rfl
    have hK9 := hK.sub (tys' := [(cB, .byte)]) [0] rfl
    exact W.iret (v := (-1)) hx hb hr (fun t ht hW => ⟨⟨(-1), (mt, ta), rfl, (by first | exact Or.inl ⟨by omega, rfl, by omega⟩ | exact Or.inr ⟨by omega, rfl, rfl⟩), by rw [ht]; exact hP9, va_K.moved hW.alike hK9, hD9⟩, hS.F ht⟩) hS.2.2 dX8_feed_14

set_option maxHeartbeats 4000000 in
set_option maxRecDepth 100000 in
theorem m_end (l : Launch) (dC : Nat → ClassId) (dI : Nat → Nat → Nat) (b : Nat → Nat) (gg : Nat → Int32) (mt : Nat) (mc : Nat) (mh : Nat) (mf : Nat) (md : Nat) (p0 : Int32) (sz : Nat) (hmt : mt ≤ 200) : Met l yX8_end (zz_w yX8_end cX8_end 2 (some .int)) ({ frames := 1, cells := 0, slots := 0, locals := 25 }) (va_Pc [.ref (b 0), .int p0] (zz_B (dC, dI) sz [(b 0, .inr (8, [.ref (b 1), .int (nI mt), .int (gg 2), .int (gg 3), .int (gg 4), .int (gg 5), .int (gg 6), .int (gg 7), .int (gg 8), .int (gg 9), .ref (b 11), .ref (b 12), .ref (b 13), .int (nI mc), .int (nI mh), .ref (b 16), .ref (b 17), .ref (b 18), .ref (b 19), .ref (b 20), .ref (b 21), .ref (b 22), .ref (b 23), .ref (b 24), .int (nI mf), .ref (b 26), .ref (b 27), .ref (b 28), .ref (b 29), .ref (b 30), .ref (b 31), .ref (b 32), .int (gg 32), .int (nI md), .ref (b 35), .ref (b 36), .ref (b 37), .ref (b 38), .ref (b 39), .ref (b 40), .int (gg 40), .ref (b 42), .ref (b 43), .ref (b 44), .int (gg 44), .ref (b 46), .ref (b 47), .int (gg 47), .ref (b 49)]))] [])) (va_Qi (fun (r : Int32) (t2 : Nat) => ((0 ≤ p0.toInt ∧ p0.toInt ≤ (mt : Int)) ∧ r = p0 ∧ (t2 : Int) = p0.toInt) ∨ (¬ (0 ≤ p0.toInt ∧ p0.toInt ≤ (mt : Int)) ∧ r = -1 ∧ t2 = mt)) (fun (u0 : Nat) (t : State) => va_P (dC, dI) vwCl [(b 0, .inr (8, [.ref (b 1), .int (nI u0), .int (gg 2), .int (gg 3), .int (gg 4), .int (gg 5), .int (gg 6), .int (gg 7), .int (gg 8), .int (gg 9), .ref (b 11), .ref (b 12), .ref (b 13), .int (nI mc), .int (nI mh), .ref (b 16), .ref (b 17), .ref (b 18), .ref (b 19), .ref (b 20), .ref (b 21), .ref (b 22), .ref (b 23), .ref (b 24), .int (nI mf), .ref (b 26), .ref (b 27), .ref (b 28), .ref (b 29), .ref (b 30), .ref (b 31), .ref (b 32), .int (gg 32), .int (nI md), .ref (b 35), .ref (b 36), .ref (b 37), .ref (b 38), .ref (b 39), .ref (b 40), .int (gg 40), .ref (b 42), .ref (b 43), .ref (b 44), .int (gg 44), .ref (b 46), .ref (b 47), .int (gg 47), .ref (b 49)]))] t.heap ∧ va_K (dC, dI) vwCl [] t ∧ va_D (va_A [(b 0, .inr (8, [.ref (b 1), .int (nI mt), .int (gg 2), .int (gg 3), .int (gg 4), .int (gg 5), .int (gg 6), .int (gg 7), .int (gg 8), .int (gg 9), .ref (b 11), .ref (b 12), .ref (b 13), .int (nI mc), .int (nI mh), .ref (b 16), .ref (b 17), .ref (b 18), .ref (b 19), .ref (b 20), .ref (b 21), .ref (b 22), .ref (b 23), .ref (b 24), .int (nI mf), .ref (b 26), .ref (b 27), .ref (b 28), .ref (b 29), .ref (b 30), .ref (b 31), .ref (b 32), .int (gg 32), .int (nI md), .ref (b 35), .ref (b 36), .ref (b 37), .ref (b 38), .ref (b 39), .ref (b 40), .int (gg 40), .ref (b 42), .ref (b 43), .ref (b 44), .int (gg 44), .ref (b 46), .ref (b 47), .int (gg 47), .ref (b 49)]))] sz) [(b 0, .inr (8, [.ref (b 1), .int (nI u0), .int (gg 2), .int (gg 3), .int (gg 4), .int (gg 5), .int (gg 6), .int (gg 7), .int (gg 8), .int (gg 9), .ref (b 11), .ref (b 12), .ref (b 13), .int (nI mc), .int (nI mh), .ref (b 16), .ref (b 17), .ref (b 18), .ref (b 19), .ref (b 20), .ref (b 21), .ref (b 22), .ref (b 23), .ref (b 24), .int (nI mf), .ref (b 26), .ref (b 27), .ref (b 28), .ref (b 29), .ref (b 30), .ref (b 31), .ref (b 32), .int (gg 32), .int (nI md), .ref (b 35), .ref (b 36), .ref (b 37), .ref (b 38), .ref (b 39), .ref (b 40), .int (gg 40), .ref (b 42), .ref (b 43), .ref (b 44), .int (gg 44), .ref (b 46), .ref (b 47), .int (gg 47), .ref (b 49)]))]) (va_A [(b 0, .inr (8, [.ref (b 1), .int (nI mt), .int (gg 2), .int (gg 3), .int (gg 4), .int (gg 5), .int (gg 6), .int (gg 7), .int (gg 8), .int (gg 9), .ref (b 11), .ref (b 12), .ref (b 13), .int (nI mc), .int (nI mh), .ref (b 16), .ref (b 17), .ref (b 18), .ref (b 19), .ref (b 20), .ref (b 21), .ref (b 22), .ref (b 23), .ref (b 24), .int (nI mf), .ref (b 26), .ref (b 27), .ref (b 28), .ref (b 29), .ref (b 30), .ref (b 31), .ref (b 32), .int (gg 32), .int (nI md), .ref (b 35), .ref (b 36), .ref (b 37), .ref (b 38), .ref (b 39), .ref (b 40), .int (gg 40), .ref (b 42), .ref (b 43), .ref (b 44), .int (gg 44), .ref (b 46), .ref (b 47), .int (gg 47), .ref (b 49)]))] sz)) 0 0 (va_A [(b 0, .inr (8, [.ref (b 1), .int (nI mt), .int (gg 2), .int (gg 3), .int (gg 4), .int (gg 5), .int (gg 6), .int (gg 7), .int (gg 8), .int (gg 9), .ref (b 11), .ref (b 12), .ref (b 13), .int (nI mc), .int (nI mh), .ref (b 16), .ref (b 17), .ref (b 18), .ref (b 19), .ref (b 20), .ref (b 21), .ref (b 22), .ref (b 23), .ref (b 24), .int (nI mf), .ref (b 26), .ref (b 27), .ref (b 28), .ref (b 29), .ref (b 30), .ref (b 31), .ref (b 32), .int (gg 32), .int (nI md), .ref (b 35), .ref (b 36), .ref (b 37), .ref (b 38), .ref (b 39), .ref (b 40), .int (gg 40), .ref (b 42), .ref (b 43), .ref (b 44), .int (gg 44), .ref (b 46), .ref (b 47), .int (gg 47), .ref (b 49)]))] sz) := by
  refine Met.ofW (cc := cX8_end) (maxL := 2) (ret := (some .int)) (by decide) rfl ?_
  intro p e s m args below meth c s₁ B hml hv
  obtain ⟨rfl, hsz, hP, hK, hD0, hN⟩ := hv
  have hx := B.exec
  have hb := B.bytes
  have hr := B.returns
  have hts := atoms_spec (ws := zz_w yX8_end cX8_end 2 (some .int)) B.pre
  have hw : ∀ w ∈ zz_all, w.before _ s = true := fun w h => hts w (List.mem_cons_of_mem _ h)
  have hown : s.vm.findClass RX8 = some m.cls := findClass_of_methodNamed B.named
  have hlocks := B.notSynchronized
  subst hsz
  have hD := hD0.self (sz := s.heap.size)
  generalize hAe : va_A [(b 0, .inr (8, [.ref (b 1), .int (nI mt), .int (gg 2), .int (gg 3), .int (gg 4), .int (gg 5), .int (gg 6), .int (gg 7), .int (gg 8), .int (gg 9), .ref (b 11), .ref (b 12), .ref (b 13), .int (nI mc), .int (nI mh), .ref (b 16), .ref (b 17), .ref (b 18), .ref (b 19), .ref (b 20), .ref (b 21), .ref (b 22), .ref (b 23), .ref (b 24), .int (nI mf), .ref (b 26), .ref (b 27), .ref (b 28), .ref (b 29), .ref (b 30), .ref (b 31), .ref (b 32), .int (gg 32), .int (nI md), .ref (b 35), .ref (b 36), .ref (b 37), .ref (b 38), .ref (b 39), .ref (b 40), .int (gg 40), .ref (b 42), .ref (b 43), .ref (b 44), .int (gg 44), .ref (b 46), .ref (b 47), .int (gg 47), .ref (b 49)]))] s.heap.size = A at hD ⊢
  have hA : ∀ q : Nat, s.heap.size ≤ q → A q := fun q h => by rw [← hAe]; exact Or.inr h
  have hS : va_S A s.heap s.heap [] := va_S.rf
  have hP : va_P (dC, dI) vwCl [(b 0, .inr (8, [.ref (b 1), .int (nI mt), .int (gg 2), .int (gg 3), .int (gg 4), .int (gg 5), .int (gg 6), .int (gg 7), .int (gg 8), .int (gg 9), .ref (b 11), .ref (b 12), .ref (b 13), .int (nI mc), .int (nI mh), .ref (b 16), .ref (b 17), .ref (b 18), .ref (b 19), .ref (b 20), .ref (b 21), .ref (b 22), .ref (b 23), .ref (b 24), .int (nI mf), .ref (b 26), .ref (b 27), .ref (b 28), .ref (b 29), .ref (b 30), .ref (b 31), .ref (b 32), .int (gg 32), .int (nI md), .ref (b 35), .ref (b 36), .ref (b 37), .ref (b 38), .ref (b 39), .ref (b 40), .int (gg 40), .ref (b 42), .ref (b 43), .ref (b 44), .int (gg 44), .ref (b 46), .ref (b 47), .int (gg 47), .ref (b 49)]))] s.heap := hP
  have hl := lv_entry ([.ref (b 0), .int p0]) (n := 2) (Nat.le_of_ble_eq_true rfl)
  rw [lg_entry_eq]
  generalize (lg_sl ([.ref (b 0), .int p0]) ++ List.replicate (2 - (lg_sl ([.ref (b 0), .int p0])).length) Slot.unset).toArray = ls at hl ⊢
  have hl : lv_has ls 2 [(0, .ref (b 0)), (1, .int p0)] := hl
  refine lv_iload_n hx hb dX8_end_0 rfl (lv_at hl 1 rfl) ?_
  refine lv_i2l (v := Int32.toInt64 p0) hx hb dX8_end_1 rfl ?_
  refine lv_lconst (v := Int32.toInt64 0) hx hb dX8_end_2 (by decide) ?_
  refine lv_aload_n hx hb dX8_end_3 rfl (lv_at hl 0 rfl) ?_
  refine va_get (D := (dC, dI)) (ci := 8) (v := .int (nI mt)) (C := RX8) (T := TX8) (N := 49) hx hb hw zz_inX8 hown hK hP 0 rfl rfl 1 (by decide) (hw _ tw_192) (fun _ h9 => h9) rfl dX8_end_4 ?_
  refine lv_i2l (v := Int32.toInt64 (nI mt)) hx hb dX8_end_7 rfl ?_
  have hPc := hP.sub (ws' := []) [] rfl
  have hDc := hD.sub (ws' := []) [] (by decide) rfl
  have hKc := hK.sub (tys' := []) [] rfl
  have hFc := zz_free0 hS hA
  refine va_calli (va_runS (As := [.long (Int32.toInt64 p0), .long (Int32.toInt64 0), .long (Int32.toInt64 (nI mt))]) (rest := []) ⟨hx, hb, hml, hown, hw⟩ (k_in l dC dI p0 0 (nI mt) s.heap.size) ⟨callB_of 3 hw (zz_good tw_183) rfl rfl rfl (hw _ tw_184) (hw _ tw_185) (by decide +kernel) ⟨Nat.le_of_ble_eq_true rfl, Nat.le_of_ble_eq_true rfl⟩, (hw _ tw_186)⟩ ⟨zz_blind, zz_pre hPc hKc hDc hN⟩ rfl rfl hl.1 rfl (lv_room (Nat.le_of_ble_eq_true rfl)) dX8_end_8 ⟨Nat.le_of_ble_eq_true rfl, Nat.le_of_ble_eq_true rfl⟩) hS (fun q _ h => hFc q h) hFc (fun r_1 u_1 t H1 locs ht hvm e_1 hB hz1 hk1 hS => ?_)
  try dsimp only at e_1
  have hP := zz_keep hP hk1
  clear hk1 hB ht hvm
  generalize H1 = H at hP hS ⊢
  refine lv_if_ne (tgt := 16) hx hb dX8_end_11 (by decide) (fun c_2 => ?_) (fun c_2 => ?_)
  · have zc_2 := c_2
    rw [e_1, zz_in0, Int32.le_iff_toInt_le, Int32.le_iff_toInt_le] at zc_2
    try rw [show (0 : Int32).toInt = 0 from by decide] at zc_2
    try rw [zz_toInt mt (by omega)] at zc_2
    refine lv_aload_n hx hb dX8_end_16 rfl (lv_at hl 0 rfl) ?_
    refine lv_iload_n hx hb dX8_end_17 rfl (lv_at hl 1 rfl) ?_
    refine zz_seti (nI (Int32.toNatClampNeg p0)) (zz_back (by omega)) ?_
    refine va_put (D := (dC, dI)) (ci := 8) (v := .int (nI (Int32.toNatClampNeg p0))) (ty := .int) (C := RX8) (T := TX8) (N := 49) hx hb hw zz_inX8 tyX8 tyX8_ok nmX8 hown hK hP hD hS 0 rfl rfl 1 (by decide) (hw _ tw_192) (fun _ h9 => h9) rfl (by decide +kernel) rfl rfl (Nat.le_of_ble_eq_true rfl) dX8_end_18 (fun H locs hP hD hS => ?_)
    have hP : va_P (dC, dI) vwCl [(b 0, .inr (8, [.ref (b 1), .int (nI (Int32.toNatClampNeg p0)), .int (gg 2), .int (gg 3), .int (gg 4), .int (gg 5), .int (gg 6), .int (gg 7), .int (gg 8), .int (gg 9), .ref (b 11), .ref (b 12), .ref (b 13), .int (nI mc), .int (nI mh), .ref (b 16), .ref (b 17), .ref (b 18), .ref (b 19), .ref (b 20), .ref (b 21), .ref (b 22), .ref (b 23), .ref (b 24), .int (nI mf), .ref (b 26), .ref (b 27), .ref (b 28), .ref (b 29), .ref (b 30), .ref (b 31), .ref (b 32), .int (gg 32), .int (nI md), .ref (b 35), .ref (b 36), .ref (b 37), .ref (b 38), .ref (b 39), .ref (b 40), .int (gg 40), .ref (b 42), .ref (b 43), .ref (b 44), .int (gg 44), .ref (b 46), .ref (b 47), .int (gg 47), .ref (b 49)]))] H := hP
    have hD : va_D A [(b 0, .inr (8, [.ref (b 1), .int (nI (Int32.toNatClampNeg p0)), .int (gg 2), .int (gg 3), .int (gg 4), .int (gg 5), .int (gg 6), .int (gg 7), .int (gg 8), .int (gg 9), .ref (b 11), .ref (b 12), .ref (b 13), .int (nI mc), .int (nI mh), .ref (b 16), .ref (b 17), .ref (b 18), .ref (b 19), .ref (b 20), .ref (b 21), .ref (b 22), .ref (b 23), .ref (b 24), .int (nI mf), .ref (b 26), .ref (b 27), .ref (b 28), .ref (b 29), .ref (b 30), .ref (b 31), .ref (b 32), .int (gg 32), .int (nI md), .ref (b 35), .ref (b 36), .ref (b 37), .ref (b 38), .ref (b 39), .ref (b 40), .int (gg 40), .ref (b 42), .ref (b 43), .ref (b 44), .int (gg 44), .ref (b 46), .ref (b 47), .int (gg 47), .ref (b 49)]))] := hD
    refine lv_iload_n hx hb dX8_end_21 rfl (lv_at hl 1 rfl) ?_
    have hP9 := hP.sub (ws' := [(b 0, .inr (8, [.ref (b 1), .int (nI (Int32.toNatClampNeg p0)), .int (gg 2), .int (gg 3), .int (gg 4), .int (gg 5), .int (gg 6), .int (gg 7), .int (gg 8), .int (gg 9), .ref (b 11), .ref (b 12), .ref (b 13), .int (nI mc), .int (nI mh), .ref (b 16), .ref (b 17), .ref (b 18), .ref (b 19), .ref (b 20), .ref (b 21), .ref (b 22), .ref (b 23), .ref (b 24), .int (nI mf), .ref (b 26), .ref (b 27), .ref (b 28), .ref (b 29), .ref (b 30), .ref (b 31), .ref (b 32), .int (gg 32), .int (nI md), .ref (b 35), .ref (b 36), .ref (b 37), .ref (b 38), .ref (b 39), .ref (b 40), .int (gg 40), .ref (b 42), .ref (b 43), .ref (b 44), .int (gg 44), .ref (b 46), .ref (b 47), .int (gg 47), .ref (b 49)]))]) [0] rfl
    have hD9 := hD.sub (ws' := [(b 0, .inr (8, [.ref (b 1), .int (nI (Int32.toNatClampNeg p0)), .int (gg 2), .int (gg 3), .int (gg 4), .int (gg 5), .int (gg 6), .int (gg 7), .int (gg 8), .int (gg 9), .ref (b 11), .ref (b 12), .ref (b 13), .int (nI mc), .int (nI mh), .ref (b 16), .ref (b 17), .ref (b 18), .ref (b 19), .ref (b 20), .ref (b 21), .ref (b 22), .ref (b 23), .ref (b 24), .int (nI mf), .ref (b 26), .ref (b 27), .ref (b 28), .ref (b 29), .ref (b 30), .ref (b 31), .ref (b 32), .int (gg 32), .int (nI md), .ref (b 35), .ref (b 36), .ref (b 37), .ref (b 38), .ref (b 39), .ref (b 40), .int (gg 40), .ref (b 42), .ref (b 43), .ref (b 44), .int (gg 44), .ref (b 46), .ref (b 47), .int (gg 47), .ref (b 49)]))]) [0] (by decide) rfl
    have hK9 := hK.sub (tys' := []) [] rfl
    exact W.iret (v := p0) hx hb hr (fun t ht hW => ⟨⟨p0, ((Int32.toNatClampNeg p0)), rfl, (by first | exact Or.inl ⟨by omega, rfl, zz_clN (by omega)⟩ | exact Or.inr ⟨by omega, rfl, rfl⟩), by rw [ht]; exact hP9, va_K.moved hW.alike hK9, hD9⟩, hS.F ht⟩) hS.2.2 dX8_end_22
  · have zc_2 := c_2
    rw [e_1, zz_in0, Int32.le_iff_toInt_le, Int32.le_iff_toInt_le] at zc_2
    try rw [show (0 : Int32).toInt = 0 from by decide] at zc_2
    try rw [zz_toInt mt (by omega)] at zc_2
    refine lv_iconst (v := (-1)) hx hb dX8_end_14 (by decide) ?_
    have hP9 := hP.sub (ws' := [(b 0, .inr (8, [.ref (b 1), .int (nI mt), .int (gg 2), .int (gg 3), .int (gg 4), .int (gg 5), .int (gg 6), .int (gg 7), .int (gg 8), .int (gg 9), .ref (b 11), .ref (b 12), .ref (b 13), .int (nI mc), .int (nI mh), .ref (b 16), .ref (b 17), .ref (b 18), .ref (b 19), .ref (b 20), .ref (b 21), .ref (b 22), .ref (b 23), .ref (b 24), .int (nI mf), .ref (b 26), .ref (b 27), .ref (b 28), .ref (b 29), .ref (b 30), .ref (b 31), .ref (b 32), .int (gg 32), .int (nI md), .ref (b 35), .ref (b 36), .ref (b 37), .ref (b 38), .ref (b 39), .ref (b 40), .int (gg 40), .ref (b 42), .ref (b 43), .ref (b 44), .int (gg 44), .ref (b 46), .ref (b 47), .int (gg 47), .ref (b 49)]))]) [0] rfl
    have hD9 := hD.sub (ws' := [(b 0, .inr (8, [.ref (b 1), .int (nI mt), .int (gg 2), .int (gg 3), .int (gg 4), .int (gg 5), .int (gg 6), .int (gg 7), .int (gg 8), .int (gg 9), .ref (b 11), .ref (b 12), .ref (b 13), .int (nI mc), .int (nI mh), .ref (b 16), .ref (b 17), .ref (b 18), .ref (b 19), .ref (b 20), .ref (b 21), .ref (b 22), .ref (b 23), .ref (b 24), .int (nI mf), .ref (b 26), .ref (b 27), .ref (b 28), .ref (b 29), .ref (b 30), .ref (b 31), .ref (b 32), .int (gg 32), .int (nI md), .ref (b 35), .ref (b 36), .ref (b 37), .ref (b 38), .ref (b 39), .ref (b 40), .int (gg 40), .ref (b 42), .ref (b 43), .ref (b 44), .int (gg 44), .ref (b 46), .ref (b 47), .int (gg 47), .ref (b 49)]))]) [0] (by decide) rfl
    have hK9 := hK.sub (tys' := []) [] rfl
    exact W.iret (v := (-1)) hx hb hr (fun t ht hW => ⟨⟨(-1), (mt), rfl, (by first | exact Or.inl ⟨by omega, rfl, zz_clN (by omega)⟩ | exact Or.inr ⟨by omega, rfl, rfl⟩), by rw [ht]; exact hP9, va_K.moved hW.alike hK9, hD9⟩, hS.F ht⟩) hS.2.2 dX8_end_15

set_option maxHeartbeats 4000000 in
set_option maxRecDepth 100000 in
theorem m_ill (l : Launch) (dC : Nat → ClassId) (dI : Nat → Nat → Nat) (b : Nat → Nat) (gg : Nat → Int32) (mt : Nat) (mc : Nat) (mh : Nat) (mf : Nat) (md : Nat) (cI : ClassId) (il : Nat → Int32) (p0 : Int32) (p1 : Int32) (sz : Nat) (hmh : mh ≤ 8) : Met l yX8_ill (zz_w yX8_ill cX8_ill 3 (some .boolean)) ({ frames := 2, cells := 0, slots := 0, locals := 46 }) (va_Pc [.ref (b 0), .int p0, .int p1] (zz_B (dC, dI) sz [(b 0, .inr (8, [.ref (b 1), .int (nI mt), .int (gg 2), .int (gg 3), .int (gg 4), .int (gg 5), .int (gg 6), .int (gg 7), .int (gg 8), .int (gg 9), .ref (b 11), .ref (b 12), .ref (b 13), .int (nI mc), .int (nI mh), .ref (b 16), .ref (b 17), .ref (b 18), .ref (b 19), .ref (b 20), .ref (b 21), .ref (b 22), .ref (b 23), .ref (b 24), .int (nI mf), .ref (b 26), .ref (b 27), .ref (b 28), .ref (b 29), .ref (b 30), .ref (b 31), .ref (b 32), .int (gg 32), .int (nI md), .ref (b 35), .ref (b 36), .ref (b 37), .ref (b 38), .ref (b 39), .ref (b 40), .int (gg 40), .ref (b 42), .ref (b 43), .ref (b 44), .int (gg 44), .ref (b 46), .ref (b 47), .int (gg 47), .ref (b 49)])), (b 18, .inl (cI, 8, .inl il))] [(cI, .int)])) (va_Qi (fun (r : Int32) (_ : Nat → Int32) => (((0 ≤ p0.toInt ∧ p0.toInt < (mh : Int)) ∧ (0 ≤ p1.toInt ∧ p1.toInt ≤ 400)) ∧ r = 1) ∨ (¬ ((0 ≤ p0.toInt ∧ p0.toInt < (mh : Int)) ∧ (0 ≤ p1.toInt ∧ p1.toInt ≤ 400)) ∧ r = 0)) (fun (u0 : Nat → Int32) (t : State) => va_P (dC, dI) vwCl [(b 0, .inr (8, [.ref (b 1), .int (nI mt), .int (gg 2), .int (gg 3), .int (gg 4), .int (gg 5), .int (gg 6), .int (gg 7), .int (gg 8), .int (gg 9), .ref (b 11), .ref (b 12), .ref (b 13), .int (nI mc), .int (nI mh), .ref (b 16), .ref (b 17), .ref (b 18), .ref (b 19), .ref (b 20), .ref (b 21), .ref (b 22), .ref (b 23), .ref (b 24), .int (nI mf), .ref (b 26), .ref (b 27), .ref (b 28), .ref (b 29), .ref (b 30), .ref (b 31), .ref (b 32), .int (gg 32), .int (nI md), .ref (b 35), .ref (b 36), .ref (b 37), .ref (b 38), .ref (b 39), .ref (b 40), .int (gg 40), .ref (b 42), .ref (b 43), .ref (b 44), .int (gg 44), .ref (b 46), .ref (b 47), .int (gg 47), .ref (b 49)])), (b 18, .inl (cI, 8, .inl u0))] t.heap ∧ va_K (dC, dI) vwCl [(cI, .int)] t ∧ va_D (va_A [(b 0, .inr (8, [.ref (b 1), .int (nI mt), .int (gg 2), .int (gg 3), .int (gg 4), .int (gg 5), .int (gg 6), .int (gg 7), .int (gg 8), .int (gg 9), .ref (b 11), .ref (b 12), .ref (b 13), .int (nI mc), .int (nI mh), .ref (b 16), .ref (b 17), .ref (b 18), .ref (b 19), .ref (b 20), .ref (b 21), .ref (b 22), .ref (b 23), .ref (b 24), .int (nI mf), .ref (b 26), .ref (b 27), .ref (b 28), .ref (b 29), .ref (b 30), .ref (b 31), .ref (b 32), .int (gg 32), .int (nI md), .ref (b 35), .ref (b 36), .ref (b 37), .ref (b 38), .ref (b 39), .ref (b 40), .int (gg 40), .ref (b 42), .ref (b 43), .ref (b 44), .int (gg 44), .ref (b 46), .ref (b 47), .int (gg 47), .ref (b 49)])), (b 18, .inl (cI, 8, .inl il))] sz) [(b 0, .inr (8, [.ref (b 1), .int (nI mt), .int (gg 2), .int (gg 3), .int (gg 4), .int (gg 5), .int (gg 6), .int (gg 7), .int (gg 8), .int (gg 9), .ref (b 11), .ref (b 12), .ref (b 13), .int (nI mc), .int (nI mh), .ref (b 16), .ref (b 17), .ref (b 18), .ref (b 19), .ref (b 20), .ref (b 21), .ref (b 22), .ref (b 23), .ref (b 24), .int (nI mf), .ref (b 26), .ref (b 27), .ref (b 28), .ref (b 29), .ref (b 30), .ref (b 31), .ref (b 32), .int (gg 32), .int (nI md), .ref (b 35), .ref (b 36), .ref (b 37), .ref (b 38), .ref (b 39), .ref (b 40), .int (gg 40), .ref (b 42), .ref (b 43), .ref (b 44), .int (gg 44), .ref (b 46), .ref (b 47), .int (gg 47), .ref (b 49)])), (b 18, .inl (cI, 8, .inl u0))]) (va_A [(b 0, .inr (8, [.ref (b 1), .int (nI mt), .int (gg 2), .int (gg 3), .int (gg 4), .int (gg 5), .int (gg 6), .int (gg 7), .int (gg 8), .int (gg 9), .ref (b 11), .ref (b 12), .ref (b 13), .int (nI mc), .int (nI mh), .ref (b 16), .ref (b 17), .ref (b 18), .ref (b 19), .ref (b 20), .ref (b 21), .ref (b 22), .ref (b 23), .ref (b 24), .int (nI mf), .ref (b 26), .ref (b 27), .ref (b 28), .ref (b 29), .ref (b 30), .ref (b 31), .ref (b 32), .int (gg 32), .int (nI md), .ref (b 35), .ref (b 36), .ref (b 37), .ref (b 38), .ref (b 39), .ref (b 40), .int (gg 40), .ref (b 42), .ref (b 43), .ref (b 44), .int (gg 44), .ref (b 46), .ref (b 47), .int (gg 47), .ref (b 49)])), (b 18, .inl (cI, 8, .inl il))] sz)) 0 0 (va_A [(b 0, .inr (8, [.ref (b 1), .int (nI mt), .int (gg 2), .int (gg 3), .int (gg 4), .int (gg 5), .int (gg 6), .int (gg 7), .int (gg 8), .int (gg 9), .ref (b 11), .ref (b 12), .ref (b 13), .int (nI mc), .int (nI mh), .ref (b 16), .ref (b 17), .ref (b 18), .ref (b 19), .ref (b 20), .ref (b 21), .ref (b 22), .ref (b 23), .ref (b 24), .int (nI mf), .ref (b 26), .ref (b 27), .ref (b 28), .ref (b 29), .ref (b 30), .ref (b 31), .ref (b 32), .int (gg 32), .int (nI md), .ref (b 35), .ref (b 36), .ref (b 37), .ref (b 38), .ref (b 39), .ref (b 40), .int (gg 40), .ref (b 42), .ref (b 43), .ref (b 44), .int (gg 44), .ref (b 46), .ref (b 47), .int (gg 47), .ref (b 49)])), (b 18, .inl (cI, 8, .inl il))] sz) := by
  refine Met.ofW (cc := cX8_ill) (maxL := 3) (ret := (some .boolean)) (by decide) rfl ?_
  intro p e s m args below meth c s₁ B hml hv
  obtain ⟨rfl, hsz, hP, hK, hD0, hN⟩ := hv
  have hx := B.exec
  have hb := B.bytes
  have hr := B.returns
  have hts := atoms_spec (ws := zz_w yX8_ill cX8_ill 3 (some .boolean)) B.pre
  have hw : ∀ w ∈ zz_all, w.before _ s = true := fun w h => hts w (List.mem_cons_of_mem _ h)
  have hown : s.vm.findClass RX8 = some m.cls := findClass_of_methodNamed B.named
  have hlocks := B.notSynchronized
  subst hsz
  have hD := hD0.self (sz := s.heap.size)
  generalize hAe : va_A [(b 0, .inr (8, [.ref (b 1), .int (nI mt), .int (gg 2), .int (gg 3), .int (gg 4), .int (gg 5), .int (gg 6), .int (gg 7), .int (gg 8), .int (gg 9), .ref (b 11), .ref (b 12), .ref (b 13), .int (nI mc), .int (nI mh), .ref (b 16), .ref (b 17), .ref (b 18), .ref (b 19), .ref (b 20), .ref (b 21), .ref (b 22), .ref (b 23), .ref (b 24), .int (nI mf), .ref (b 26), .ref (b 27), .ref (b 28), .ref (b 29), .ref (b 30), .ref (b 31), .ref (b 32), .int (gg 32), .int (nI md), .ref (b 35), .ref (b 36), .ref (b 37), .ref (b 38), .ref (b 39), .ref (b 40), .int (gg 40), .ref (b 42), .ref (b 43), .ref (b 44), .int (gg 44), .ref (b 46), .ref (b 47), .int (gg 47), .ref (b 49)])), (b 18, .inl (cI, 8, .inl il))] s.heap.size = A at hD ⊢
  have hA : ∀ q : Nat, s.heap.size ≤ q → A q := fun q h => by rw [← hAe]; exact Or.inr h
  have hS : va_S A s.heap s.heap [] := va_S.rf
  have hP : va_P (dC, dI) vwCl [(b 0, .inr (8, [.ref (b 1), .int (nI mt), .int (gg 2), .int (gg 3), .int (gg 4), .int (gg 5), .int (gg 6), .int (gg 7), .int (gg 8), .int (gg 9), .ref (b 11), .ref (b 12), .ref (b 13), .int (nI mc), .int (nI mh), .ref (b 16), .ref (b 17), .ref (b 18), .ref (b 19), .ref (b 20), .ref (b 21), .ref (b 22), .ref (b 23), .ref (b 24), .int (nI mf), .ref (b 26), .ref (b 27), .ref (b 28), .ref (b 29), .ref (b 30), .ref (b 31), .ref (b 32), .int (gg 32), .int (nI md), .ref (b 35), .ref (b 36), .ref (b 37), .ref (b 38), .ref (b 39), .ref (b 40), .int (gg 40), .ref (b 42), .ref (b 43), .ref (b 44), .int (gg 44), .ref (b 46), .ref (b 47), .int (gg 47), .ref (b 49)])), (b 18, .inl (cI, 8, .inl il))] s.heap := hP
  have hl := lv_entry ([.ref (b 0), .int p0, .int p1]) (n := 3) (Nat.le_of_ble_eq_true rfl)
  rw [lg_entry_eq]
  generalize (lg_sl ([.ref (b 0), .int p0, .int p1]) ++ List.replicate (3 - (lg_sl ([.ref (b 0), .int p0, .int p1])).length) Slot.unset).toArray = ls at hl ⊢
  have hl : lv_has ls 3 [(0, .ref (b 0)), (1, .int p0), (2, .int p1)] := hl
  refine lv_aload_n hx hb dX8_ill_0 rfl (lv_at hl 0 rfl) ?_
  refine lv_iload_n hx hb dX8_ill_1 rfl (lv_at hl 1 rfl) ?_
  have hPc := hP.sub (ws' := [(b 0, .inr (8, [.ref (b 1), .int (nI mt), .int (gg 2), .int (gg 3), .int (gg 4), .int (gg 5), .int (gg 6), .int (gg 7), .int (gg 8), .int (gg 9), .ref (b 11), .ref (b 12), .ref (b 13), .int (nI mc), .int (nI mh), .ref (b 16), .ref (b 17), .ref (b 18), .ref (b 19), .ref (b 20), .ref (b 21), .ref (b 22), .ref (b 23), .ref (b 24), .int (nI mf), .ref (b 26), .ref (b 27), .ref (b 28), .ref (b 29), .ref (b 30), .ref (b 31), .ref (b 32), .int (gg 32), .int (nI md), .ref (b 35), .ref (b 36), .ref (b 37), .ref (b 38), .ref (b 39), .ref (b 40), .int (gg 40), .ref (b 42), .ref (b 43), .ref (b 44), .int (gg 44), .ref (b 46), .ref (b 47), .int (gg 47), .ref (b 49)]))]) [0] rfl
  have hDc := hD.sub (ws' := [(b 0, .inr (8, [.ref (b 1), .int (nI mt), .int (gg 2), .int (gg 3), .int (gg 4), .int (gg 5), .int (gg 6), .int (gg 7), .int (gg 8), .int (gg 9), .ref (b 11), .ref (b 12), .ref (b 13), .int (nI mc), .int (nI mh), .ref (b 16), .ref (b 17), .ref (b 18), .ref (b 19), .ref (b 20), .ref (b 21), .ref (b 22), .ref (b 23), .ref (b 24), .int (nI mf), .ref (b 26), .ref (b 27), .ref (b 28), .ref (b 29), .ref (b 30), .ref (b 31), .ref (b 32), .int (gg 32), .int (nI md), .ref (b 35), .ref (b 36), .ref (b 37), .ref (b 38), .ref (b 39), .ref (b 40), .int (gg 40), .ref (b 42), .ref (b 43), .ref (b 44), .int (gg 44), .ref (b 46), .ref (b 47), .int (gg 47), .ref (b 49)]))]) [0] (by decide) rfl
  have hKc := hK.sub (tys' := []) [] rfl
  have hFc := zz_free0 hS hA
  refine va_calli (va_runV (As := [.int p0]) (rest := []) ⟨hx, hb, hml, hown, hw⟩ (m_isHouse l dC dI b gg mt mc mh mf md p0 s.heap.size (by omega)) ⟨callB_of 1 hw (zz_good tw_197) rfl rfl rfl (hw _ tw_184) (hw _ tw_198) (by decide +kernel) ⟨Nat.le_of_ble_eq_true rfl, Nat.le_of_ble_eq_true rfl⟩, (hw _ tw_199), (hw _ tw_200)⟩ ⟨zz_blind, va_recv hKc hPc (ci := 8) (q0 := 0) rfl rfl, zz_pre hPc hKc hDc hN⟩ rfl rfl hl.1 rfl (lv_room (Nat.le_of_ble_eq_true rfl)) dX8_ill_2 ⟨Nat.le_of_ble_eq_true rfl, Nat.le_of_ble_eq_true rfl⟩) hS (fun q _ h => hFc q h) hFc (fun r_1 u_1 t H1 locs ht hvm e_1 hB hz1 hk1 hS => ?_)
  try dsimp only at e_1
  have hP := zz_keep hP hk1
  clear hk1 hB ht hvm
  generalize H1 = H at hP hS ⊢
  rcases e_1 with ⟨n1_1, er_1⟩ | ⟨n1_1, er_1⟩
  · refine zz_seti 1 er_1 ?_
    refine lv_if_eq (tgt := 20) hx hb dX8_ill_5 (by decide) (fun c_9 => absurd c_9 (by decide)) (fun _ => ?_)
    refine lv_iload_n hx hb dX8_ill_8 rfl (lv_at hl 2 rfl) ?_
    refine lv_i2l (v := Int32.toInt64 p1) hx hb dX8_ill_9 rfl ?_
    refine lv_lconst (v := Int32.toInt64 0) hx hb dX8_ill_10 (by decide) ?_
    refine lv_ldc2 (v := 400) hx hb hown (hw _ tw_201) dX8_ill_11 ?_
    refine zz_setl (Int32.toInt64 400) (by decide) ?_
    have hPc := hP.sub (ws' := []) [] rfl
    have hDc := hD.sub (ws' := []) [] (by decide) rfl
    have hKc := hK.sub (tys' := []) [] rfl
    have hFc := zz_free0 hS hA
    refine va_calli (va_runS (As := [.long (Int32.toInt64 p1), .long (Int32.toInt64 0), .long (Int32.toInt64 400)]) (rest := []) ⟨hx, hb, hml, hown, hw⟩ (k_in l dC dI p1 0 400 H.size) ⟨callB_of 3 hw (zz_good tw_183) rfl rfl rfl (hw _ tw_184) (hw _ tw_185) (by decide +kernel) ⟨Nat.le_of_ble_eq_true rfl, Nat.le_of_ble_eq_true rfl⟩, (hw _ tw_186)⟩ ⟨zz_blind, zz_pre hPc hKc hDc hN⟩ rfl rfl hl.1 rfl (lv_room (Nat.le_of_ble_eq_true rfl)) dX8_ill_14 ⟨Nat.le_of_ble_eq_true rfl, Nat.le_of_ble_eq_true rfl⟩) hS (fun q _ h => hFc q h) hFc (fun r_2 u_2 t H1 locs ht hvm e_2 hB hz1 hk1 hS => ?_)
    try dsimp only at e_2
    have hP := zz_keep hP hk1
    clear hk1 hB ht hvm
    generalize H1 = H at hP hS ⊢
    refine lv_if_ne (tgt := 22) hx hb dX8_ill_17 (by decide) (fun c_3 => ?_) (fun c_3 => ?_)
    · have zc_3 := c_3
      rw [e_2, zz_in0, Int32.le_iff_toInt_le, Int32.le_iff_toInt_le] at zc_3
      try rw [show (0 : Int32).toInt = 0 from by decide] at zc_3
      try rw [show (400 : Int32).toInt = 400 from by decide] at zc_3
      refine lv_aload_n hx hb dX8_ill_22 rfl (lv_at hl 0 rfl) ?_
      refine va_get (D := (dC, dI)) (ci := 8) (v := .ref (b 18)) (C := RX8) (T := TX8) (N := 49) hx hb hw zz_inX8 hown hK hP 0 rfl rfl 17 (by decide) (hw _ tw_202) (fun _ h9 => h9) rfl dX8_ill_23 ?_
      refine lv_iload_n hx hb dX8_ill_26 rfl (lv_at hl 1 rfl) ?_
      refine lv_iload_n hx hb dX8_ill_27 rfl (lv_at hl 2 rfl) ?_
      refine va_iast hx hb hK hP hD hS 1 0 rfl rfl (vp_in_iff.mpr (by constructor <;> omega)) dX8_ill_28 (fun H locs hP hD hS => ?_)
      have hP : va_P (dC, dI) vwCl [(b 0, .inr (8, [.ref (b 1), .int (nI mt), .int (gg 2), .int (gg 3), .int (gg 4), .int (gg 5), .int (gg 6), .int (gg 7), .int (gg 8), .int (gg 9), .ref (b 11), .ref (b 12), .ref (b 13), .int (nI mc), .int (nI mh), .ref (b 16), .ref (b 17), .ref (b 18), .ref (b 19), .ref (b 20), .ref (b 21), .ref (b 22), .ref (b 23), .ref (b 24), .int (nI mf), .ref (b 26), .ref (b 27), .ref (b 28), .ref (b 29), .ref (b 30), .ref (b 31), .ref (b 32), .int (gg 32), .int (nI md), .ref (b 35), .ref (b 36), .ref (b 37), .ref (b 38), .ref (b 39), .ref (b 40), .int (gg 40), .ref (b 42), .ref (b 43), .ref (b 44), .int (gg 44), .ref (b 46), .ref (b 47), .int (gg 47), .ref (b 49)])), (b 18, .inl (cI, 8, .inl (upd il (Int32.toNatClampNeg p0) p1)))] H := hP
      have hD : va_D A [(b 0, .inr (8, [.ref (b 1), .int (nI mt), .int (gg 2), .int (gg 3), .int (gg 4), .int (gg 5), .int (gg 6), .int (gg 7), .int (gg 8), .int (gg 9), .ref (b 11), .ref (b 12), .ref (b 13), .int (nI mc), .int (nI mh), .ref (b 16), .ref (b 17), .ref (b 18), .ref (b 19), .ref (b 20), .ref (b 21), .ref (b 22), .ref (b 23), .ref (b 24), .int (nI mf), .ref (b 26), .ref (b 27), .ref (b 28), .ref (b 29), .ref (b 30), .ref (b 31), .ref (b 32), .int (gg 32), .int (nI md), .ref (b 35), .ref (b 36), .ref (b 37), .ref (b 38), .ref (b 39), .ref (b 40), .int (gg 40), .ref (b 42), .ref (b 43), .ref (b 44), .int (gg 44), .ref (b 46), .ref (b 47), .int (gg 47), .ref (b 49)])), (b 18, .inl (cI, 8, .inl (upd il (Int32.toNatClampNeg p0) p1)))] := hD
      refine lv_iconst (v := 1) hx hb dX8_ill_29 (by decide) ?_
      have hP9 := hP.sub (ws' := [(b 0, .inr (8, [.ref (b 1), .int (nI mt), .int (gg 2), .int (gg 3), .int (gg 4), .int (gg 5), .int (gg 6), .int (gg 7), .int (gg 8), .int (gg 9), .ref (b 11), .ref (b 12), .ref (b 13), .int (nI mc), .int (nI mh), .ref (b 16), .ref (b 17), .ref (b 18), .ref (b 19), .ref (b 20), .ref (b 21), .ref (b 22), .ref (b 23), .ref (b 24), .int (nI mf), .ref (b 26), .ref (b 27), .ref (b 28), .ref (b 29), .ref (b 30), .ref (b 31), .ref (b 32), .int (gg 32), .int (nI md), .ref (b 35), .ref (b 36), .ref (b 37), .ref (b 38), .ref (b 39), .ref (b 40), .int (gg 40), .ref (b 42), .ref (b 43), .ref (b 44), .int (gg 44), .ref (b 46), .ref (b 47), .int (gg 47), .ref (b 49)])), (b 18, .inl (cI, 8, .inl (upd il (Int32.toNatClampNeg p0) p1)))]) [0, 1] rfl
      have hD9 := hD.sub (ws' := [(b 0, .inr (8, [.ref (b 1), .int (nI mt), .int (gg 2), .int (gg 3), .int (gg 4), .int (gg 5), .int (gg 6), .int (gg 7), .int (gg 8), .int (gg 9), .ref (b 11), .ref (b 12), .ref (b 13), .int (nI mc), .int (nI mh), .ref (b 16), .ref (b 17), .ref (b 18), .ref (b 19), .ref (b 20), .ref (b 21), .ref (b 22), .ref (b 23), .ref (b 24), .int (nI mf), .ref (b 26), .ref (b 27), .ref (b 28), .ref (b 29), .ref (b 30), .ref (b 31), .ref (b 32), .int (gg 32), .int (nI md), .ref (b 35), .ref (b 36), .ref (b 37), .ref (b 38), .ref (b 39), .ref (b 40), .int (gg 40), .ref (b 42), .ref (b 43), .ref (b 44), .int (gg 44), .ref (b 46), .ref (b 47), .int (gg 47), .ref (b 49)])), (b 18, .inl (cI, 8, .inl (upd il (Int32.toNatClampNeg p0) p1)))]) [0, 1] (by decide) rfl
      have hK9 := hK.sub (tys' := [(cI, .int)]) [0] rfl
      exact W.zret (v := 1) hx hb hr (rfl) (fun t ht hW => ⟨⟨1, ((upd il (Int32.toNatClampNeg p0) p1)), rfl, (by first | exact Or.inl ⟨by omega, rfl⟩ | exact Or.inr ⟨by omega, rfl⟩), by rw [ht]; exact hP9, va_K.moved hW.alike hK9, hD9⟩, hS.F ht⟩) hS.2.2 dX8_ill_30
    · have zc_3 := c_3
      rw [e_2, zz_in0, Int32.le_iff_toInt_le, Int32.le_iff_toInt_le] at zc_3
      try rw [show (0 : Int32).toInt = 0 from by decide] at zc_3
      try rw [show (400 : Int32).toInt = 400 from by decide] at zc_3
      refine lv_iconst (v := 0) hx hb dX8_ill_20 (by decide) ?_
      have hP9 := hP.sub (ws' := [(b 0, .inr (8, [.ref (b 1), .int (nI mt), .int (gg 2), .int (gg 3), .int (gg 4), .int (gg 5), .int (gg 6), .int (gg 7), .int (gg 8), .int (gg 9), .ref (b 11), .ref (b 12), .ref (b 13), .int (nI mc), .int (nI mh), .ref (b 16), .ref (b 17), .ref (b 18), .ref (b 19), .ref (b 20), .ref (b 21), .ref (b 22), .ref (b 23), .ref (b 24), .int (nI mf), .ref (b 26), .ref (b 27), .ref (b 28), .ref (b 29), .ref (b 30), .ref (b 31), .ref (b 32), .int (gg 32), .int (nI md), .ref (b 35), .ref (b 36), .ref (b 37), .ref (b 38), .ref (b 39), .ref (b 40), .int (gg 40), .ref (b 42), .ref (b 43), .ref (b 44), .int (gg 44), .ref (b 46), .ref (b 47), .int (gg 47), .ref (b 49)])), (b 18, .inl (cI, 8, .inl il))]) [0, 1] rfl
      have hD9 := hD.sub (ws' := [(b 0, .inr (8, [.ref (b 1), .int (nI mt), .int (gg 2), .int (gg 3), .int (gg 4), .int (gg 5), .int (gg 6), .int (gg 7), .int (gg 8), .int (gg 9), .ref (b 11), .ref (b 12), .ref (b 13), .int (nI mc), .int (nI mh), .ref (b 16), .ref (b 17), .ref (b 18), .ref (b 19), .ref (b 20), .ref (b 21), .ref (b 22), .ref (b 23), .ref (b 24), .int (nI mf), .ref (b 26), .ref (b 27), .ref (b 28), .ref (b 29), .ref (b 30), .ref (b 31), .ref (b 32), .int (gg 32), .int (nI md), .ref (b 35), .ref (b 36), .ref (b 37), .ref (b 38), .ref (b 39), .ref (b 40), .int (gg 40), .ref (b 42), .ref (b 43), .ref (b 44), .int (gg 44), .ref (b 46), .ref (b 47), .int (gg 47), .ref (b 49)])), (b 18, .inl (cI, 8, .inl il))]) [0, 1] (by decide) rfl
      have hK9 := hK.sub (tys' := [(cI, .int)]) [0] rfl
      exact W.zret (v := 0) hx hb hr (rfl) (fun t ht hW => ⟨⟨0, (il), rfl, (by first | exact Or.inl ⟨by omega, rfl⟩ | exact Or.inr ⟨by omega, rfl⟩), by rw [ht]; exact hP9, va_K.moved hW.alike hK9, hD9⟩, hS.F ht⟩) hS.2.2 dX8_ill_21
  · refine zz_seti 0 er_1 ?_
    refine lv_if_eq (tgt := 20) hx hb dX8_ill_5 (by decide) (fun _ => ?_) (fun c_9 => absurd c_9 (by decide))
    refine lv_iconst (v := 0) hx hb dX8_ill_20 (by decide) ?_
    have hP9 := hP.sub (ws' := [(b 0, .inr (8, [.ref (b 1), .int (nI mt), .int (gg 2), .int (gg 3), .int (gg 4), .int (gg 5), .int (gg 6), .int (gg 7), .int (gg 8), .int (gg 9), .ref (b 11), .ref (b 12), .ref (b 13), .int (nI mc), .int (nI mh), .ref (b 16), .ref (b 17), .ref (b 18), .ref (b 19), .ref (b 20), .ref (b 21), .ref (b 22), .ref (b 23), .ref (b 24), .int (nI mf), .ref (b 26), .ref (b 27), .ref (b 28), .ref (b 29), .ref (b 30), .ref (b 31), .ref (b 32), .int (gg 32), .int (nI md), .ref (b 35), .ref (b 36), .ref (b 37), .ref (b 38), .ref (b 39), .ref (b 40), .int (gg 40), .ref (b 42), .ref (b 43), .ref (b 44), .int (gg 44), .ref (b 46), .ref (b 47), .int (gg 47), .ref (b 49)])), (b 18, .inl (cI, 8, .inl il))]) [0, 1] rfl
    have hD9 := hD.sub (ws' := [(b 0, .inr (8, [.ref (b 1), .int (nI mt), .int (gg 2), .int (gg 3), .int (gg 4), .int (gg 5), .int (gg 6), .int (gg 7), .int (gg 8), .int (gg 9), .ref (b 11), .ref (b 12), .ref (b 13), .int (nI mc), .int (nI mh), .ref (b 16), .ref (b 17), .ref (b 18), .ref (b 19), .ref (b 20), .ref (b 21), .ref (b 22), .ref (b 23), .ref (b 24), .int (nI mf), .ref (b 26), .ref (b 27), .ref (b 28), .ref (b 29), .ref (b 30), .ref (b 31), .ref (b 32), .int (gg 32), .int (nI md), .ref (b 35), .ref (b 36), .ref (b 37), .ref (b 38), .ref (b 39), .ref (b 40), .int (gg 40), .ref (b 42), .ref (b 43), .ref (b 44), .int (gg 44), .ref (b 46), .ref (b 47), .int (gg 47), .ref (b 49)])), (b 18, .inl (cI, 8, .inl il))]) [0, 1] (by decide) rfl
    have hK9 := hK.sub (tys' := [(cI, .int)]) [0] rfl
    exact W.zret (v := 0) hx hb hr (rfl) (fun t ht hW => ⟨⟨0, (il), rfl, (by first | exact Or.inl ⟨by omega, rfl⟩ | exact Or.inr ⟨by omega, rfl⟩), by rw [ht]; exact hP9, va_K.moved hW.alike hK9, hD9⟩, hS.F ht⟩) hS.2.2 dX8_ill_21

set_option maxHeartbeats 4000000 in
set_option maxRecDepth 100000 in
theorem m_loss (l : Launch) (dC : Nat → ClassId) (dI : Nat → Nat → Nat) (b : Nat → Nat) (gg : Nat → Int32) (mt : Nat) (mc : Nat) (mh : Nat) (mf : Nat) (md : Nat) (cI : ClassId) (lo : Nat → Int32) (p0 : Int32) (p1 : Int32) (sz : Nat) : Met l yX8_loss (zz_w yX8_loss cX8_loss 3 (some .boolean)) ({ frames := 1, cells := 0, slots := 0, locals := 25 }) (va_Pc [.ref (b 0), .int p0, .int p1] (zz_B (dC, dI) sz [(b 0, .inr (8, [.ref (b 1), .int (nI mt), .int (gg 2), .int (gg 3), .int (gg 4), .int (gg 5), .int (gg 6), .int (gg 7), .int (gg 8), .int (gg 9), .ref (b 11), .ref (b 12), .ref (b 13), .int (nI mc), .int (nI mh), .ref (b 16), .ref (b 17), .ref (b 18), .ref (b 19), .ref (b 20), .ref (b 21), .ref (b 22), .ref (b 23), .ref (b 24), .int (nI mf), .ref (b 26), .ref (b 27), .ref (b 28), .ref (b 29), .ref (b 30), .ref (b 31), .ref (b 32), .int (gg 32), .int (nI md), .ref (b 35), .ref (b 36), .ref (b 37), .ref (b 38), .ref (b 39), .ref (b 40), .int (gg 40), .ref (b 42), .ref (b 43), .ref (b 44), .int (gg 44), .ref (b 46), .ref (b 47), .int (gg 47), .ref (b 49)])), (b 24, .inl (cI, 10, .inl lo))] [(cI, .int)])) (va_Qi (fun (r : Int32) (_ : Nat → Int32) => (((0 ≤ p0.toInt ∧ p0.toInt ≤ 9) ∧ (0 ≤ p1.toInt ∧ p1.toInt ≤ 100)) ∧ r = 1) ∨ (¬ ((0 ≤ p0.toInt ∧ p0.toInt ≤ 9) ∧ (0 ≤ p1.toInt ∧ p1.toInt ≤ 100)) ∧ r = 0)) (fun (u0 : Nat → Int32) (t : State) => va_P (dC, dI) vwCl [(b 0, .inr (8, [.ref (b 1), .int (nI mt), .int (gg 2), .int (gg 3), .int (gg 4), .int (gg 5), .int (gg 6), .int (gg 7), .int (gg 8), .int (gg 9), .ref (b 11), .ref (b 12), .ref (b 13), .int (nI mc), .int (nI mh), .ref (b 16), .ref (b 17), .ref (b 18), .ref (b 19), .ref (b 20), .ref (b 21), .ref (b 22), .ref (b 23), .ref (b 24), .int (nI mf), .ref (b 26), .ref (b 27), .ref (b 28), .ref (b 29), .ref (b 30), .ref (b 31), .ref (b 32), .int (gg 32), .int (nI md), .ref (b 35), .ref (b 36), .ref (b 37), .ref (b 38), .ref (b 39), .ref (b 40), .int (gg 40), .ref (b 42), .ref (b 43), .ref (b 44), .int (gg 44), .ref (b 46), .ref (b 47), .int (gg 47), .ref (b 49)])), (b 24, .inl (cI, 10, .inl u0))] t.heap ∧ va_K (dC, dI) vwCl [(cI, .int)] t ∧ va_D (va_A [(b 0, .inr (8, [.ref (b 1), .int (nI mt), .int (gg 2), .int (gg 3), .int (gg 4), .int (gg 5), .int (gg 6), .int (gg 7), .int (gg 8), .int (gg 9), .ref (b 11), .ref (b 12), .ref (b 13), .int (nI mc), .int (nI mh), .ref (b 16), .ref (b 17), .ref (b 18), .ref (b 19), .ref (b 20), .ref (b 21), .ref (b 22), .ref (b 23), .ref (b 24), .int (nI mf), .ref (b 26), .ref (b 27), .ref (b 28), .ref (b 29), .ref (b 30), .ref (b 31), .ref (b 32), .int (gg 32), .int (nI md), .ref (b 35), .ref (b 36), .ref (b 37), .ref (b 38), .ref (b 39), .ref (b 40), .int (gg 40), .ref (b 42), .ref (b 43), .ref (b 44), .int (gg 44), .ref (b 46), .ref (b 47), .int (gg 47), .ref (b 49)])), (b 24, .inl (cI, 10, .inl lo))] sz) [(b 0, .inr (8, [.ref (b 1), .int (nI mt), .int (gg 2), .int (gg 3), .int (gg 4), .int (gg 5), .int (gg 6), .int (gg 7), .int (gg 8), .int (gg 9), .ref (b 11), .ref (b 12), .ref (b 13), .int (nI mc), .int (nI mh), .ref (b 16), .ref (b 17), .ref (b 18), .ref (b 19), .ref (b 20), .ref (b 21), .ref (b 22), .ref (b 23), .ref (b 24), .int (nI mf), .ref (b 26), .ref (b 27), .ref (b 28), .ref (b 29), .ref (b 30), .ref (b 31), .ref (b 32), .int (gg 32), .int (nI md), .ref (b 35), .ref (b 36), .ref (b 37), .ref (b 38), .ref (b 39), .ref (b 40), .int (gg 40), .ref (b 42), .ref (b 43), .ref (b 44), .int (gg 44), .ref (b 46), .ref (b 47), .int (gg 47), .ref (b 49)])), (b 24, .inl (cI, 10, .inl u0))]) (va_A [(b 0, .inr (8, [.ref (b 1), .int (nI mt), .int (gg 2), .int (gg 3), .int (gg 4), .int (gg 5), .int (gg 6), .int (gg 7), .int (gg 8), .int (gg 9), .ref (b 11), .ref (b 12), .ref (b 13), .int (nI mc), .int (nI mh), .ref (b 16), .ref (b 17), .ref (b 18), .ref (b 19), .ref (b 20), .ref (b 21), .ref (b 22), .ref (b 23), .ref (b 24), .int (nI mf), .ref (b 26), .ref (b 27), .ref (b 28), .ref (b 29), .ref (b 30), .ref (b 31), .ref (b 32), .int (gg 32), .int (nI md), .ref (b 35), .ref (b 36), .ref (b 37), .ref (b 38), .ref (b 39), .ref (b 40), .int (gg 40), .ref (b 42), .ref (b 43), .ref (b 44), .int (gg 44), .ref (b 46), .ref (b 47), .int (gg 47), .ref (b 49)])), (b 24, .inl (cI, 10, .inl lo))] sz)) 0 0 (va_A [(b 0, .inr (8, [.ref (b 1), .int (nI mt), .int (gg 2), .int (gg 3), .int (gg 4), .int (gg 5), .int (gg 6), .int (gg 7), .int (gg 8), .int (gg 9), .ref (b 11), .ref (b 12), .ref (b 13), .int (nI mc), .int (nI mh), .ref (b 16), .ref (b 17), .ref (b 18), .ref (b 19), .ref (b 20), .ref (b 21), .ref (b 22), .ref (b 23), .ref (b 24), .int (nI mf), .ref (b 26), .ref (b 27), .ref (b 28), .ref (b 29), .ref (b 30), .ref (b 31), .ref (b 32), .int (gg 32), .int (nI md), .ref (b 35), .ref (b 36), .ref (b 37), .ref (b 38), .ref (b 39), .ref (b 40), .int (gg 40), .ref (b 42), .ref (b 43), .ref (b 44), .int (gg 44), .ref (b 46), .ref (b 47), .int (gg 47), .ref (b 49)])), (b 24, .inl (cI, 10, .inl lo))] sz) := by
  refine Met.ofW (cc := cX8_loss) (maxL := 3) (ret := (some .boolean)) (by decide) rfl ?_
  intro p e s m args below meth c s₁ B hml hv
  obtain ⟨rfl, hsz, hP, hK, hD0, hN⟩ := hv
  have hx := B.exec
  have hb := B.bytes
  have hr := B.returns
  have hts := atoms_spec (ws := zz_w yX8_loss cX8_loss 3 (some .boolean)) B.pre
  have hw : ∀ w ∈ zz_all, w.before _ s = true := fun w h => hts w (List.mem_cons_of_mem _ h)
  have hown : s.vm.findClass RX8 = some m.cls := findClass_of_methodNamed B.named
  have hlocks := B.notSynchronized
  subst hsz
  have hD := hD0.self (sz := s.heap.size)
  generalize hAe : va_A [(b 0, .inr (8, [.ref (b 1), .int (nI mt), .int (gg 2), .int (gg 3), .int (gg 4), .int (gg 5), .int (gg 6), .int (gg 7), .int (gg 8), .int (gg 9), .ref (b 11), .ref (b 12), .ref (b 13), .int (nI mc), .int (nI mh), .ref (b 16), .ref (b 17), .ref (b 18), .ref (b 19), .ref (b 20), .ref (b 21), .ref (b 22), .ref (b 23), .ref (b 24), .int (nI mf), .ref (b 26), .ref (b 27), .ref (b 28), .ref (b 29), .ref (b 30), .ref (b 31), .ref (b 32), .int (gg 32), .int (nI md), .ref (b 35), .ref (b 36), .ref (b 37), .ref (b 38), .ref (b 39), .ref (b 40), .int (gg 40), .ref (b 42), .ref (b 43), .ref (b 44), .int (gg 44), .ref (b 46), .ref (b 47), .int (gg 47), .ref (b 49)])), (b 24, .inl (cI, 10, .inl lo))] s.heap.size = A at hD ⊢
  have hA : ∀ q : Nat, s.heap.size ≤ q → A q := fun q h => by rw [← hAe]; exact Or.inr h
  have hS : va_S A s.heap s.heap [] := va_S.rf
  have hP : va_P (dC, dI) vwCl [(b 0, .inr (8, [.ref (b 1), .int (nI mt), .int (gg 2), .int (gg 3), .int (gg 4), .int (gg 5), .int (gg 6), .int (gg 7), .int (gg 8), .int (gg 9), .ref (b 11), .ref (b 12), .ref (b 13), .int (nI mc), .int (nI mh), .ref (b 16), .ref (b 17), .ref (b 18), .ref (b 19), .ref (b 20), .ref (b 21), .ref (b 22), .ref (b 23), .ref (b 24), .int (nI mf), .ref (b 26), .ref (b 27), .ref (b 28), .ref (b 29), .ref (b 30), .ref (b 31), .ref (b 32), .int (gg 32), .int (nI md), .ref (b 35), .ref (b 36), .ref (b 37), .ref (b 38), .ref (b 39), .ref (b 40), .int (gg 40), .ref (b 42), .ref (b 43), .ref (b 44), .int (gg 44), .ref (b 46), .ref (b 47), .int (gg 47), .ref (b 49)])), (b 24, .inl (cI, 10, .inl lo))] s.heap := hP
  have hl := lv_entry ([.ref (b 0), .int p0, .int p1]) (n := 3) (Nat.le_of_ble_eq_true rfl)
  rw [lg_entry_eq]
  generalize (lg_sl ([.ref (b 0), .int p0, .int p1]) ++ List.replicate (3 - (lg_sl ([.ref (b 0), .int p0, .int p1])).length) Slot.unset).toArray = ls at hl ⊢
  have hl : lv_has ls 3 [(0, .ref (b 0)), (1, .int p0), (2, .int p1)] := hl
  refine lv_iload_n hx hb dX8_loss_0 rfl (lv_at hl 1 rfl) ?_
  refine lv_i2l (v := Int32.toInt64 p0) hx hb dX8_loss_1 rfl ?_
  refine lv_lconst (v := Int32.toInt64 0) hx hb dX8_loss_2 (by decide) ?_
  refine lv_ldc2 (v := 9) hx hb hown (hw _ tw_188) dX8_loss_3 ?_
  refine zz_setl (Int32.toInt64 9) (by decide) ?_
  have hPc := hP.sub (ws' := []) [] rfl
  have hDc := hD.sub (ws' := []) [] (by decide) rfl
  have hKc := hK.sub (tys' := []) [] rfl
  have hFc := zz_free0 hS hA
  refine va_calli (va_runS (As := [.long (Int32.toInt64 p0), .long (Int32.toInt64 0), .long (Int32.toInt64 9)]) (rest := []) ⟨hx, hb, hml, hown, hw⟩ (k_in l dC dI p0 0 9 s.heap.size) ⟨callB_of 3 hw (zz_good tw_183) rfl rfl rfl (hw _ tw_184) (hw _ tw_185) (by decide +kernel) ⟨Nat.le_of_ble_eq_true rfl, Nat.le_of_ble_eq_true rfl⟩, (hw _ tw_186)⟩ ⟨zz_blind, zz_pre hPc hKc hDc hN⟩ rfl rfl hl.1 rfl (lv_room (Nat.le_of_ble_eq_true rfl)) dX8_loss_6 ⟨Nat.le_of_ble_eq_true rfl, Nat.le_of_ble_eq_true rfl⟩) hS (fun q _ h => hFc q h) hFc (fun r_1 u_1 t H1 locs ht hvm e_1 hB hz1 hk1 hS => ?_)
  try dsimp only at e_1
  have hP := zz_keep hP hk1
  clear hk1 hB ht hvm
  generalize H1 = H at hP hS ⊢
  refine lv_if_eq (tgt := 24) hx hb dX8_loss_9 (by decide) (fun c_2 => ?_) (fun c_2 => ?_)
  · have zc_2 := c_2
    rw [e_1, zz_in0, Int32.le_iff_toInt_le, Int32.le_iff_toInt_le] at zc_2
    try rw [show (0 : Int32).toInt = 0 from by decide] at zc_2
    try rw [show (9 : Int32).toInt = 9 from by decide] at zc_2
    refine lv_iconst (v := 0) hx hb dX8_loss_24 (by decide) ?_
    have hP9 := hP.sub (ws' := [(b 0, .inr (8, [.ref (b 1), .int (nI mt), .int (gg 2), .int (gg 3), .int (gg 4), .int (gg 5), .int (gg 6), .int (gg 7), .int (gg 8), .int (gg 9), .ref (b 11), .ref (b 12), .ref (b 13), .int (nI mc), .int (nI mh), .ref (b 16), .ref (b 17), .ref (b 18), .ref (b 19), .ref (b 20), .ref (b 21), .ref (b 22), .ref (b 23), .ref (b 24), .int (nI mf), .ref (b 26), .ref (b 27), .ref (b 28), .ref (b 29), .ref (b 30), .ref (b 31), .ref (b 32), .int (gg 32), .int (nI md), .ref (b 35), .ref (b 36), .ref (b 37), .ref (b 38), .ref (b 39), .ref (b 40), .int (gg 40), .ref (b 42), .ref (b 43), .ref (b 44), .int (gg 44), .ref (b 46), .ref (b 47), .int (gg 47), .ref (b 49)])), (b 24, .inl (cI, 10, .inl lo))]) [0, 1] rfl
    have hD9 := hD.sub (ws' := [(b 0, .inr (8, [.ref (b 1), .int (nI mt), .int (gg 2), .int (gg 3), .int (gg 4), .int (gg 5), .int (gg 6), .int (gg 7), .int (gg 8), .int (gg 9), .ref (b 11), .ref (b 12), .ref (b 13), .int (nI mc), .int (nI mh), .ref (b 16), .ref (b 17), .ref (b 18), .ref (b 19), .ref (b 20), .ref (b 21), .ref (b 22), .ref (b 23), .ref (b 24), .int (nI mf), .ref (b 26), .ref (b 27), .ref (b 28), .ref (b 29), .ref (b 30), .ref (b 31), .ref (b 32), .int (gg 32), .int (nI md), .ref (b 35), .ref (b 36), .ref (b 37), .ref (b 38), .ref (b 39), .ref (b 40), .int (gg 40), .ref (b 42), .ref (b 43), .ref (b 44), .int (gg 44), .ref (b 46), .ref (b 47), .int (gg 47), .ref (b 49)])), (b 24, .inl (cI, 10, .inl lo))]) [0, 1] (by decide) rfl
    have hK9 := hK.sub (tys' := [(cI, .int)]) [0] rfl
    exact W.zret (v := 0) hx hb hr (rfl) (fun t ht hW => ⟨⟨0, (lo), rfl, (by first | exact Or.inl ⟨by omega, rfl⟩ | exact Or.inr ⟨by omega, rfl⟩), by rw [ht]; exact hP9, va_K.moved hW.alike hK9, hD9⟩, hS.F ht⟩) hS.2.2 dX8_loss_25
  · have zc_2 := c_2
    rw [e_1, zz_in0, Int32.le_iff_toInt_le, Int32.le_iff_toInt_le] at zc_2
    try rw [show (0 : Int32).toInt = 0 from by decide] at zc_2
    try rw [show (9 : Int32).toInt = 9 from by decide] at zc_2
    refine lv_iload_n hx hb dX8_loss_12 rfl (lv_at hl 2 rfl) ?_
    refine lv_i2l (v := Int32.toInt64 p1) hx hb dX8_loss_13 rfl ?_
    refine lv_lconst (v := Int32.toInt64 0) hx hb dX8_loss_14 (by decide) ?_
    refine lv_ldc2 (v := 100) hx hb hown (hw _ tw_203) dX8_loss_15 ?_
    refine zz_setl (Int32.toInt64 100) (by decide) ?_
    have hPc := hP.sub (ws' := []) [] rfl
    have hDc := hD.sub (ws' := []) [] (by decide) rfl
    have hKc := hK.sub (tys' := []) [] rfl
    have hFc := zz_free0 hS hA
    refine va_calli (va_runS (As := [.long (Int32.toInt64 p1), .long (Int32.toInt64 0), .long (Int32.toInt64 100)]) (rest := []) ⟨hx, hb, hml, hown, hw⟩ (k_in l dC dI p1 0 100 H.size) ⟨callB_of 3 hw (zz_good tw_183) rfl rfl rfl (hw _ tw_184) (hw _ tw_185) (by decide +kernel) ⟨Nat.le_of_ble_eq_true rfl, Nat.le_of_ble_eq_true rfl⟩, (hw _ tw_186)⟩ ⟨zz_blind, zz_pre hPc hKc hDc hN⟩ rfl rfl hl.1 rfl (lv_room (Nat.le_of_ble_eq_true rfl)) dX8_loss_18 ⟨Nat.le_of_ble_eq_true rfl, Nat.le_of_ble_eq_true rfl⟩) hS (fun q _ h => hFc q h) hFc (fun r_3 u_3 t H1 locs ht hvm e_3 hB hz1 hk1 hS => ?_)
    try dsimp only at e_3
    have hP := zz_keep hP hk1
    clear hk1 hB ht hvm
    generalize H1 = H at hP hS ⊢
    refine lv_if_ne (tgt := 26) hx hb dX8_loss_21 (by decide) (fun c_4 => ?_) (fun c_4 => ?_)
    · have zc_4 := c_4
      rw [e_3, zz_in0, Int32.le_iff_toInt_le, Int32.le_iff_toInt_le] at zc_4
      try rw [show (0 : Int32).toInt = 0 from by decide] at zc_4
      try rw [show (100 : Int32).toInt = 100 from by decide] at zc_4
      refine lv_aload_n hx hb dX8_loss_26 rfl (lv_at hl 0 rfl) ?_
      refine va_get (D := (dC, dI)) (ci := 8) (v := .ref (b 24)) (C := RX8) (T := TX8) (N := 49) hx hb hw zz_inX8 hown hK hP 0 rfl rfl 23 (by decide) (hw _ tw_204) (fun _ h9 => h9) rfl dX8_loss_27 ?_
      refine lv_iload_n hx hb dX8_loss_30 rfl (lv_at hl 1 rfl) ?_
      refine lv_iload_n hx hb dX8_loss_31 rfl (lv_at hl 2 rfl) ?_
      refine va_iast hx hb hK hP hD hS 1 0 rfl rfl (vp_in_iff.mpr (by constructor <;> omega)) dX8_loss_32 (fun H locs hP hD hS => ?_)
      have hP : va_P (dC, dI) vwCl [(b 0, .inr (8, [.ref (b 1), .int (nI mt), .int (gg 2), .int (gg 3), .int (gg 4), .int (gg 5), .int (gg 6), .int (gg 7), .int (gg 8), .int (gg 9), .ref (b 11), .ref (b 12), .ref (b 13), .int (nI mc), .int (nI mh), .ref (b 16), .ref (b 17), .ref (b 18), .ref (b 19), .ref (b 20), .ref (b 21), .ref (b 22), .ref (b 23), .ref (b 24), .int (nI mf), .ref (b 26), .ref (b 27), .ref (b 28), .ref (b 29), .ref (b 30), .ref (b 31), .ref (b 32), .int (gg 32), .int (nI md), .ref (b 35), .ref (b 36), .ref (b 37), .ref (b 38), .ref (b 39), .ref (b 40), .int (gg 40), .ref (b 42), .ref (b 43), .ref (b 44), .int (gg 44), .ref (b 46), .ref (b 47), .int (gg 47), .ref (b 49)])), (b 24, .inl (cI, 10, .inl (upd lo (Int32.toNatClampNeg p0) p1)))] H := hP
      have hD : va_D A [(b 0, .inr (8, [.ref (b 1), .int (nI mt), .int (gg 2), .int (gg 3), .int (gg 4), .int (gg 5), .int (gg 6), .int (gg 7), .int (gg 8), .int (gg 9), .ref (b 11), .ref (b 12), .ref (b 13), .int (nI mc), .int (nI mh), .ref (b 16), .ref (b 17), .ref (b 18), .ref (b 19), .ref (b 20), .ref (b 21), .ref (b 22), .ref (b 23), .ref (b 24), .int (nI mf), .ref (b 26), .ref (b 27), .ref (b 28), .ref (b 29), .ref (b 30), .ref (b 31), .ref (b 32), .int (gg 32), .int (nI md), .ref (b 35), .ref (b 36), .ref (b 37), .ref (b 38), .ref (b 39), .ref (b 40), .int (gg 40), .ref (b 42), .ref (b 43), .ref (b 44), .int (gg 44), .ref (b 46), .ref (b 47), .int (gg 47), .ref (b 49)])), (b 24, .inl (cI, 10, .inl (upd lo (Int32.toNatClampNeg p0) p1)))] := hD
      refine lv_iconst (v := 1) hx hb dX8_loss_33 (by decide) ?_
      have hP9 := hP.sub (ws' := [(b 0, .inr (8, [.ref (b 1), .int (nI mt), .int (gg 2), .int (gg 3), .int (gg 4), .int (gg 5), .int (gg 6), .int (gg 7), .int (gg 8), .int (gg 9), .ref (b 11), .ref (b 12), .ref (b 13), .int (nI mc), .int (nI mh), .ref (b 16), .ref (b 17), .ref (b 18), .ref (b 19), .ref (b 20), .ref (b 21), .ref (b 22), .ref (b 23), .ref (b 24), .int (nI mf), .ref (b 26), .ref (b 27), .ref (b 28), .ref (b 29), .ref (b 30), .ref (b 31), .ref (b 32), .int (gg 32), .int (nI md), .ref (b 35), .ref (b 36), .ref (b 37), .ref (b 38), .ref (b 39), .ref (b 40), .int (gg 40), .ref (b 42), .ref (b 43), .ref (b 44), .int (gg 44), .ref (b 46), .ref (b 47), .int (gg 47), .ref (b 49)])), (b 24, .inl (cI, 10, .inl (upd lo (Int32.toNatClampNeg p0) p1)))]) [0, 1] rfl
      have hD9 := hD.sub (ws' := [(b 0, .inr (8, [.ref (b 1), .int (nI mt), .int (gg 2), .int (gg 3), .int (gg 4), .int (gg 5), .int (gg 6), .int (gg 7), .int (gg 8), .int (gg 9), .ref (b 11), .ref (b 12), .ref (b 13), .int (nI mc), .int (nI mh), .ref (b 16), .ref (b 17), .ref (b 18), .ref (b 19), .ref (b 20), .ref (b 21), .ref (b 22), .ref (b 23), .ref (b 24), .int (nI mf), .ref (b 26), .ref (b 27), .ref (b 28), .ref (b 29), .ref (b 30), .ref (b 31), .ref (b 32), .int (gg 32), .int (nI md), .ref (b 35), .ref (b 36), .ref (b 37), .ref (b 38), .ref (b 39), .ref (b 40), .int (gg 40), .ref (b 42), .ref (b 43), .ref (b 44), .int (gg 44), .ref (b 46), .ref (b 47), .int (gg 47), .ref (b 49)])), (b 24, .inl (cI, 10, .inl (upd lo (Int32.toNatClampNeg p0) p1)))]) [0, 1] (by decide) rfl
      have hK9 := hK.sub (tys' := [(cI, .int)]) [0] rfl
      exact W.zret (v := 1) hx hb hr (rfl) (fun t ht hW => ⟨⟨1, ((upd lo (Int32.toNatClampNeg p0) p1)), rfl, (by first | exact Or.inl ⟨by omega, rfl⟩ | exact Or.inr ⟨by omega, rfl⟩), by rw [ht]; exact hP9, va_K.moved hW.alike hK9, hD9⟩, hS.F ht⟩) hS.2.2 dX8_loss_34
    · have zc_4 := c_4
      rw [e_3, zz_in0, Int32.le_iff_toInt_le, Int32.le_iff_toInt_le] at zc_4
      try rw [show (0 : Int32).toInt = 0 from by decide] at zc_4
      try rw [show (100 : Int32).toInt = 100 from by decide] at zc_4
      refine lv_iconst (v := 0) hx hb dX8_loss_24 (by decide) ?_
      have hP9 := hP.sub (ws' := [(b 0, .inr (8, [.ref (b 1), .int (nI mt), .int (gg 2), .int (gg 3), .int (gg 4), .int (gg 5), .int (gg 6), .int (gg 7), .int (gg 8), .int (gg 9), .ref (b 11), .ref (b 12), .ref (b 13), .int (nI mc), .int (nI mh), .ref (b 16), .ref (b 17), .ref (b 18), .ref (b 19), .ref (b 20), .ref (b 21), .ref (b 22), .ref (b 23), .ref (b 24), .int (nI mf), .ref (b 26), .ref (b 27), .ref (b 28), .ref (b 29), .ref (b 30), .ref (b 31), .ref (b 32), .int (gg 32), .int (nI md), .ref (b 35), .ref (b 36), .ref (b 37), .ref (b 38), .ref (b 39), .ref (b 40), .int (gg 40), .ref (b 42), .ref (b 43), .ref (b 44), .int (gg 44), .ref (b 46), .ref (b 47), .int (gg 47), .ref (b 49)])), (b 24, .inl (cI, 10, .inl lo))]) [0, 1] rfl
      have hD9 := hD.sub (ws' := [(b 0, .inr (8, [.ref (b 1), .int (nI mt), .int (gg 2), .int (gg 3), .int (gg 4), .int (gg 5), .int (gg 6), .int (gg 7), .int (gg 8), .int (gg 9), .ref (b 11), .ref (b 12), .ref (b 13), .int (nI mc), .int (nI mh), .ref (b 16), .ref (b 17), .ref (b 18), .ref (b 19), .ref (b 20), .ref (b 21), .ref (b 22), .ref (b 23), .ref (b 24), .int (nI mf), .ref (b 26), .ref (b 27), .ref (b 28), .ref (b 29), .ref (b 30), .ref (b 31), .ref (b 32), .int (gg 32), .int (nI md), .ref (b 35), .ref (b 36), .ref (b 37), .ref (b 38), .ref (b 39), .ref (b 40), .int (gg 40), .ref (b 42), .ref (b 43), .ref (b 44), .int (gg 44), .ref (b 46), .ref (b 47), .int (gg 47), .ref (b 49)])), (b 24, .inl (cI, 10, .inl lo))]) [0, 1] (by decide) rfl
      have hK9 := hK.sub (tys' := [(cI, .int)]) [0] rfl
      exact W.zret (v := 0) hx hb hr (rfl) (fun t ht hW => ⟨⟨0, (lo), rfl, (by first | exact Or.inl ⟨by omega, rfl⟩ | exact Or.inr ⟨by omega, rfl⟩), by rw [ht]; exact hP9, va_K.moved hW.alike hK9, hD9⟩, hS.F ht⟩) hS.2.2 dX8_loss_25

set_option maxHeartbeats 4000000 in
set_option maxRecDepth 100000 in
theorem m_free (l : Launch) (dC : Nat → ClassId) (dI : Nat → Nat → Nat) (b : Nat → Nat) (gg : Nat → Int32) (mt : Nat) (mc : Nat) (mh : Nat) (mf : Nat) (md : Nat) (cI : ClassId) (il : Nat → Int32) (ha : Nat → Int32) (us : Nat → Int32) (p0 : Int32) (sz : Nat) (hp8 : 0 ≤ p0.toInt ∧ p0.toInt < 8) : Met l yX8_free (zz_w yX8_free cX8_free 2 (some .int)) ({ frames := 0, cells := 0, slots := 0, locals := 0 }) (va_Pc [.ref (b 0), .int p0] (zz_B (dC, dI) sz [(b 0, .inr (8, [.ref (b 1), .int (nI mt), .int (gg 2), .int (gg 3), .int (gg 4), .int (gg 5), .int (gg 6), .int (gg 7), .int (gg 8), .int (gg 9), .ref (b 11), .ref (b 12), .ref (b 13), .int (nI mc), .int (nI mh), .ref (b 16), .ref (b 17), .ref (b 18), .ref (b 19), .ref (b 20), .ref (b 21), .ref (b 22), .ref (b 23), .ref (b 24), .int (nI mf), .ref (b 26), .ref (b 27), .ref (b 28), .ref (b 29), .ref (b 30), .ref (b 31), .ref (b 32), .int (gg 32), .int (nI md), .ref (b 35), .ref (b 36), .ref (b 37), .ref (b 38), .ref (b 39), .ref (b 40), .int (gg 40), .ref (b 42), .ref (b 43), .ref (b 44), .int (gg 44), .ref (b 46), .ref (b 47), .int (gg 47), .ref (b 49)])), (b 18, .inl (cI, 8, .inl il)), (b 16, .inl (cI, 8, .inl ha)), (b 19, .inl (cI, 8, .inl us))] [(cI, .int)])) (va_Qi (fun (_ : Int32) (_ : Unit) => True) (fun _ _ => True) (va_A [] sz)) 0 0 (va_A [] sz) := by
  refine Met.ofW (cc := cX8_free) (maxL := 2) (ret := (some .int)) (by decide) rfl ?_
  intro p e s m args below meth c s₁ B hml hv
  obtain ⟨rfl, hsz, hP, hK, hD0, hN⟩ := hv
  have hx := B.exec
  have hb := B.bytes
  have hr := B.returns
  have hts := atoms_spec (ws := zz_w yX8_free cX8_free 2 (some .int)) B.pre
  have hw : ∀ w ∈ zz_all, w.before _ s = true := fun w h => hts w (List.mem_cons_of_mem _ h)
  have hown : s.vm.findClass RX8 = some m.cls := findClass_of_methodNamed B.named
  have hlocks := B.notSynchronized
  subst hsz
  have hD := hD0
  generalize hAe : va_A [] s.heap.size = A
  have hA : ∀ q : Nat, s.heap.size ≤ q → A q := fun q h => by rw [← hAe]; exact Or.inr h
  have hS : va_S A s.heap s.heap [] := va_S.rf
  have hP : va_P (dC, dI) vwCl [(b 0, .inr (8, [.ref (b 1), .int (nI mt), .int (gg 2), .int (gg 3), .int (gg 4), .int (gg 5), .int (gg 6), .int (gg 7), .int (gg 8), .int (gg 9), .ref (b 11), .ref (b 12), .ref (b 13), .int (nI mc), .int (nI mh), .ref (b 16), .ref (b 17), .ref (b 18), .ref (b 19), .ref (b 20), .ref (b 21), .ref (b 22), .ref (b 23), .ref (b 24), .int (nI mf), .ref (b 26), .ref (b 27), .ref (b 28), .ref (b 29), .ref (b 30), .ref (b 31), .ref (b 32), .int (gg 32), .int (nI md), .ref (b 35), .ref (b 36), .ref (b 37), .ref (b 38), .ref (b 39), .ref (b 40), .int (gg 40), .ref (b 42), .ref (b 43), .ref (b 44), .int (gg 44), .ref (b 46), .ref (b 47), .int (gg 47), .ref (b 49)])), (b 18, .inl (cI, 8, .inl il)), (b 16, .inl (cI, 8, .inl ha)), (b 19, .inl (cI, 8, .inl us))] s.heap := hP
  have hl := lv_entry ([.ref (b 0), .int p0]) (n := 2) (Nat.le_of_ble_eq_true rfl)
  rw [lg_entry_eq]
  generalize (lg_sl ([.ref (b 0), .int p0]) ++ List.replicate (2 - (lg_sl ([.ref (b 0), .int p0])).length) Slot.unset).toArray = ls at hl ⊢
  have hl : lv_has ls 2 [(0, .ref (b 0)), (1, .int p0)] := hl
  refine lv_aload_n hx hb dX8_free_0 rfl (lv_at hl 0 rfl) ?_
  refine va_get (D := (dC, dI)) (ci := 8) (v := .ref (b 18)) (C := RX8) (T := TX8) (N := 49) hx hb hw zz_inX8 hown hK hP 0 rfl rfl 17 (by decide) (hw _ tw_202) (fun _ h9 => h9) rfl dX8_free_1 ?_
  refine lv_iload_n hx hb dX8_free_4 rfl (lv_at hl 1 rfl) ?_
  refine va_iald hx hb hK hP 1 0 rfl rfl (vp_in_iff.mpr (by constructor <;> omega)) dX8_free_5 ?_
  refine lv_if_le (tgt := 13) hx hb dX8_free_6 (by decide) (fun c_1 => ?_) (fun c_1 => ?_)
  · have zc_1 := c_1
    rw [Int32.le_iff_toInt_le] at zc_1
    try rw [show (0 : Int32).toInt = 0 from by decide] at zc_1
    refine lv_aload_n hx hb dX8_free_13 rfl (lv_at hl 0 rfl) ?_
    refine va_get (D := (dC, dI)) (ci := 8) (v := .ref (b 16)) (C := RX8) (T := TX8) (N := 49) hx hb hw zz_inX8 hown hK hP 0 rfl rfl 15 (by decide) (hw _ tw_189) (fun _ h9 => h9) rfl dX8_free_14 ?_
    refine lv_iload_n hx hb dX8_free_17 rfl (lv_at hl 1 rfl) ?_
    refine va_iald hx hb hK hP 2 0 rfl rfl (vp_in_iff.mpr (by constructor <;> omega)) dX8_free_18 ?_
    refine lv_aload_n hx hb dX8_free_19 rfl (lv_at hl 0 rfl) ?_
    refine va_get (D := (dC, dI)) (ci := 8) (v := .ref (b 19)) (C := RX8) (T := TX8) (N := 49) hx hb hw zz_inX8 hown hK hP 0 rfl rfl 18 (by decide) (hw _ tw_205) (fun _ h9 => h9) rfl dX8_free_20 ?_
    refine lv_iload_n hx hb dX8_free_23 rfl (lv_at hl 1 rfl) ?_
    refine va_iald hx hb hK hP 3 0 rfl rfl (vp_in_iff.mpr (by constructor <;> omega)) dX8_free_24 ?_
    refine lv_isub hx hb dX8_free_25 ?_
    exact W.iret (v := ((ha (Int32.toNatClampNeg p0)) - (us (Int32.toNatClampNeg p0)))) hx hb hr (fun t ht hW => ⟨⟨((ha (Int32.toNatClampNeg p0)) - (us (Int32.toNatClampNeg p0))), (), rfl, trivial, trivial⟩, hS.F ht⟩) hS.2.2 dX8_free_26
  · have zc_1 := c_1
    rw [Int32.le_iff_toInt_le] at zc_1
    try rw [show (0 : Int32).toInt = 0 from by decide] at zc_1
    refine lv_iconst (v := 0) hx hb dX8_free_9 (by decide) ?_
    refine lv_goto (tgt := 26) hx hb dX8_free_10 (by decide) ?_
    exact W.iret (v := 0) hx hb hr (fun t ht hW => ⟨⟨0, (), rfl, trivial, trivial⟩, hS.F ht⟩) hS.2.2 dX8_free_26

set_option maxHeartbeats 4000000 in
set_option maxRecDepth 100000 in
theorem m_debtOf (l : Launch) (dC : Nat → ClassId) (dI : Nat → Nat → Nat) (b : Nat → Nat) (gg : Nat → Int32) (mt : Nat) (mc : Nat) (mh : Nat) (mf : Nat) (md : Nat) (cI : ClassId) (mo : Nat → Int32) (mr : Nat → Int32) (my : Nat → Int32) (mu : Nat → Int32) (p0 : Int32) (p1 : Int32) (p2 : Int32) (sz : Nat) (hmd : md ≤ 300) : Met l yX8_debtOf (zz_w yX8_debtOf cX8_debtOf 6 (some .int)) ({ frames := 0, cells := 0, slots := 0, locals := 0 }) (va_Pc [.ref (b 0), .int p0, .int p1, .int p2] (zz_B (dC, dI) sz [(b 0, .inr (8, [.ref (b 1), .int (nI mt), .int (gg 2), .int (gg 3), .int (gg 4), .int (gg 5), .int (gg 6), .int (gg 7), .int (gg 8), .int (gg 9), .ref (b 11), .ref (b 12), .ref (b 13), .int (nI mc), .int (nI mh), .ref (b 16), .ref (b 17), .ref (b 18), .ref (b 19), .ref (b 20), .ref (b 21), .ref (b 22), .ref (b 23), .ref (b 24), .int (nI mf), .ref (b 26), .ref (b 27), .ref (b 28), .ref (b 29), .ref (b 30), .ref (b 31), .ref (b 32), .int (gg 32), .int (nI md), .ref (b 35), .ref (b 36), .ref (b 37), .ref (b 38), .ref (b 39), .ref (b 40), .int (gg 40), .ref (b 42), .ref (b 43), .ref (b 44), .int (gg 44), .ref (b 46), .ref (b 47), .int (gg 47), .ref (b 49)])), (b 35, .inl (cI, 300, .inl mo)), (b 36, .inl (cI, 300, .inl mr)), (b 37, .inl (cI, 300, .inl my)), (b 38, .inl (cI, 300, .inl mu))] [(cI, .int)])) (va_Qi (fun (r : Int32) (_ : Unit) => r = -1 ∨ ∃ q : Nat, q < md ∧ r = nI q) (fun _ _ => True) (va_A [] sz)) 0 0 (va_A [] sz) := by
  refine Met.ofW (cc := cX8_debtOf) (maxL := 6) (ret := (some .int)) (by decide) rfl ?_
  intro p e s m args below meth c s₁ B hml hv
  obtain ⟨rfl, hsz, hP, hK, hD0, hN⟩ := hv
  have hx := B.exec
  have hb := B.bytes
  have hr := B.returns
  have hts := atoms_spec (ws := zz_w yX8_debtOf cX8_debtOf 6 (some .int)) B.pre
  have hw : ∀ w ∈ zz_all, w.before _ s = true := fun w h => hts w (List.mem_cons_of_mem _ h)
  have hown : s.vm.findClass RX8 = some m.cls := findClass_of_methodNamed B.named
  have hlocks := B.notSynchronized
  subst hsz
  have hD := hD0
  generalize hAe : va_A [] s.heap.size = A
  have hA : ∀ q : Nat, s.heap.size ≤ q → A q := fun q h => by rw [← hAe]; exact Or.inr h
  have hS : va_S A s.heap s.heap [] := va_S.rf
  have hP : va_P (dC, dI) vwCl [(b 0, .inr (8, [.ref (b 1), .int (nI mt), .int (gg 2), .int (gg 3), .int (gg 4), .int (gg 5), .int (gg 6), .int (gg 7), .int (gg 8), .int (gg 9), .ref (b 11), .ref (b 12), .ref (b 13), .int (nI mc), .int (nI mh), .ref (b 16), .ref (b 17), .ref (b 18), .ref (b 19), .ref (b 20), .ref (b 21), .ref (b 22), .ref (b 23), .ref (b 24), .int (nI mf), .ref (b 26), .ref (b 27), .ref (b 28), .ref (b 29), .ref (b 30), .ref (b 31), .ref (b 32), .int (gg 32), .int (nI md), .ref (b 35), .ref (b 36), .ref (b 37), .ref (b 38), .ref (b 39), .ref (b 40), .int (gg 40), .ref (b 42), .ref (b 43), .ref (b 44), .int (gg 44), .ref (b 46), .ref (b 47), .int (gg 47), .ref (b 49)])), (b 35, .inl (cI, 300, .inl mo)), (b 36, .inl (cI, 300, .inl mr)), (b 37, .inl (cI, 300, .inl my)), (b 38, .inl (cI, 300, .inl mu))] s.heap := hP
  have hl := lv_entry ([.ref (b 0), .int p0, .int p1, .int p2]) (n := 6) (Nat.le_of_ble_eq_true rfl)
  rw [lg_entry_eq]
  generalize (lg_sl ([.ref (b 0), .int p0, .int p1, .int p2]) ++ List.replicate (6 - (lg_sl ([.ref (b 0), .int p0, .int p1, .int p2])).length) Slot.unset).toArray = ls at hl ⊢
  have hl : lv_has ls 6 [(0, .ref (b 0)), (1, .int p0), (2, .int p1), (3, .int p2)] := hl
  refine lv_iconst (v := (-1)) hx hb dX8_debtOf_0 (by decide) ?_
  refine lv_istore (lv' := [(4, .int (-1)), (0, .ref (b 0)), (1, .int p0), (2, .int p1), (3, .int p2)]) hx hb dX8_debtOf_1 hl (by decide) rfl (fun ls hl => ?_)
  refine lv_iconst (v := 0) hx hb dX8_debtOf_3 (by decide) ?_
  refine lv_istore (lv' := [(5, .int 0), (4, .int (-1)), (0, .ref (b 0)), (1, .int p0), (2, .int p1), (3, .int p2)]) hx hb dX8_debtOf_4 hl (by decide) rfl (fun ls hl => ?_)
  refine zz_loopS (fun (u : (Nat) × (Int32)) => match u with | (j, y) => [(b 0, .inr (8, [.ref (b 1), .int (nI mt), .int (gg 2), .int (gg 3), .int (gg 4), .int (gg 5), .int (gg 6), .int (gg 7), .int (gg 8), .int (gg 9), .ref (b 11), .ref (b 12), .ref (b 13), .int (nI mc), .int (nI mh), .ref (b 16), .ref (b 17), .ref (b 18), .ref (b 19), .ref (b 20), .ref (b 21), .ref (b 22), .ref (b 23), .ref (b 24), .int (nI mf), .ref (b 26), .ref (b 27), .ref (b 28), .ref (b 29), .ref (b 30), .ref (b 31), .ref (b 32), .int (gg 32), .int (nI md), .ref (b 35), .ref (b 36), .ref (b 37), .ref (b 38), .ref (b 39), .ref (b 40), .int (gg 40), .ref (b 42), .ref (b 43), .ref (b 44), .int (gg 44), .ref (b 46), .ref (b 47), .int (gg 47), .ref (b 49)])), (b 35, .inl (cI, 300, .inl mo)), (b 36, .inl (cI, 300, .inl mr)), (b 37, .inl (cI, 300, .inl my)), (b 38, .inl (cI, 300, .inl mu))]) (fun (u : (Nat) × (Int32)) => match u with | (j, y) => [(0, .ref (b 0)), (1, .int p0), (2, .int p1), (3, .int p2), (4, .int y), (5, .int (nI j))]) (fun (u : (Nat) × (Int32)) => match u with | (j, y) => j ≤ md ∧ (y = -1 ∨ ∃ q : Nat, q < md ∧ y = nI q)) (fun (u : (Nat) × (Int32)) => match u with | (j, y) => md - j) (fun u hI H locs ls hP hD hS hl ih_6 => ?_) (0, (-1)) ⟨by omega, Or.inl rfl⟩ _ _ _ (hP.sub [0, 1, 2, 3, 4] rfl) (hD.sub [0, 1, 2, 3, 4] (by decide) rfl) hS (lv_sub hl [2, 3, 4, 5, 1, 0] rfl)
  obtain ⟨j, y⟩ := u
  have hP : va_P (dC, dI) vwCl [(b 0, .inr (8, [.ref (b 1), .int (nI mt), .int (gg 2), .int (gg 3), .int (gg 4), .int (gg 5), .int (gg 6), .int (gg 7), .int (gg 8), .int (gg 9), .ref (b 11), .ref (b 12), .ref (b 13), .int (nI mc), .int (nI mh), .ref (b 16), .ref (b 17), .ref (b 18), .ref (b 19), .ref (b 20), .ref (b 21), .ref (b 22), .ref (b 23), .ref (b 24), .int (nI mf), .ref (b 26), .ref (b 27), .ref (b 28), .ref (b 29), .ref (b 30), .ref (b 31), .ref (b 32), .int (gg 32), .int (nI md), .ref (b 35), .ref (b 36), .ref (b 37), .ref (b 38), .ref (b 39), .ref (b 40), .int (gg 40), .ref (b 42), .ref (b 43), .ref (b 44), .int (gg 44), .ref (b 46), .ref (b 47), .int (gg 47), .ref (b 49)])), (b 35, .inl (cI, 300, .inl mo)), (b 36, .inl (cI, 300, .inl mr)), (b 37, .inl (cI, 300, .inl my)), (b 38, .inl (cI, 300, .inl mu))] H := hP
  have hD : va_D (fun _ => True) [(b 0, .inr (8, [.ref (b 1), .int (nI mt), .int (gg 2), .int (gg 3), .int (gg 4), .int (gg 5), .int (gg 6), .int (gg 7), .int (gg 8), .int (gg 9), .ref (b 11), .ref (b 12), .ref (b 13), .int (nI mc), .int (nI mh), .ref (b 16), .ref (b 17), .ref (b 18), .ref (b 19), .ref (b 20), .ref (b 21), .ref (b 22), .ref (b 23), .ref (b 24), .int (nI mf), .ref (b 26), .ref (b 27), .ref (b 28), .ref (b 29), .ref (b 30), .ref (b 31), .ref (b 32), .int (gg 32), .int (nI md), .ref (b 35), .ref (b 36), .ref (b 37), .ref (b 38), .ref (b 39), .ref (b 40), .int (gg 40), .ref (b 42), .ref (b 43), .ref (b 44), .int (gg 44), .ref (b 46), .ref (b 47), .int (gg 47), .ref (b 49)])), (b 35, .inl (cI, 300, .inl mo)), (b 36, .inl (cI, 300, .inl mr)), (b 37, .inl (cI, 300, .inl my)), (b 38, .inl (cI, 300, .inl mu))] := hD
  have hl : lv_has ls 6 [(0, .ref (b 0)), (1, .int p0), (2, .int p1), (3, .int p2), (4, .int y), (5, .int (nI j))] := hl
  have hI : j ≤ md ∧ (y = -1 ∨ ∃ q : Nat, q < md ∧ y = nI q) := hI
  obtain ⟨ij, iy⟩ := hI
  refine lv_iload hx hb dX8_debtOf_6 (lv_at hl 5 rfl) ?_
  refine lv_aload_n hx hb dX8_debtOf_8 rfl (lv_at hl 0 rfl) ?_
  refine va_get (D := (dC, dI)) (ci := 8) (v := .int (nI md)) (C := RX8) (T := TX8) (N := 49) hx hb hw zz_inX8 hown hK hP 0 rfl rfl 33 (by decide) (hw _ tw_206) (fun _ h9 => h9) rfl dX8_debtOf_9 ?_
  refine lv_icmp_ge (tgt := 63) hx hb dX8_debtOf_12 (by decide) (fun c_1 => ?_) (fun c_1 => ?_)
  · have zc_1 := c_1
    rw [Int32.le_iff_toInt_le] at zc_1
    try rw [zz_toInt j (by omega)] at zc_1
    try rw [zz_toInt md (by omega)] at zc_1
    refine lv_iload hx hb dX8_debtOf_63 (lv_at hl 4 rfl) ?_
    exact W.iret (v := y) hx hb hr (fun t ht hW => ⟨⟨y, (), rfl, iy, trivial⟩, hS.F ht⟩) hS.2.2 dX8_debtOf_65
  · have zc_1 := c_1
    rw [Int32.le_iff_toInt_le] at zc_1
    try rw [zz_toInt j (by omega)] at zc_1
    try rw [zz_toInt md (by omega)] at zc_1
    refine lv_aload_n hx hb dX8_debtOf_15 rfl (lv_at hl 0 rfl) ?_
    refine va_get (D := (dC, dI)) (ci := 8) (v := .ref (b 35)) (C := RX8) (T := TX8) (N := 49) hx hb hw zz_inX8 hown hK hP 0 rfl rfl 34 (by decide) (hw _ tw_207) (fun _ h9 => h9) rfl dX8_debtOf_16 ?_
    refine lv_iload hx hb dX8_debtOf_19 (lv_at hl 5 rfl) ?_
    refine va_iald hx hb hK hP 1 0 rfl rfl (vp_in_iff.mpr (by rw [zz_toInt j (by omega)]; constructor <;> omega)) dX8_debtOf_21 ?_
    refine lv_iload_n hx hb dX8_debtOf_22 rfl (lv_at hl 1 rfl) ?_
    refine lv_icmp_ne (tgt := 53) hx hb dX8_debtOf_23 (by decide) (fun c_2 => ?_) (fun c_2 => ?_)
    · have zc_2 := c_2
      rw [← Int32.toInt_inj] at zc_2
      refine lv_iload hx hb dX8_debtOf_53 (lv_at hl 4 rfl) ?_
      refine lv_istore (lv' := [(4, .int y), (0, .ref (b 0)), (1, .int p0), (2, .int p1), (3, .int p2), (5, .int (nI j))]) hx hb dX8_debtOf_55 hl (by decide) rfl (fun ls hl => ?_)
      refine lv_iinc (v := (nI (j + 1))) (lv' := [(5, .int (nI (j + 1))), (4, .int y), (0, .ref (b 0)), (1, .int p0), (2, .int p1), (3, .int p2)]) hx hb dX8_debtOf_57 hl (k := 5) rfl (nI_1 _) (by decide) rfl (fun ls hl => ?_)
      refine lv_goto (tgt := 6) hx hb dX8_debtOf_60 (by decide) ?_
      exact ih_6 ((j + 1), y) ⟨by omega, iy⟩ (show md - (j + 1) < md - j from by omega) _ _ _ (hP.sub [0, 1, 2, 3, 4] rfl) (hD.sub [0, 1, 2, 3, 4] (by decide) rfl) hS (lv_sub hl [2, 3, 4, 5, 1, 0] rfl)
    · have zc_2 := c_2
      rw [← Int32.toInt_inj] at zc_2
      refine lv_aload_n hx hb dX8_debtOf_26 rfl (lv_at hl 0 rfl) ?_
      refine va_get (D := (dC, dI)) (ci := 8) (v := .ref (b 36)) (C := RX8) (T := TX8) (N := 49) hx hb hw zz_inX8 hown hK hP 0 rfl rfl 35 (by decide) (hw _ tw_208) (fun _ h9 => h9) rfl dX8_debtOf_27 ?_
      refine lv_iload hx hb dX8_debtOf_30 (lv_at hl 5 rfl) ?_
      refine va_iald hx hb hK hP 2 0 rfl rfl (vp_in_iff.mpr (by rw [zz_toInt j (by omega)]; constructor <;> omega)) dX8_debtOf_32 ?_
      refine lv_iload_n hx hb dX8_debtOf_33 rfl (lv_at hl 2 rfl) ?_
      refine lv_icmp_ne (tgt := 53) hx hb dX8_debtOf_34 (by decide) (fun c_3 => ?_) (fun c_3 => ?_)
      · have zc_3 := c_3
        rw [← Int32.toInt_inj] at zc_3
        refine lv_iload hx hb dX8_debtOf_53 (lv_at hl 4 rfl) ?_
        refine lv_istore (lv' := [(4, .int y), (0, .ref (b 0)), (1, .int p0), (2, .int p1), (3, .int p2), (5, .int (nI j))]) hx hb dX8_debtOf_55 hl (by decide) rfl (fun ls hl => ?_)
        refine lv_iinc (v := (nI (j + 1))) (lv' := [(5, .int (nI (j + 1))), (4, .int y), (0, .ref (b 0)), (1, .int p0), (2, .int p1), (3, .int p2)]) hx hb dX8_debtOf_57 hl (k := 5) rfl (nI_1 _) (by decide) rfl (fun ls hl => ?_)
        refine lv_goto (tgt := 6) hx hb dX8_debtOf_60 (by decide) ?_
        exact ih_6 ((j + 1), y) ⟨by omega, iy⟩ (show md - (j + 1) < md - j from by omega) _ _ _ (hP.sub [0, 1, 2, 3, 4] rfl) (hD.sub [0, 1, 2, 3, 4] (by decide) rfl) hS (lv_sub hl [2, 3, 4, 5, 1, 0] rfl)
      · have zc_3 := c_3
        rw [← Int32.toInt_inj] at zc_3
        refine lv_aload_n hx hb dX8_debtOf_37 rfl (lv_at hl 0 rfl) ?_
        refine va_get (D := (dC, dI)) (ci := 8) (v := .ref (b 37)) (C := RX8) (T := TX8) (N := 49) hx hb hw zz_inX8 hown hK hP 0 rfl rfl 36 (by decide) (hw _ tw_209) (fun _ h9 => h9) rfl dX8_debtOf_38 ?_
        refine lv_iload hx hb dX8_debtOf_41 (lv_at hl 5 rfl) ?_
        refine va_iald hx hb hK hP 3 0 rfl rfl (vp_in_iff.mpr (by rw [zz_toInt j (by omega)]; constructor <;> omega)) dX8_debtOf_43 ?_
        refine lv_iload_n hx hb dX8_debtOf_44 rfl (lv_at hl 3 rfl) ?_
        refine lv_icmp_ne (tgt := 53) hx hb dX8_debtOf_45 (by decide) (fun c_4 => ?_) (fun c_4 => ?_)
        · have zc_4 := c_4
          rw [← Int32.toInt_inj] at zc_4
          refine lv_iload hx hb dX8_debtOf_53 (lv_at hl 4 rfl) ?_
          refine lv_istore (lv' := [(4, .int y), (0, .ref (b 0)), (1, .int p0), (2, .int p1), (3, .int p2), (5, .int (nI j))]) hx hb dX8_debtOf_55 hl (by decide) rfl (fun ls hl => ?_)
          refine lv_iinc (v := (nI (j + 1))) (lv' := [(5, .int (nI (j + 1))), (4, .int y), (0, .ref (b 0)), (1, .int p0), (2, .int p1), (3, .int p2)]) hx hb dX8_debtOf_57 hl (k := 5) rfl (nI_1 _) (by decide) rfl (fun ls hl => ?_)
          refine lv_goto (tgt := 6) hx hb dX8_debtOf_60 (by decide) ?_
          exact ih_6 ((j + 1), y) ⟨by omega, iy⟩ (show md - (j + 1) < md - j from by omega) _ _ _ (hP.sub [0, 1, 2, 3, 4] rfl) (hD.sub [0, 1, 2, 3, 4] (by decide) rfl) hS (lv_sub hl [2, 3, 4, 5, 1, 0] rfl)
        · have zc_4 := c_4
          rw [← Int32.toInt_inj] at zc_4
          refine lv_iload hx hb dX8_debtOf_48 (lv_at hl 5 rfl) ?_
          refine lv_goto (tgt := 55) hx hb dX8_debtOf_50 (by decide) ?_
          refine lv_istore (lv' := [(4, .int (nI j)), (0, .ref (b 0)), (1, .int p0), (2, .int p1), (3, .int p2), (5, .int (nI j))]) hx hb dX8_debtOf_55 hl (by decide) rfl (fun ls hl => ?_)
          refine lv_iinc (v := (nI (j + 1))) (lv' := [(5, .int (nI (j + 1))), (4, .int (nI j)), (0, .ref (b 0)), (1, .int p0), (2, .int p1), (3, .int p2)]) hx hb dX8_debtOf_57 hl (k := 5) rfl (nI_1 _) (by decide) rfl (fun ls hl => ?_)
          refine lv_goto (tgt := 6) hx hb dX8_debtOf_60 (by decide) ?_
          exact ih_6 ((j + 1), (nI j)) ⟨by omega, Or.inr ⟨j, by omega, rfl⟩⟩ (show md - (j + 1) < md - j from by omega) _ _ _ (hP.sub [0, 1, 2, 3, 4] rfl) (hD.sub [0, 1, 2, 3, 4] (by decide) rfl) hS (lv_sub hl [2, 3, 4, 5, 1, 0] rfl)

set_option maxHeartbeats 4000000 in
set_option maxRecDepth 100000 in
theorem m_owed (l : Launch) (dC : Nat → ClassId) (dI : Nat → Nat → Nat) (b : Nat → Nat) (gg : Nat → Int32) (mt : Nat) (mc : Nat) (mh : Nat) (mf : Nat) (md : Nat) (cI : ClassId) (mo : Nat → Int32) (mr : Nat → Int32) (my : Nat → Int32) (mu : Nat → Int32) (p0 : Int32) (p1 : Int32) (sz : Nat) (hmd : md ≤ 300) : Met l yX8_owed (zz_w yX8_owed cX8_owed 5 (some .int)) ({ frames := 0, cells := 0, slots := 0, locals := 0 }) (va_Pc [.ref (b 0), .int p0, .int p1] (zz_B (dC, dI) sz [(b 0, .inr (8, [.ref (b 1), .int (nI mt), .int (gg 2), .int (gg 3), .int (gg 4), .int (gg 5), .int (gg 6), .int (gg 7), .int (gg 8), .int (gg 9), .ref (b 11), .ref (b 12), .ref (b 13), .int (nI mc), .int (nI mh), .ref (b 16), .ref (b 17), .ref (b 18), .ref (b 19), .ref (b 20), .ref (b 21), .ref (b 22), .ref (b 23), .ref (b 24), .int (nI mf), .ref (b 26), .ref (b 27), .ref (b 28), .ref (b 29), .ref (b 30), .ref (b 31), .ref (b 32), .int (gg 32), .int (nI md), .ref (b 35), .ref (b 36), .ref (b 37), .ref (b 38), .ref (b 39), .ref (b 40), .int (gg 40), .ref (b 42), .ref (b 43), .ref (b 44), .int (gg 44), .ref (b 46), .ref (b 47), .int (gg 47), .ref (b 49)])), (b 35, .inl (cI, 300, .inl mo)), (b 36, .inl (cI, 300, .inl mr)), (b 37, .inl (cI, 300, .inl my)), (b 38, .inl (cI, 300, .inl mu))] [(cI, .int)])) (va_Qi (fun (_ : Int32) (_ : Unit) => True) (fun _ _ => True) (va_A [] sz)) 0 0 (va_A [] sz) := by
  refine Met.ofW (cc := cX8_owed) (maxL := 5) (ret := (some .int)) (by decide) rfl ?_
  intro p e s m args below meth c s₁ B hml hv
  obtain ⟨rfl, hsz, hP, hK, hD0, hN⟩ := hv
  have hx := B.exec
  have hb := B.bytes
  have hr := B.returns
  have hts := atoms_spec (ws := zz_w yX8_owed cX8_owed 5 (some .int)) B.pre
  have hw : ∀ w ∈ zz_all, w.before _ s = true := fun w h => hts w (List.mem_cons_of_mem _ h)
  have hown : s.vm.findClass RX8 = some m.cls := findClass_of_methodNamed B.named
  have hlocks := B.notSynchronized
  subst hsz
  have hD := hD0
  generalize hAe : va_A [] s.heap.size = A
  have hA : ∀ q : Nat, s.heap.size ≤ q → A q := fun q h => by rw [← hAe]; exact Or.inr h
  have hS : va_S A s.heap s.heap [] := va_S.rf
  have hP : va_P (dC, dI) vwCl [(b 0, .inr (8, [.ref (b 1), .int (nI mt), .int (gg 2), .int (gg 3), .int (gg 4), .int (gg 5), .int (gg 6), .int (gg 7), .int (gg 8), .int (gg 9), .ref (b 11), .ref (b 12), .ref (b 13), .int (nI mc), .int (nI mh), .ref (b 16), .ref (b 17), .ref (b 18), .ref (b 19), .ref (b 20), .ref (b 21), .ref (b 22), .ref (b 23), .ref (b 24), .int (nI mf), .ref (b 26), .ref (b 27), .ref (b 28), .ref (b 29), .ref (b 30), .ref (b 31), .ref (b 32), .int (gg 32), .int (nI md), .ref (b 35), .ref (b 36), .ref (b 37), .ref (b 38), .ref (b 39), .ref (b 40), .int (gg 40), .ref (b 42), .ref (b 43), .ref (b 44), .int (gg 44), .ref (b 46), .ref (b 47), .int (gg 47), .ref (b 49)])), (b 35, .inl (cI, 300, .inl mo)), (b 36, .inl (cI, 300, .inl mr)), (b 37, .inl (cI, 300, .inl my)), (b 38, .inl (cI, 300, .inl mu))] s.heap := hP
  have hl := lv_entry ([.ref (b 0), .int p0, .int p1]) (n := 5) (Nat.le_of_ble_eq_true rfl)
  rw [lg_entry_eq]
  generalize (lg_sl ([.ref (b 0), .int p0, .int p1]) ++ List.replicate (5 - (lg_sl ([.ref (b 0), .int p0, .int p1])).length) Slot.unset).toArray = ls at hl ⊢
  have hl : lv_has ls 5 [(0, .ref (b 0)), (1, .int p0), (2, .int p1)] := hl
  refine lv_iconst (v := 0) hx hb dX8_owed_0 (by decide) ?_
  refine lv_istore_n (lv' := [(3, .int 0), (0, .ref (b 0)), (1, .int p0), (2, .int p1)]) hx hb dX8_owed_1 rfl hl (by decide) rfl (fun ls hl => ?_)
  refine lv_iconst (v := 0) hx hb dX8_owed_2 (by decide) ?_
  refine lv_istore (lv' := [(4, .int 0), (3, .int 0), (0, .ref (b 0)), (1, .int p0), (2, .int p1)]) hx hb dX8_owed_3 hl (by decide) rfl (fun ls hl => ?_)
  refine zz_loopS (fun (u : (Nat) × (Int32)) => match u with | (j, y) => [(b 0, .inr (8, [.ref (b 1), .int (nI mt), .int (gg 2), .int (gg 3), .int (gg 4), .int (gg 5), .int (gg 6), .int (gg 7), .int (gg 8), .int (gg 9), .ref (b 11), .ref (b 12), .ref (b 13), .int (nI mc), .int (nI mh), .ref (b 16), .ref (b 17), .ref (b 18), .ref (b 19), .ref (b 20), .ref (b 21), .ref (b 22), .ref (b 23), .ref (b 24), .int (nI mf), .ref (b 26), .ref (b 27), .ref (b 28), .ref (b 29), .ref (b 30), .ref (b 31), .ref (b 32), .int (gg 32), .int (nI md), .ref (b 35), .ref (b 36), .ref (b 37), .ref (b 38), .ref (b 39), .ref (b 40), .int (gg 40), .ref (b 42), .ref (b 43), .ref (b 44), .int (gg 44), .ref (b 46), .ref (b 47), .int (gg 47), .ref (b 49)])), (b 35, .inl (cI, 300, .inl mo)), (b 36, .inl (cI, 300, .inl mr)), (b 37, .inl (cI, 300, .inl my)), (b 38, .inl (cI, 300, .inl mu))]) (fun (u : (Nat) × (Int32)) => match u with | (j, y) => [(0, .ref (b 0)), (1, .int p0), (2, .int p1), (3, .int y), (4, .int (nI j))]) (fun (u : (Nat) × (Int32)) => match u with | (j, y) => j ≤ md) (fun (u : (Nat) × (Int32)) => match u with | (j, y) => md - j) (fun u hI H locs ls hP hD hS hl ih_5 => ?_) (0, 0) (show 0 ≤ md from by omega) _ _ _ (hP.sub [0, 1, 2, 3, 4] rfl) (hD.sub [0, 1, 2, 3, 4] (by decide) rfl) hS (lv_sub hl [2, 3, 4, 1, 0] rfl)
  obtain ⟨j, y⟩ := u
  have hP : va_P (dC, dI) vwCl [(b 0, .inr (8, [.ref (b 1), .int (nI mt), .int (gg 2), .int (gg 3), .int (gg 4), .int (gg 5), .int (gg 6), .int (gg 7), .int (gg 8), .int (gg 9), .ref (b 11), .ref (b 12), .ref (b 13), .int (nI mc), .int (nI mh), .ref (b 16), .ref (b 17), .ref (b 18), .ref (b 19), .ref (b 20), .ref (b 21), .ref (b 22), .ref (b 23), .ref (b 24), .int (nI mf), .ref (b 26), .ref (b 27), .ref (b 28), .ref (b 29), .ref (b 30), .ref (b 31), .ref (b 32), .int (gg 32), .int (nI md), .ref (b 35), .ref (b 36), .ref (b 37), .ref (b 38), .ref (b 39), .ref (b 40), .int (gg 40), .ref (b 42), .ref (b 43), .ref (b 44), .int (gg 44), .ref (b 46), .ref (b 47), .int (gg 47), .ref (b 49)])), (b 35, .inl (cI, 300, .inl mo)), (b 36, .inl (cI, 300, .inl mr)), (b 37, .inl (cI, 300, .inl my)), (b 38, .inl (cI, 300, .inl mu))] H := hP
  have hD : va_D (fun _ => True) [(b 0, .inr (8, [.ref (b 1), .int (nI mt), .int (gg 2), .int (gg 3), .int (gg 4), .int (gg 5), .int (gg 6), .int (gg 7), .int (gg 8), .int (gg 9), .ref (b 11), .ref (b 12), .ref (b 13), .int (nI mc), .int (nI mh), .ref (b 16), .ref (b 17), .ref (b 18), .ref (b 19), .ref (b 20), .ref (b 21), .ref (b 22), .ref (b 23), .ref (b 24), .int (nI mf), .ref (b 26), .ref (b 27), .ref (b 28), .ref (b 29), .ref (b 30), .ref (b 31), .ref (b 32), .int (gg 32), .int (nI md), .ref (b 35), .ref (b 36), .ref (b 37), .ref (b 38), .ref (b 39), .ref (b 40), .int (gg 40), .ref (b 42), .ref (b 43), .ref (b 44), .int (gg 44), .ref (b 46), .ref (b 47), .int (gg 47), .ref (b 49)])), (b 35, .inl (cI, 300, .inl mo)), (b 36, .inl (cI, 300, .inl mr)), (b 37, .inl (cI, 300, .inl my)), (b 38, .inl (cI, 300, .inl mu))] := hD
  have hl : lv_has ls 5 [(0, .ref (b 0)), (1, .int p0), (2, .int p1), (3, .int y), (4, .int (nI j))] := hl
  have hI : j ≤ md := hI
  have ij := hI
  refine lv_iload hx hb dX8_owed_5 (lv_at hl 4 rfl) ?_
  refine lv_aload_n hx hb dX8_owed_7 rfl (lv_at hl 0 rfl) ?_
  refine va_get (D := (dC, dI)) (ci := 8) (v := .int (nI md)) (C := RX8) (T := TX8) (N := 49) hx hb hw zz_inX8 hown hK hP 0 rfl rfl 33 (by decide) (hw _ tw_206) (fun _ h9 => h9) rfl dX8_owed_8 ?_
  refine lv_icmp_ge (tgt := 56) hx hb dX8_owed_11 (by decide) (fun c_1 => ?_) (fun c_1 => ?_)
  · have zc_1 := c_1
    rw [Int32.le_iff_toInt_le] at zc_1
    try rw [zz_toInt j (by omega)] at zc_1
    try rw [zz_toInt md (by omega)] at zc_1
    refine lv_iload_n hx hb dX8_owed_56 rfl (lv_at hl 3 rfl) ?_
    exact W.iret (v := y) hx hb hr (fun t ht hW => ⟨⟨y, (), rfl, trivial, trivial⟩, hS.F ht⟩) hS.2.2 dX8_owed_57
  · have zc_1 := c_1
    rw [Int32.le_iff_toInt_le] at zc_1
    try rw [zz_toInt j (by omega)] at zc_1
    try rw [zz_toInt md (by omega)] at zc_1
    refine lv_iload_n hx hb dX8_owed_14 rfl (lv_at hl 3 rfl) ?_
    refine lv_aload_n hx hb dX8_owed_15 rfl (lv_at hl 0 rfl) ?_
    refine va_get (D := (dC, dI)) (ci := 8) (v := .ref (b 35)) (C := RX8) (T := TX8) (N := 49) hx hb hw zz_inX8 hown hK hP 0 rfl rfl 34 (by decide) (hw _ tw_207) (fun _ h9 => h9) rfl dX8_owed_16 ?_
    refine lv_iload hx hb dX8_owed_19 (lv_at hl 4 rfl) ?_
    refine va_iald hx hb hK hP 1 0 rfl rfl (vp_in_iff.mpr (by rw [zz_toInt j (by omega)]; constructor <;> omega)) dX8_owed_21 ?_
    refine lv_iload_n hx hb dX8_owed_22 rfl (lv_at hl 1 rfl) ?_
    refine lv_icmp_ne (tgt := 47) hx hb dX8_owed_23 (by decide) (fun c_2 => ?_) (fun c_2 => ?_)
    · have zc_2 := c_2
      rw [← Int32.toInt_inj] at zc_2
      refine lv_iconst (v := 0) hx hb dX8_owed_47 (by decide) ?_
      refine lv_iadd hx hb dX8_owed_48 ?_
      refine lv_istore_n (lv' := [(3, .int (y + 0)), (0, .ref (b 0)), (1, .int p0), (2, .int p1), (4, .int (nI j))]) hx hb dX8_owed_49 rfl hl (by decide) rfl (fun ls hl => ?_)
      refine lv_iinc (v := (nI (j + 1))) (lv' := [(4, .int (nI (j + 1))), (3, .int (y + 0)), (0, .ref (b 0)), (1, .int p0), (2, .int p1)]) hx hb dX8_owed_50 hl (k := 4) rfl (nI_1 _) (by decide) rfl (fun ls hl => ?_)
      refine lv_goto (tgt := 5) hx hb dX8_owed_53 (by decide) ?_
      exact ih_5 ((j + 1), (y + 0)) (show (j + 1) ≤ md from by omega) (show md - (j + 1) < md - j from by omega) _ _ _ (hP.sub [0, 1, 2, 3, 4] rfl) (hD.sub [0, 1, 2, 3, 4] (by decide) rfl) hS (lv_sub hl [2, 3, 4, 1, 0] rfl)
    · have zc_2 := c_2
      rw [← Int32.toInt_inj] at zc_2
      refine lv_aload_n hx hb dX8_owed_26 rfl (lv_at hl 0 rfl) ?_
      refine va_get (D := (dC, dI)) (ci := 8) (v := .ref (b 36)) (C := RX8) (T := TX8) (N := 49) hx hb hw zz_inX8 hown hK hP 0 rfl rfl 35 (by decide) (hw _ tw_208) (fun _ h9 => h9) rfl dX8_owed_27 ?_
      refine lv_iload hx hb dX8_owed_30 (lv_at hl 4 rfl) ?_
      refine va_iald hx hb hK hP 2 0 rfl rfl (vp_in_iff.mpr (by rw [zz_toInt j (by omega)]; constructor <;> omega)) dX8_owed_32 ?_
      refine lv_iload_n hx hb dX8_owed_33 rfl (lv_at hl 2 rfl) ?_
      refine lv_icmp_ne (tgt := 47) hx hb dX8_owed_34 (by decide) (fun c_3 => ?_) (fun c_3 => ?_)
      · have zc_3 := c_3
        rw [← Int32.toInt_inj] at zc_3
        refine lv_iconst (v := 0) hx hb dX8_owed_47 (by decide) ?_
        refine lv_iadd hx hb dX8_owed_48 ?_
        refine lv_istore_n (lv' := [(3, .int (y + 0)), (0, .ref (b 0)), (1, .int p0), (2, .int p1), (4, .int (nI j))]) hx hb dX8_owed_49 rfl hl (by decide) rfl (fun ls hl => ?_)
        refine lv_iinc (v := (nI (j + 1))) (lv' := [(4, .int (nI (j + 1))), (3, .int (y + 0)), (0, .ref (b 0)), (1, .int p0), (2, .int p1)]) hx hb dX8_owed_50 hl (k := 4) rfl (nI_1 _) (by decide) rfl (fun ls hl => ?_)
        refine lv_goto (tgt := 5) hx hb dX8_owed_53 (by decide) ?_
        exact ih_5 ((j + 1), (y + 0)) (show (j + 1) ≤ md from by omega) (show md - (j + 1) < md - j from by omega) _ _ _ (hP.sub [0, 1, 2, 3, 4] rfl) (hD.sub [0, 1, 2, 3, 4] (by decide) rfl) hS (lv_sub hl [2, 3, 4, 1, 0] rfl)
      · have zc_3 := c_3
        rw [← Int32.toInt_inj] at zc_3
        refine lv_aload_n hx hb dX8_owed_37 rfl (lv_at hl 0 rfl) ?_
        refine va_get (D := (dC, dI)) (ci := 8) (v := .ref (b 38)) (C := RX8) (T := TX8) (N := 49) hx hb hw zz_inX8 hown hK hP 0 rfl rfl 37 (by decide) (hw _ tw_210) (fun _ h9 => h9) rfl dX8_owed_38 ?_
        refine lv_iload hx hb dX8_owed_41 (lv_at hl 4 rfl) ?_
        refine va_iald hx hb hK hP 4 0 rfl rfl (vp_in_iff.mpr (by rw [zz_toInt j (by omega)]; constructor <;> omega)) dX8_owed_43 ?_
        refine lv_goto (tgt := 48) hx hb dX8_owed_44 (by decide) ?_
        refine lv_iadd hx hb dX8_owed_48 ?_
        refine lv_istore_n (lv' := [(3, .int (y + (mu (Int32.toNatClampNeg (nI j))))), (0, .ref (b 0)), (1, .int p0), (2, .int p1), (4, .int (nI j))]) hx hb dX8_owed_49 rfl hl (by decide) rfl (fun ls hl => ?_)
        refine lv_iinc (v := (nI (j + 1))) (lv' := [(4, .int (nI (j + 1))), (3, .int (y + (mu (Int32.toNatClampNeg (nI j))))), (0, .ref (b 0)), (1, .int p0), (2, .int p1)]) hx hb dX8_owed_50 hl (k := 4) rfl (nI_1 _) (by decide) rfl (fun ls hl => ?_)
        refine lv_goto (tgt := 5) hx hb dX8_owed_53 (by decide) ?_
        exact ih_5 ((j + 1), (y + (mu (Int32.toNatClampNeg (nI j))))) (show (j + 1) ≤ md from by omega) (show md - (j + 1) < md - j from by omega) _ _ _ (hP.sub [0, 1, 2, 3, 4] rfl) (hD.sub [0, 1, 2, 3, 4] (by decide) rfl) hS (lv_sub hl [2, 3, 4, 1, 0] rfl)

set_option maxHeartbeats 4000000 in
set_option maxRecDepth 100000 in
theorem m_drops (l : Launch) (dC : Nat → ClassId) (dI : Nat → Nat → Nat) (b : Nat → Nat) (gg : Nat → Int32) (mt : Nat) (mc : Nat) (mh : Nat) (mf : Nat) (md : Nat) (cI : ClassId) (mo : Nat → Int32) (mr : Nat → Int32) (my : Nat → Int32) (mu : Nat → Int32) (sz : Nat) (hmd : md ≤ 300) : Met l yX8_drops (zz_w yX8_drops cX8_drops 3 none) ({ frames := 0, cells := 0, slots := 0, locals := 0 }) (va_Pc [.ref (b 0)] (zz_B (dC, dI) sz [(b 0, .inr (8, [.ref (b 1), .int (nI mt), .int (gg 2), .int (gg 3), .int (gg 4), .int (gg 5), .int (gg 6), .int (gg 7), .int (gg 8), .int (gg 9), .ref (b 11), .ref (b 12), .ref (b 13), .int (nI mc), .int (nI mh), .ref (b 16), .ref (b 17), .ref (b 18), .ref (b 19), .ref (b 20), .ref (b 21), .ref (b 22), .ref (b 23), .ref (b 24), .int (nI mf), .ref (b 26), .ref (b 27), .ref (b 28), .ref (b 29), .ref (b 30), .ref (b 31), .ref (b 32), .int (gg 32), .int (nI md), .ref (b 35), .ref (b 36), .ref (b 37), .ref (b 38), .ref (b 39), .ref (b 40), .int (gg 40), .ref (b 42), .ref (b 43), .ref (b 44), .int (gg 44), .ref (b 46), .ref (b 47), .int (gg 47), .ref (b 49)])), (b 35, .inl (cI, 300, .inl mo)), (b 36, .inl (cI, 300, .inl mr)), (b 37, .inl (cI, 300, .inl my)), (b 38, .inl (cI, 300, .inl mu))] [(cI, .int)])) (va_Qv (fun (u : Nat × (Nat → Int32) × (Nat → Int32) × (Nat → Int32) × (Nat → Int32)) => match u with | (nd2, _, _, _, _) => nd2 ≤ md) (fun (u : Nat × (Nat → Int32) × (Nat → Int32) × (Nat → Int32) × (Nat → Int32)) (t : State) => match u with | (u0, u1, u2, u3, u4) => va_P (dC, dI) vwCl [(b 0, .inr (8, [.ref (b 1), .int (nI mt), .int (gg 2), .int (gg 3), .int (gg 4), .int (gg 5), .int (gg 6), .int (gg 7), .int (gg 8), .int (gg 9), .ref (b 11), .ref (b 12), .ref (b 13), .int (nI mc), .int (nI mh), .ref (b 16), .ref (b 17), .ref (b 18), .ref (b 19), .ref (b 20), .ref (b 21), .ref (b 22), .ref (b 23), .ref (b 24), .int (nI mf), .ref (b 26), .ref (b 27), .ref (b 28), .ref (b 29), .ref (b 30), .ref (b 31), .ref (b 32), .int (gg 32), .int (nI u0), .ref (b 35), .ref (b 36), .ref (b 37), .ref (b 38), .ref (b 39), .ref (b 40), .int (gg 40), .ref (b 42), .ref (b 43), .ref (b 44), .int (gg 44), .ref (b 46), .ref (b 47), .int (gg 47), .ref (b 49)])), (b 35, .inl (cI, 300, .inl u1)), (b 36, .inl (cI, 300, .inl u2)), (b 37, .inl (cI, 300, .inl u3)), (b 38, .inl (cI, 300, .inl u4))] t.heap ∧ va_K (dC, dI) vwCl [(cI, .int)] t ∧ va_D (va_A [(b 0, .inr (8, [.ref (b 1), .int (nI mt), .int (gg 2), .int (gg 3), .int (gg 4), .int (gg 5), .int (gg 6), .int (gg 7), .int (gg 8), .int (gg 9), .ref (b 11), .ref (b 12), .ref (b 13), .int (nI mc), .int (nI mh), .ref (b 16), .ref (b 17), .ref (b 18), .ref (b 19), .ref (b 20), .ref (b 21), .ref (b 22), .ref (b 23), .ref (b 24), .int (nI mf), .ref (b 26), .ref (b 27), .ref (b 28), .ref (b 29), .ref (b 30), .ref (b 31), .ref (b 32), .int (gg 32), .int (nI md), .ref (b 35), .ref (b 36), .ref (b 37), .ref (b 38), .ref (b 39), .ref (b 40), .int (gg 40), .ref (b 42), .ref (b 43), .ref (b 44), .int (gg 44), .ref (b 46), .ref (b 47), .int (gg 47), .ref (b 49)])), (b 35, .inl (cI, 300, .inl mo)), (b 36, .inl (cI, 300, .inl mr)), (b 37, .inl (cI, 300, .inl my)), (b 38, .inl (cI, 300, .inl mu))] sz) [(b 0, .inr (8, [.ref (b 1), .int (nI mt), .int (gg 2), .int (gg 3), .int (gg 4), .int (gg 5), .int (gg 6), .int (gg 7), .int (gg 8), .int (gg 9), .ref (b 11), .ref (b 12), .ref (b 13), .int (nI mc), .int (nI mh), .ref (b 16), .ref (b 17), .ref (b 18), .ref (b 19), .ref (b 20), .ref (b 21), .ref (b 22), .ref (b 23), .ref (b 24), .int (nI mf), .ref (b 26), .ref (b 27), .ref (b 28), .ref (b 29), .ref (b 30), .ref (b 31), .ref (b 32), .int (gg 32), .int (nI u0), .ref (b 35), .ref (b 36), .ref (b 37), .ref (b 38), .ref (b 39), .ref (b 40), .int (gg 40), .ref (b 42), .ref (b 43), .ref (b 44), .int (gg 44), .ref (b 46), .ref (b 47), .int (gg 47), .ref (b 49)])), (b 35, .inl (cI, 300, .inl u1)), (b 36, .inl (cI, 300, .inl u2)), (b 37, .inl (cI, 300, .inl u3)), (b 38, .inl (cI, 300, .inl u4))]) (va_A [(b 0, .inr (8, [.ref (b 1), .int (nI mt), .int (gg 2), .int (gg 3), .int (gg 4), .int (gg 5), .int (gg 6), .int (gg 7), .int (gg 8), .int (gg 9), .ref (b 11), .ref (b 12), .ref (b 13), .int (nI mc), .int (nI mh), .ref (b 16), .ref (b 17), .ref (b 18), .ref (b 19), .ref (b 20), .ref (b 21), .ref (b 22), .ref (b 23), .ref (b 24), .int (nI mf), .ref (b 26), .ref (b 27), .ref (b 28), .ref (b 29), .ref (b 30), .ref (b 31), .ref (b 32), .int (gg 32), .int (nI md), .ref (b 35), .ref (b 36), .ref (b 37), .ref (b 38), .ref (b 39), .ref (b 40), .int (gg 40), .ref (b 42), .ref (b 43), .ref (b 44), .int (gg 44), .ref (b 46), .ref (b 47), .int (gg 47), .ref (b 49)])), (b 35, .inl (cI, 300, .inl mo)), (b 36, .inl (cI, 300, .inl mr)), (b 37, .inl (cI, 300, .inl my)), (b 38, .inl (cI, 300, .inl mu))] sz)) 0 0 (va_A [(b 0, .inr (8, [.ref (b 1), .int (nI mt), .int (gg 2), .int (gg 3), .int (gg 4), .int (gg 5), .int (gg 6), .int (gg 7), .int (gg 8), .int (gg 9), .ref (b 11), .ref (b 12), .ref (b 13), .int (nI mc), .int (nI mh), .ref (b 16), .ref (b 17), .ref (b 18), .ref (b 19), .ref (b 20), .ref (b 21), .ref (b 22), .ref (b 23), .ref (b 24), .int (nI mf), .ref (b 26), .ref (b 27), .ref (b 28), .ref (b 29), .ref (b 30), .ref (b 31), .ref (b 32), .int (gg 32), .int (nI md), .ref (b 35), .ref (b 36), .ref (b 37), .ref (b 38), .ref (b 39), .ref (b 40), .int (gg 40), .ref (b 42), .ref (b 43), .ref (b 44), .int (gg 44), .ref (b 46), .ref (b 47), .int (gg 47), .ref (b 49)])), (b 35, .inl (cI, 300, .inl mo)), (b 36, .inl (cI, 300, .inl mr)), (b 37, .inl (cI, 300, .inl my)), (b 38, .inl (cI, 300, .inl mu))] sz) := by
  refine Met.ofW (cc := cX8_drops) (maxL := 3) (ret := none) (by decide) rfl ?_
  intro p e s m args below meth c s₁ B hml hv
  obtain ⟨rfl, hsz, hP, hK, hD0, hN⟩ := hv
  have hx := B.exec
  have hb := B.bytes
  have hr := B.returns
  have hts := atoms_spec (ws := zz_w yX8_drops cX8_drops 3 none) B.pre
  have hw : ∀ w ∈ zz_all, w.before _ s = true := fun w h => hts w (List.mem_cons_of_mem _ h)
  have hown : s.vm.findClass RX8 = some m.cls := findClass_of_methodNamed B.named
  have hlocks := B.notSynchronized
  subst hsz
  have hD := hD0.self (sz := s.heap.size)
  generalize hAe : va_A [(b 0, .inr (8, [.ref (b 1), .int (nI mt), .int (gg 2), .int (gg 3), .int (gg 4), .int (gg 5), .int (gg 6), .int (gg 7), .int (gg 8), .int (gg 9), .ref (b 11), .ref (b 12), .ref (b 13), .int (nI mc), .int (nI mh), .ref (b 16), .ref (b 17), .ref (b 18), .ref (b 19), .ref (b 20), .ref (b 21), .ref (b 22), .ref (b 23), .ref (b 24), .int (nI mf), .ref (b 26), .ref (b 27), .ref (b 28), .ref (b 29), .ref (b 30), .ref (b 31), .ref (b 32), .int (gg 32), .int (nI md), .ref (b 35), .ref (b 36), .ref (b 37), .ref (b 38), .ref (b 39), .ref (b 40), .int (gg 40), .ref (b 42), .ref (b 43), .ref (b 44), .int (gg 44), .ref (b 46), .ref (b 47), .int (gg 47), .ref (b 49)])), (b 35, .inl (cI, 300, .inl mo)), (b 36, .inl (cI, 300, .inl mr)), (b 37, .inl (cI, 300, .inl my)), (b 38, .inl (cI, 300, .inl mu))] s.heap.size = A at hD ⊢
  have hA : ∀ q : Nat, s.heap.size ≤ q → A q := fun q h => by rw [← hAe]; exact Or.inr h
  have hS : va_S A s.heap s.heap [] := va_S.rf
  have hP : va_P (dC, dI) vwCl [(b 0, .inr (8, [.ref (b 1), .int (nI mt), .int (gg 2), .int (gg 3), .int (gg 4), .int (gg 5), .int (gg 6), .int (gg 7), .int (gg 8), .int (gg 9), .ref (b 11), .ref (b 12), .ref (b 13), .int (nI mc), .int (nI mh), .ref (b 16), .ref (b 17), .ref (b 18), .ref (b 19), .ref (b 20), .ref (b 21), .ref (b 22), .ref (b 23), .ref (b 24), .int (nI mf), .ref (b 26), .ref (b 27), .ref (b 28), .ref (b 29), .ref (b 30), .ref (b 31), .ref (b 32), .int (gg 32), .int (nI md), .ref (b 35), .ref (b 36), .ref (b 37), .ref (b 38), .ref (b 39), .ref (b 40), .int (gg 40), .ref (b 42), .ref (b 43), .ref (b 44), .int (gg 44), .ref (b 46), .ref (b 47), .int (gg 47), .ref (b 49)])), (b 35, .inl (cI, 300, .inl mo)), (b 36, .inl (cI, 300, .inl mr)), (b 37, .inl (cI, 300, .inl my)), (b 38, .inl (cI, 300, .inl mu))] s.heap := hP
  have hl := lv_entry ([.ref (b 0)]) (n := 3) (Nat.le_of_ble_eq_true rfl)
  rw [lg_entry_eq]
  generalize (lg_sl ([.ref (b 0)]) ++ List.replicate (3 - (lg_sl ([.ref (b 0)])).length) Slot.unset).toArray = ls at hl ⊢
  have hl : lv_has ls 3 [(0, .ref (b 0))] := hl
  refine lv_iconst (v := 0) hx hb dX8_drops_0 (by decide) ?_
  refine lv_istore_n (lv' := [(1, .int 0), (0, .ref (b 0))]) hx hb dX8_drops_1 rfl hl (by decide) rfl (fun ls hl => ?_)
  refine lv_iconst (v := 0) hx hb dX8_drops_2 (by decide) ?_
  refine lv_istore_n (lv' := [(2, .int 0), (1, .int 0), (0, .ref (b 0))]) hx hb dX8_drops_3 rfl hl (by decide) rfl (fun ls hl => ?_)
  refine zz_loopS (fun (u : (Nat) × (Nat) × (Nat → Int32) × (Nat → Int32) × (Nat → Int32) × (Nat → Int32)) => match u with | (j, k, go, gc, gs, gu) => [(b 0, .inr (8, [.ref (b 1), .int (nI mt), .int (gg 2), .int (gg 3), .int (gg 4), .int (gg 5), .int (gg 6), .int (gg 7), .int (gg 8), .int (gg 9), .ref (b 11), .ref (b 12), .ref (b 13), .int (nI mc), .int (nI mh), .ref (b 16), .ref (b 17), .ref (b 18), .ref (b 19), .ref (b 20), .ref (b 21), .ref (b 22), .ref (b 23), .ref (b 24), .int (nI mf), .ref (b 26), .ref (b 27), .ref (b 28), .ref (b 29), .ref (b 30), .ref (b 31), .ref (b 32), .int (gg 32), .int (nI md), .ref (b 35), .ref (b 36), .ref (b 37), .ref (b 38), .ref (b 39), .ref (b 40), .int (gg 40), .ref (b 42), .ref (b 43), .ref (b 44), .int (gg 44), .ref (b 46), .ref (b 47), .int (gg 47), .ref (b 49)])), (b 35, .inl (cI, 300, .inl go)), (b 36, .inl (cI, 300, .inl gc)), (b 37, .inl (cI, 300, .inl gs)), (b 38, .inl (cI, 300, .inl gu))]) (fun (u : (Nat) × (Nat) × (Nat → Int32) × (Nat → Int32) × (Nat → Int32) × (Nat → Int32)) => match u with | (j, k, go, gc, gs, gu) => [(0, .ref (b 0)), (1, .int (nI k)), (2, .int (nI j))]) (fun (u : (Nat) × (Nat) × (Nat → Int32) × (Nat → Int32) × (Nat → Int32) × (Nat → Int32)) => match u with | (j, k, go, gc, gs, gu) => j ≤ md ∧ k ≤ j) (fun (u : (Nat) × (Nat) × (Nat → Int32) × (Nat → Int32) × (Nat → Int32) × (Nat → Int32)) => match u with | (j, k, go, gc, gs, gu) => md - j) (fun u hI H locs ls hP hD hS hl ih_4 => ?_) (0, 0, mo, mr, my, mu) (show 0 ≤ md ∧ 0 ≤ 0 from (by refine ⟨?_, ?_⟩ <;> omega)) _ _ _ (hP.sub [0, 1, 2, 3, 4] rfl) (hD.sub [0, 1, 2, 3, 4] (by decide) rfl) hS (lv_sub hl [2, 1, 0] rfl)
  obtain ⟨j, k, go, gc, gs, gu⟩ := u
  have hP : va_P (dC, dI) vwCl [(b 0, .inr (8, [.ref (b 1), .int (nI mt), .int (gg 2), .int (gg 3), .int (gg 4), .int (gg 5), .int (gg 6), .int (gg 7), .int (gg 8), .int (gg 9), .ref (b 11), .ref (b 12), .ref (b 13), .int (nI mc), .int (nI mh), .ref (b 16), .ref (b 17), .ref (b 18), .ref (b 19), .ref (b 20), .ref (b 21), .ref (b 22), .ref (b 23), .ref (b 24), .int (nI mf), .ref (b 26), .ref (b 27), .ref (b 28), .ref (b 29), .ref (b 30), .ref (b 31), .ref (b 32), .int (gg 32), .int (nI md), .ref (b 35), .ref (b 36), .ref (b 37), .ref (b 38), .ref (b 39), .ref (b 40), .int (gg 40), .ref (b 42), .ref (b 43), .ref (b 44), .int (gg 44), .ref (b 46), .ref (b 47), .int (gg 47), .ref (b 49)])), (b 35, .inl (cI, 300, .inl go)), (b 36, .inl (cI, 300, .inl gc)), (b 37, .inl (cI, 300, .inl gs)), (b 38, .inl (cI, 300, .inl gu))] H := hP
  have hD : va_D A [(b 0, .inr (8, [.ref (b 1), .int (nI mt), .int (gg 2), .int (gg 3), .int (gg 4), .int (gg 5), .int (gg 6), .int (gg 7), .int (gg 8), .int (gg 9), .ref (b 11), .ref (b 12), .ref (b 13), .int (nI mc), .int (nI mh), .ref (b 16), .ref (b 17), .ref (b 18), .ref (b 19), .ref (b 20), .ref (b 21), .ref (b 22), .ref (b 23), .ref (b 24), .int (nI mf), .ref (b 26), .ref (b 27), .ref (b 28), .ref (b 29), .ref (b 30), .ref (b 31), .ref (b 32), .int (gg 32), .int (nI md), .ref (b 35), .ref (b 36), .ref (b 37), .ref (b 38), .ref (b 39), .ref (b 40), .int (gg 40), .ref (b 42), .ref (b 43), .ref (b 44), .int (gg 44), .ref (b 46), .ref (b 47), .int (gg 47), .ref (b 49)])), (b 35, .inl (cI, 300, .inl go)), (b 36, .inl (cI, 300, .inl gc)), (b 37, .inl (cI, 300, .inl gs)), (b 38, .inl (cI, 300, .inl gu))] := hD
  have hl : lv_has ls 3 [(0, .ref (b 0)), (1, .int (nI k)), (2, .int (nI j))] := hl
  have hI : j ≤ md ∧ k ≤ j := hI
  obtain ⟨ij, ik⟩ := hI
  refine lv_iload_n hx hb dX8_drops_4 rfl (lv_at hl 2 rfl) ?_
  refine lv_aload_n hx hb dX8_drops_5 rfl (lv_at hl 0 rfl) ?_
  refine va_get (D := (dC, dI)) (ci := 8) (v := .int (nI md)) (C := RX8) (T := TX8) (N := 49) hx hb hw zz_inX8 hown hK hP 0 rfl rfl 33 (by decide) (hw _ tw_206) (fun _ h9 => h9) rfl dX8_drops_6 ?_
  refine lv_icmp_ge (tgt := 78) hx hb dX8_drops_9 (by decide) (fun c_1 => ?_) (fun c_1 => ?_)
  · have zc_1 := c_1
    rw [Int32.le_iff_toInt_le] at zc_1
    try rw [zz_toInt j (by omega)] at zc_1
    try rw [zz_toInt md (by omega)] at zc_1
    refine lv_aload_n hx hb dX8_drops_78 rfl (lv_at hl 0 rfl) ?_
    refine lv_iload_n hx hb dX8_drops_79 rfl (lv_at hl 1 rfl) ?_
    refine va_put (D := (dC, dI)) (ci := 8) (v := .int (nI k)) (ty := .int) (C := RX8) (T := TX8) (N := 49) hx hb hw zz_inX8 tyX8 tyX8_ok nmX8 hown hK hP hD hS 0 rfl rfl 33 (by decide) (hw _ tw_206) (fun _ h9 => h9) rfl (by decide +kernel) rfl rfl (Nat.le_of_ble_eq_true rfl) dX8_drops_80 (fun H locs hP hD hS => ?_)
    have hP : va_P (dC, dI) vwCl [(b 0, .inr (8, [.ref (b 1), .int (nI mt), .int (gg 2), .int (gg 3), .int (gg 4), .int (gg 5), .int (gg 6), .int (gg 7), .int (gg 8), .int (gg 9), .ref (b 11), .ref (b 12), .ref (b 13), .int (nI mc), .int (nI mh), .ref (b 16), .ref (b 17), .ref (b 18), .ref (b 19), .ref (b 20), .ref (b 21), .ref (b 22), .ref (b 23), .ref (b 24), .int (nI mf), .ref (b 26), .ref (b 27), .ref (b 28), .ref (b 29), .ref (b 30), .ref (b 31), .ref (b 32), .int (gg 32), .int (nI k), .ref (b 35), .ref (b 36), .ref (b 37), .ref (b 38), .ref (b 39), .ref (b 40), .int (gg 40), .ref (b 42), .ref (b 43), .ref (b 44), .int (gg 44), .ref (b 46), .ref (b 47), .int (gg 47), .ref (b 49)])), (b 35, .inl (cI, 300, .inl go)), (b 36, .inl (cI, 300, .inl gc)), (b 37, .inl (cI, 300, .inl gs)), (b 38, .inl (cI, 300, .inl gu))] H := hP
    have hD : va_D A [(b 0, .inr (8, [.ref (b 1), .int (nI mt), .int (gg 2), .int (gg 3), .int (gg 4), .int (gg 5), .int (gg 6), .int (gg 7), .int (gg 8), .int (gg 9), .ref (b 11), .ref (b 12), .ref (b 13), .int (nI mc), .int (nI mh), .ref (b 16), .ref (b 17), .ref (b 18), .ref (b 19), .ref (b 20), .ref (b 21), .ref (b 22), .ref (b 23), .ref (b 24), .int (nI mf), .ref (b 26), .ref (b 27), .ref (b 28), .ref (b 29), .ref (b 30), .ref (b 31), .ref (b 32), .int (gg 32), .int (nI k), .ref (b 35), .ref (b 36), .ref (b 37), .ref (b 38), .ref (b 39), .ref (b 40), .int (gg 40), .ref (b 42), .ref (b 43), .ref (b 44), .int (gg 44), .ref (b 46), .ref (b 47), .int (gg 47), .ref (b 49)])), (b 35, .inl (cI, 300, .inl go)), (b 36, .inl (cI, 300, .inl gc)), (b 37, .inl (cI, 300, .inl gs)), (b 38, .inl (cI, 300, .inl gu))] := hD
    have hP9 := hP.sub (ws' := [(b 0, .inr (8, [.ref (b 1), .int (nI mt), .int (gg 2), .int (gg 3), .int (gg 4), .int (gg 5), .int (gg 6), .int (gg 7), .int (gg 8), .int (gg 9), .ref (b 11), .ref (b 12), .ref (b 13), .int (nI mc), .int (nI mh), .ref (b 16), .ref (b 17), .ref (b 18), .ref (b 19), .ref (b 20), .ref (b 21), .ref (b 22), .ref (b 23), .ref (b 24), .int (nI mf), .ref (b 26), .ref (b 27), .ref (b 28), .ref (b 29), .ref (b 30), .ref (b 31), .ref (b 32), .int (gg 32), .int (nI k), .ref (b 35), .ref (b 36), .ref (b 37), .ref (b 38), .ref (b 39), .ref (b 40), .int (gg 40), .ref (b 42), .ref (b 43), .ref (b 44), .int (gg 44), .ref (b 46), .ref (b 47), .int (gg 47), .ref (b 49)])), (b 35, .inl (cI, 300, .inl go)), (b 36, .inl (cI, 300, .inl gc)), (b 37, .inl (cI, 300, .inl gs)), (b 38, .inl (cI, 300, .inl gu))]) [0, 1, 2, 3, 4] rfl
    have hD9 := hD.sub (ws' := [(b 0, .inr (8, [.ref (b 1), .int (nI mt), .int (gg 2), .int (gg 3), .int (gg 4), .int (gg 5), .int (gg 6), .int (gg 7), .int (gg 8), .int (gg 9), .ref (b 11), .ref (b 12), .ref (b 13), .int (nI mc), .int (nI mh), .ref (b 16), .ref (b 17), .ref (b 18), .ref (b 19), .ref (b 20), .ref (b 21), .ref (b 22), .ref (b 23), .ref (b 24), .int (nI mf), .ref (b 26), .ref (b 27), .ref (b 28), .ref (b 29), .ref (b 30), .ref (b 31), .ref (b 32), .int (gg 32), .int (nI k), .ref (b 35), .ref (b 36), .ref (b 37), .ref (b 38), .ref (b 39), .ref (b 40), .int (gg 40), .ref (b 42), .ref (b 43), .ref (b 44), .int (gg 44), .ref (b 46), .ref (b 47), .int (gg 47), .ref (b 49)])), (b 35, .inl (cI, 300, .inl go)), (b 36, .inl (cI, 300, .inl gc)), (b 37, .inl (cI, 300, .inl gs)), (b 38, .inl (cI, 300, .inl gu))]) [0, 1, 2, 3, 4] (by decide) rfl
    have hK9 := hK.sub (tys' := [(cI, .int)]) [0] rfl
    exact W.vret hx hb hr (fun t ht hW => ⟨⟨(k, go, gc, gs, gu), rfl, (by show _ ≤ _; omega), by rw [ht]; exact hP9, va_K.moved hW.alike hK9, hD9⟩, hS.F ht⟩) hS.2.2 dX8_drops_83
  · have zc_1 := c_1
    rw [Int32.le_iff_toInt_le] at zc_1
    try rw [zz_toInt j (by omega)] at zc_1
    try rw [zz_toInt md (by omega)] at zc_1
    refine lv_aload_n hx hb dX8_drops_12 rfl (lv_at hl 0 rfl) ?_
    refine va_get (D := (dC, dI)) (ci := 8) (v := .ref (b 38)) (C := RX8) (T := TX8) (N := 49) hx hb hw zz_inX8 hown hK hP 0 rfl rfl 37 (by decide) (hw _ tw_210) (fun _ h9 => h9) rfl dX8_drops_13 ?_
    refine lv_iload_n hx hb dX8_drops_16 rfl (lv_at hl 2 rfl) ?_
    refine va_iald hx hb hK hP 4 0 rfl rfl (vp_in_iff.mpr (by rw [zz_toInt j (by omega)]; constructor <;> omega)) dX8_drops_17 ?_
    refine lv_if_le (tgt := 72) hx hb dX8_drops_18 (by decide) (fun c_2 => ?_) (fun c_2 => ?_)
    · have zc_2 := c_2
      rw [Int32.le_iff_toInt_le] at zc_2
      try rw [show (0 : Int32).toInt = 0 from by decide] at zc_2
      refine lv_iinc (v := (nI (j + 1))) (lv' := [(2, .int (nI (j + 1))), (0, .ref (b 0)), (1, .int (nI k))]) hx hb dX8_drops_72 hl (k := 2) rfl (nI_1 _) (by decide) rfl (fun ls hl => ?_)
      refine lv_goto (tgt := 4) hx hb dX8_drops_75 (by decide) ?_
      exact ih_4 ((j + 1), k, go, gc, gs, gu) (show (j + 1) ≤ md ∧ k ≤ (j + 1) from (by refine ⟨?_, ?_⟩ <;> omega)) (show md - (j + 1) < md - j from by omega) _ _ _ (hP.sub [0, 1, 2, 3, 4] rfl) (hD.sub [0, 1, 2, 3, 4] (by decide) rfl) hS (lv_sub hl [1, 2, 0] rfl)
    · have zc_2 := c_2
      rw [Int32.le_iff_toInt_le] at zc_2
      try rw [show (0 : Int32).toInt = 0 from by decide] at zc_2
      refine lv_aload_n hx hb dX8_drops_21 rfl (lv_at hl 0 rfl) ?_
      refine va_get (D := (dC, dI)) (ci := 8) (v := .ref (b 35)) (C := RX8) (T := TX8) (N := 49) hx hb hw zz_inX8 hown hK hP 0 rfl rfl 34 (by decide) (hw _ tw_207) (fun _ h9 => h9) rfl dX8_drops_22 ?_
      refine lv_iload_n hx hb dX8_drops_25 rfl (lv_at hl 1 rfl) ?_
      refine lv_aload_n hx hb dX8_drops_26 rfl (lv_at hl 0 rfl) ?_
      refine va_get (D := (dC, dI)) (ci := 8) (v := .ref (b 35)) (C := RX8) (T := TX8) (N := 49) hx hb hw zz_inX8 hown hK hP 0 rfl rfl 34 (by decide) (hw _ tw_207) (fun _ h9 => h9) rfl dX8_drops_27 ?_
      refine lv_iload_n hx hb dX8_drops_30 rfl (lv_at hl 2 rfl) ?_
      refine va_iald hx hb hK hP 1 0 rfl rfl (vp_in_iff.mpr (by rw [zz_toInt j (by omega)]; constructor <;> omega)) dX8_drops_31 ?_
      refine va_iast hx hb hK hP hD hS 1 0 rfl rfl (vp_in_iff.mpr (by rw [zz_toInt k (by omega)]; constructor <;> omega)) dX8_drops_32 (fun H locs hP hD hS => ?_)
      have hP : va_P (dC, dI) vwCl [(b 0, .inr (8, [.ref (b 1), .int (nI mt), .int (gg 2), .int (gg 3), .int (gg 4), .int (gg 5), .int (gg 6), .int (gg 7), .int (gg 8), .int (gg 9), .ref (b 11), .ref (b 12), .ref (b 13), .int (nI mc), .int (nI mh), .ref (b 16), .ref (b 17), .ref (b 18), .ref (b 19), .ref (b 20), .ref (b 21), .ref (b 22), .ref (b 23), .ref (b 24), .int (nI mf), .ref (b 26), .ref (b 27), .ref (b 28), .ref (b 29), .ref (b 30), .ref (b 31), .ref (b 32), .int (gg 32), .int (nI md), .ref (b 35), .ref (b 36), .ref (b 37), .ref (b 38), .ref (b 39), .ref (b 40), .int (gg 40), .ref (b 42), .ref (b 43), .ref (b 44), .int (gg 44), .ref (b 46), .ref (b 47), .int (gg 47), .ref (b 49)])), (b 35, .inl (cI, 300, .inl (upd go (Int32.toNatClampNeg (nI k)) (go (Int32.toNatClampNeg (nI j)))))), (b 36, .inl (cI, 300, .inl gc)), (b 37, .inl (cI, 300, .inl gs)), (b 38, .inl (cI, 300, .inl gu))] H := hP
      have hD : va_D A [(b 0, .inr (8, [.ref (b 1), .int (nI mt), .int (gg 2), .int (gg 3), .int (gg 4), .int (gg 5), .int (gg 6), .int (gg 7), .int (gg 8), .int (gg 9), .ref (b 11), .ref (b 12), .ref (b 13), .int (nI mc), .int (nI mh), .ref (b 16), .ref (b 17), .ref (b 18), .ref (b 19), .ref (b 20), .ref (b 21), .ref (b 22), .ref (b 23), .ref (b 24), .int (nI mf), .ref (b 26), .ref (b 27), .ref (b 28), .ref (b 29), .ref (b 30), .ref (b 31), .ref (b 32), .int (gg 32), .int (nI md), .ref (b 35), .ref (b 36), .ref (b 37), .ref (b 38), .ref (b 39), .ref (b 40), .int (gg 40), .ref (b 42), .ref (b 43), .ref (b 44), .int (gg 44), .ref (b 46), .ref (b 47), .int (gg 47), .ref (b 49)])), (b 35, .inl (cI, 300, .inl (upd go (Int32.toNatClampNeg (nI k)) (go (Int32.toNatClampNeg (nI j)))))), (b 36, .inl (cI, 300, .inl gc)), (b 37, .inl (cI, 300, .inl gs)), (b 38, .inl (cI, 300, .inl gu))] := hD
      refine lv_aload_n hx hb dX8_drops_33 rfl (lv_at hl 0 rfl) ?_
      refine va_get (D := (dC, dI)) (ci := 8) (v := .ref (b 36)) (C := RX8) (T := TX8) (N := 49) hx hb hw zz_inX8 hown hK hP 0 rfl rfl 35 (by decide) (hw _ tw_208) (fun _ h9 => h9) rfl dX8_drops_34 ?_
      refine lv_iload_n hx hb dX8_drops_37 rfl (lv_at hl 1 rfl) ?_
      refine lv_aload_n hx hb dX8_drops_38 rfl (lv_at hl 0 rfl) ?_
      refine va_get (D := (dC, dI)) (ci := 8) (v := .ref (b 36)) (C := RX8) (T := TX8) (N := 49) hx hb hw zz_inX8 hown hK hP 0 rfl rfl 35 (by decide) (hw _ tw_208) (fun _ h9 => h9) rfl dX8_drops_39 ?_
      refine lv_iload_n hx hb dX8_drops_42 rfl (lv_at hl 2 rfl) ?_
      refine va_iald hx hb hK hP 2 0 rfl rfl (vp_in_iff.mpr (by rw [zz_toInt j (by omega)]; constructor <;> omega)) dX8_drops_43 ?_
      refine va_iast hx hb hK hP hD hS 2 0 rfl rfl (vp_in_iff.mpr (by rw [zz_toInt k (by omega)]; constructor <;> omega)) dX8_drops_44 (fun H locs hP hD hS => ?_)
      have hP : va_P (dC, dI) vwCl [(b 0, .inr (8, [.ref (b 1), .int (nI mt), .int (gg 2), .int (gg 3), .int (gg 4), .int (gg 5), .int (gg 6), .int (gg 7), .int (gg 8), .int (gg 9), .ref (b 11), .ref (b 12), .ref (b 13), .int (nI mc), .int (nI mh), .ref (b 16), .ref (b 17), .ref (b 18), .ref (b 19), .ref (b 20), .ref (b 21), .ref (b 22), .ref (b 23), .ref (b 24), .int (nI mf), .ref (b 26), .ref (b 27), .ref (b 28), .ref (b 29), .ref (b 30), .ref (b 31), .ref (b 32), .int (gg 32), .int (nI md), .ref (b 35), .ref (b 36), .ref (b 37), .ref (b 38), .ref (b 39), .ref (b 40), .int (gg 40), .ref (b 42), .ref (b 43), .ref (b 44), .int (gg 44), .ref (b 46), .ref (b 47), .int (gg 47), .ref (b 49)])), (b 35, .inl (cI, 300, .inl (upd go (Int32.toNatClampNeg (nI k)) (go (Int32.toNatClampNeg (nI j)))))), (b 36, .inl (cI, 300, .inl (upd gc (Int32.toNatClampNeg (nI k)) (gc (Int32.toNatClampNeg (nI j)))))), (b 37, .inl (cI, 300, .inl gs)), (b 38, .inl (cI, 300, .inl gu))] H := hP
      have hD : va_D A [(b 0, .inr (8, [.ref (b 1), .int (nI mt), .int (gg 2), .int (gg 3), .int (gg 4), .int (gg 5), .int (gg 6), .int (gg 7), .int (gg 8), .int (gg 9), .ref (b 11), .ref (b 12), .ref (b 13), .int (nI mc), .int (nI mh), .ref (b 16), .ref (b 17), .ref (b 18), .ref (b 19), .ref (b 20), .ref (b 21), .ref (b 22), .ref (b 23), .ref (b 24), .int (nI mf), .ref (b 26), .ref (b 27), .ref (b 28), .ref (b 29), .ref (b 30), .ref (b 31), .ref (b 32), .int (gg 32), .int (nI md), .ref (b 35), .ref (b 36), .ref (b 37), .ref (b 38), .ref (b 39), .ref (b 40), .int (gg 40), .ref (b 42), .ref (b 43), .ref (b 44), .int (gg 44), .ref (b 46), .ref (b 47), .int (gg 47), .ref (b 49)])), (b 35, .inl (cI, 300, .inl (upd go (Int32.toNatClampNeg (nI k)) (go (Int32.toNatClampNeg (nI j)))))), (b 36, .inl (cI, 300, .inl (upd gc (Int32.toNatClampNeg (nI k)) (gc (Int32.toNatClampNeg (nI j)))))), (b 37, .inl (cI, 300, .inl gs)), (b 38, .inl (cI, 300, .inl gu))] := hD
      refine lv_aload_n hx hb dX8_drops_45 rfl (lv_at hl 0 rfl) ?_
      refine va_get (D := (dC, dI)) (ci := 8) (v := .ref (b 37)) (C := RX8) (T := TX8) (N := 49) hx hb hw zz_inX8 hown hK hP 0 rfl rfl 36 (by decide) (hw _ tw_209) (fun _ h9 => h9) rfl dX8_drops_46 ?_
      refine lv_iload_n hx hb dX8_drops_49 rfl (lv_at hl 1 rfl) ?_
      refine lv_aload_n hx hb dX8_drops_50 rfl (lv_at hl 0 rfl) ?_
      refine va_get (D := (dC, dI)) (ci := 8) (v := .ref (b 37)) (C := RX8) (T := TX8) (N := 49) hx hb hw zz_inX8 hown hK hP 0 rfl rfl 36 (by decide) (hw _ tw_209) (fun _ h9 => h9) rfl dX8_drops_51 ?_
      refine lv_iload_n hx hb dX8_drops_54 rfl (lv_at hl 2 rfl) ?_
      refine va_iald hx hb hK hP 3 0 rfl rfl (vp_in_iff.mpr (by rw [zz_toInt j (by omega)]; constructor <;> omega)) dX8_drops_55 ?_
      refine va_iast hx hb hK hP hD hS 3 0 rfl rfl (vp_in_iff.mpr (by rw [zz_toInt k (by omega)]; constructor <;> omega)) dX8_drops_56 (fun H locs hP hD hS => ?_)
      have hP : va_P (dC, dI) vwCl [(b 0, .inr (8, [.ref (b 1), .int (nI mt), .int (gg 2), .int (gg 3), .int (gg 4), .int (gg 5), .int (gg 6), .int (gg 7), .int (gg 8), .int (gg 9), .ref (b 11), .ref (b 12), .ref (b 13), .int (nI mc), .int (nI mh), .ref (b 16), .ref (b 17), .ref (b 18), .ref (b 19), .ref (b 20), .ref (b 21), .ref (b 22), .ref (b 23), .ref (b 24), .int (nI mf), .ref (b 26), .ref (b 27), .ref (b 28), .ref (b 29), .ref (b 30), .ref (b 31), .ref (b 32), .int (gg 32), .int (nI md), .ref (b 35), .ref (b 36), .ref (b 37), .ref (b 38), .ref (b 39), .ref (b 40), .int (gg 40), .ref (b 42), .ref (b 43), .ref (b 44), .int (gg 44), .ref (b 46), .ref (b 47), .int (gg 47), .ref (b 49)])), (b 35, .inl (cI, 300, .inl (upd go (Int32.toNatClampNeg (nI k)) (go (Int32.toNatClampNeg (nI j)))))), (b 36, .inl (cI, 300, .inl (upd gc (Int32.toNatClampNeg (nI k)) (gc (Int32.toNatClampNeg (nI j)))))), (b 37, .inl (cI, 300, .inl (upd gs (Int32.toNatClampNeg (nI k)) (gs (Int32.toNatClampNeg (nI j)))))), (b 38, .inl (cI, 300, .inl gu))] H := hP
      have hD : va_D A [(b 0, .inr (8, [.ref (b 1), .int (nI mt), .int (gg 2), .int (gg 3), .int (gg 4), .int (gg 5), .int (gg 6), .int (gg 7), .int (gg 8), .int (gg 9), .ref (b 11), .ref (b 12), .ref (b 13), .int (nI mc), .int (nI mh), .ref (b 16), .ref (b 17), .ref (b 18), .ref (b 19), .ref (b 20), .ref (b 21), .ref (b 22), .ref (b 23), .ref (b 24), .int (nI mf), .ref (b 26), .ref (b 27), .ref (b 28), .ref (b 29), .ref (b 30), .ref (b 31), .ref (b 32), .int (gg 32), .int (nI md), .ref (b 35), .ref (b 36), .ref (b 37), .ref (b 38), .ref (b 39), .ref (b 40), .int (gg 40), .ref (b 42), .ref (b 43), .ref (b 44), .int (gg 44), .ref (b 46), .ref (b 47), .int (gg 47), .ref (b 49)])), (b 35, .inl (cI, 300, .inl (upd go (Int32.toNatClampNeg (nI k)) (go (Int32.toNatClampNeg (nI j)))))), (b 36, .inl (cI, 300, .inl (upd gc (Int32.toNatClampNeg (nI k)) (gc (Int32.toNatClampNeg (nI j)))))), (b 37, .inl (cI, 300, .inl (upd gs (Int32.toNatClampNeg (nI k)) (gs (Int32.toNatClampNeg (nI j)))))), (b 38, .inl (cI, 300, .inl gu))] := hD
      refine lv_aload_n hx hb dX8_drops_57 rfl (lv_at hl 0 rfl) ?_
      refine va_get (D := (dC, dI)) (ci := 8) (v := .ref (b 38)) (C := RX8) (T := TX8) (N := 49) hx hb hw zz_inX8 hown hK hP 0 rfl rfl 37 (by decide) (hw _ tw_210) (fun _ h9 => h9) rfl dX8_drops_58 ?_
      refine lv_iload_n hx hb dX8_drops_61 rfl (lv_at hl 1 rfl) ?_
      refine lv_aload_n hx hb dX8_drops_62 rfl (lv_at hl 0 rfl) ?_
      refine va_get (D := (dC, dI)) (ci := 8) (v := .ref (b 38)) (C := RX8) (T := TX8) (N := 49) hx hb hw zz_inX8 hown hK hP 0 rfl rfl 37 (by decide) (hw _ tw_210) (fun _ h9 => h9) rfl dX8_drops_63 ?_
      refine lv_iload_n hx hb dX8_drops_66 rfl (lv_at hl 2 rfl) ?_
      refine va_iald hx hb hK hP 4 0 rfl rfl (vp_in_iff.mpr (by rw [zz_toInt j (by omega)]; constructor <;> omega)) dX8_drops_67 ?_
      refine va_iast hx hb hK hP hD hS 4 0 rfl rfl (vp_in_iff.mpr (by rw [zz_toInt k (by omega)]; constructor <;> omega)) dX8_drops_68 (fun H locs hP hD hS => ?_)
      have hP : va_P (dC, dI) vwCl [(b 0, .inr (8, [.ref (b 1), .int (nI mt), .int (gg 2), .int (gg 3), .int (gg 4), .int (gg 5), .int (gg 6), .int (gg 7), .int (gg 8), .int (gg 9), .ref (b 11), .ref (b 12), .ref (b 13), .int (nI mc), .int (nI mh), .ref (b 16), .ref (b 17), .ref (b 18), .ref (b 19), .ref (b 20), .ref (b 21), .ref (b 22), .ref (b 23), .ref (b 24), .int (nI mf), .ref (b 26), .ref (b 27), .ref (b 28), .ref (b 29), .ref (b 30), .ref (b 31), .ref (b 32), .int (gg 32), .int (nI md), .ref (b 35), .ref (b 36), .ref (b 37), .ref (b 38), .ref (b 39), .ref (b 40), .int (gg 40), .ref (b 42), .ref (b 43), .ref (b 44), .int (gg 44), .ref (b 46), .ref (b 47), .int (gg 47), .ref (b 49)])), (b 35, .inl (cI, 300, .inl (upd go (Int32.toNatClampNeg (nI k)) (go (Int32.toNatClampNeg (nI j)))))), (b 36, .inl (cI, 300, .inl (upd gc (Int32.toNatClampNeg (nI k)) (gc (Int32.toNatClampNeg (nI j)))))), (b 37, .inl (cI, 300, .inl (upd gs (Int32.toNatClampNeg (nI k)) (gs (Int32.toNatClampNeg (nI j)))))), (b 38, .inl (cI, 300, .inl (upd gu (Int32.toNatClampNeg (nI k)) (gu (Int32.toNatClampNeg (nI j))))))] H := hP
      have hD : va_D A [(b 0, .inr (8, [.ref (b 1), .int (nI mt), .int (gg 2), .int (gg 3), .int (gg 4), .int (gg 5), .int (gg 6), .int (gg 7), .int (gg 8), .int (gg 9), .ref (b 11), .ref (b 12), .ref (b 13), .int (nI mc), .int (nI mh), .ref (b 16), .ref (b 17), .ref (b 18), .ref (b 19), .ref (b 20), .ref (b 21), .ref (b 22), .ref (b 23), .ref (b 24), .int (nI mf), .ref (b 26), .ref (b 27), .ref (b 28), .ref (b 29), .ref (b 30), .ref (b 31), .ref (b 32), .int (gg 32), .int (nI md), .ref (b 35), .ref (b 36), .ref (b 37), .ref (b 38), .ref (b 39), .ref (b 40), .int (gg 40), .ref (b 42), .ref (b 43), .ref (b 44), .int (gg 44), .ref (b 46), .ref (b 47), .int (gg 47), .ref (b 49)])), (b 35, .inl (cI, 300, .inl (upd go (Int32.toNatClampNeg (nI k)) (go (Int32.toNatClampNeg (nI j)))))), (b 36, .inl (cI, 300, .inl (upd gc (Int32.toNatClampNeg (nI k)) (gc (Int32.toNatClampNeg (nI j)))))), (b 37, .inl (cI, 300, .inl (upd gs (Int32.toNatClampNeg (nI k)) (gs (Int32.toNatClampNeg (nI j)))))), (b 38, .inl (cI, 300, .inl (upd gu (Int32.toNatClampNeg (nI k)) (gu (Int32.toNatClampNeg (nI j))))))] := hD
      refine lv_iinc (v := (nI (k + 1))) (lv' := [(1, .int (nI (k + 1))), (0, .ref (b 0)), (2, .int (nI j))]) hx hb dX8_drops_69 hl (k := 1) rfl (nI_1 _) (by decide) rfl (fun ls hl => ?_)
      refine lv_iinc (v := (nI (j + 1))) (lv' := [(2, .int (nI (j + 1))), (1, .int (nI (k + 1))), (0, .ref (b 0))]) hx hb dX8_drops_72 hl (k := 2) rfl (nI_1 _) (by decide) rfl (fun ls hl => ?_)
      refine lv_goto (tgt := 4) hx hb dX8_drops_75 (by decide) ?_
      exact ih_4 ((j + 1), (k + 1), (upd go (Int32.toNatClampNeg (nI k)) (go (Int32.toNatClampNeg (nI j)))), (upd gc (Int32.toNatClampNeg (nI k)) (gc (Int32.toNatClampNeg (nI j)))), (upd gs (Int32.toNatClampNeg (nI k)) (gs (Int32.toNatClampNeg (nI j)))), (upd gu (Int32.toNatClampNeg (nI k)) (gu (Int32.toNatClampNeg (nI j))))) (show (j + 1) ≤ md ∧ (k + 1) ≤ (j + 1) from (by refine ⟨?_, ?_⟩ <;> omega)) (show md - (j + 1) < md - j from by omega) _ _ _ (hP.sub [0, 1, 2, 3, 4] rfl) (hD.sub [0, 1, 2, 3, 4] (by decide) rfl) hS (lv_sub hl [2, 1, 0] rfl)

set_option maxHeartbeats 4000000 in
set_option maxRecDepth 100000 in
theorem m_owes (l : Launch) (dC : Nat → ClassId) (dI : Nat → Nat → Nat) (b : Nat → Nat) (gg : Nat → Int32) (mt : Nat) (mc : Nat) (mh : Nat) (mf : Nat) (md : Nat) (cI : ClassId) (mo : Nat → Int32) (mr : Nat → Int32) (my : Nat → Int32) (mu : Nat → Int32) (p0 : Int32) (p1 : Int32) (sz : Nat) (hmh : mh ≤ 8) (hmd : md ≤ 300) : Met l yX8_owes (zz_w yX8_owes cX8_owes 3 (some .int)) ({ frames := 2, cells := 0, slots := 0, locals := 46 }) (va_Pc [.ref (b 0), .int p0, .int p1] (zz_B (dC, dI) sz [(b 0, .inr (8, [.ref (b 1), .int (nI mt), .int (gg 2), .int (gg 3), .int (gg 4), .int (gg 5), .int (gg 6), .int (gg 7), .int (gg 8), .int (gg 9), .ref (b 11), .ref (b 12), .ref (b 13), .int (nI mc), .int (nI mh), .ref (b 16), .ref (b 17), .ref (b 18), .ref (b 19), .ref (b 20), .ref (b 21), .ref (b 22), .ref (b 23), .ref (b 24), .int (nI mf), .ref (b 26), .ref (b 27), .ref (b 28), .ref (b 29), .ref (b 30), .ref (b 31), .ref (b 32), .int (gg 32), .int (nI md), .ref (b 35), .ref (b 36), .ref (b 37), .ref (b 38), .ref (b 39), .ref (b 40), .int (gg 40), .ref (b 42), .ref (b 43), .ref (b 44), .int (gg 44), .ref (b 46), .ref (b 47), .int (gg 47), .ref (b 49)])), (b 35, .inl (cI, 300, .inl mo)), (b 36, .inl (cI, 300, .inl mr)), (b 37, .inl (cI, 300, .inl my)), (b 38, .inl (cI, 300, .inl mu))] [(cI, .int)])) (va_Qi (fun (_ : Int32) (_ : Unit) => True) (fun _ _ => True) (va_A [] sz)) 0 0 (va_A [] sz) := by
  refine Met.ofW (cc := cX8_owes) (maxL := 3) (ret := (some .int)) (by decide) rfl ?_
  intro p e s m args below meth c s₁ B hml hv
  obtain ⟨rfl, hsz, hP, hK, hD0, hN⟩ := hv
  have hx := B.exec
  have hb := B.bytes
  have hr := B.returns
  have hts := atoms_spec (ws := zz_w yX8_owes cX8_owes 3 (some .int)) B.pre
  have hw : ∀ w ∈ zz_all, w.before _ s = true := fun w h => hts w (List.mem_cons_of_mem _ h)
  have hown : s.vm.findClass RX8 = some m.cls := findClass_of_methodNamed B.named
  have hlocks := B.notSynchronized
  subst hsz
  have hD := hD0
  generalize hAe : va_A [] s.heap.size = A
  have hA : ∀ q : Nat, s.heap.size ≤ q → A q := fun q h => by rw [← hAe]; exact Or.inr h
  have hS : va_S A s.heap s.heap [] := va_S.rf
  have hP : va_P (dC, dI) vwCl [(b 0, .inr (8, [.ref (b 1), .int (nI mt), .int (gg 2), .int (gg 3), .int (gg 4), .int (gg 5), .int (gg 6), .int (gg 7), .int (gg 8), .int (gg 9), .ref (b 11), .ref (b 12), .ref (b 13), .int (nI mc), .int (nI mh), .ref (b 16), .ref (b 17), .ref (b 18), .ref (b 19), .ref (b 20), .ref (b 21), .ref (b 22), .ref (b 23), .ref (b 24), .int (nI mf), .ref (b 26), .ref (b 27), .ref (b 28), .ref (b 29), .ref (b 30), .ref (b 31), .ref (b 32), .int (gg 32), .int (nI md), .ref (b 35), .ref (b 36), .ref (b 37), .ref (b 38), .ref (b 39), .ref (b 40), .int (gg 40), .ref (b 42), .ref (b 43), .ref (b 44), .int (gg 44), .ref (b 46), .ref (b 47), .int (gg 47), .ref (b 49)])), (b 35, .inl (cI, 300, .inl mo)), (b 36, .inl (cI, 300, .inl mr)), (b 37, .inl (cI, 300, .inl my)), (b 38, .inl (cI, 300, .inl mu))] s.heap := hP
  have hl := lv_entry ([.ref (b 0), .int p0, .int p1]) (n := 3) (Nat.le_of_ble_eq_true rfl)
  rw [lg_entry_eq]
  generalize (lg_sl ([.ref (b 0), .int p0, .int p1]) ++ List.replicate (3 - (lg_sl ([.ref (b 0), .int p0, .int p1])).length) Slot.unset).toArray = ls at hl ⊢
  have hl : lv_has ls 3 [(0, .ref (b 0)), (1, .int p0), (2, .int p1)] := hl
  refine lv_aload_n hx hb dX8_owes_0 rfl (lv_at hl 0 rfl) ?_
  refine lv_iload_n hx hb dX8_owes_1 rfl (lv_at hl 1 rfl) ?_
  have hPc := hP.sub (ws' := [(b 0, .inr (8, [.ref (b 1), .int (nI mt), .int (gg 2), .int (gg 3), .int (gg 4), .int (gg 5), .int (gg 6), .int (gg 7), .int (gg 8), .int (gg 9), .ref (b 11), .ref (b 12), .ref (b 13), .int (nI mc), .int (nI mh), .ref (b 16), .ref (b 17), .ref (b 18), .ref (b 19), .ref (b 20), .ref (b 21), .ref (b 22), .ref (b 23), .ref (b 24), .int (nI mf), .ref (b 26), .ref (b 27), .ref (b 28), .ref (b 29), .ref (b 30), .ref (b 31), .ref (b 32), .int (gg 32), .int (nI md), .ref (b 35), .ref (b 36), .ref (b 37), .ref (b 38), .ref (b 39), .ref (b 40), .int (gg 40), .ref (b 42), .ref (b 43), .ref (b 44), .int (gg 44), .ref (b 46), .ref (b 47), .int (gg 47), .ref (b 49)]))]) [0] rfl
  have hDc := hD.sub (ws' := [(b 0, .inr (8, [.ref (b 1), .int (nI mt), .int (gg 2), .int (gg 3), .int (gg 4), .int (gg 5), .int (gg 6), .int (gg 7), .int (gg 8), .int (gg 9), .ref (b 11), .ref (b 12), .ref (b 13), .int (nI mc), .int (nI mh), .ref (b 16), .ref (b 17), .ref (b 18), .ref (b 19), .ref (b 20), .ref (b 21), .ref (b 22), .ref (b 23), .ref (b 24), .int (nI mf), .ref (b 26), .ref (b 27), .ref (b 28), .ref (b 29), .ref (b 30), .ref (b 31), .ref (b 32), .int (gg 32), .int (nI md), .ref (b 35), .ref (b 36), .ref (b 37), .ref (b 38), .ref (b 39), .ref (b 40), .int (gg 40), .ref (b 42), .ref (b 43), .ref (b 44), .int (gg 44), .ref (b 46), .ref (b 47), .int (gg 47), .ref (b 49)]))]) [0] (by decide) rfl
  have hKc := hK.sub (tys' := []) [] rfl
  have hFc := zz_free0 hS hA
  refine va_calli (va_runV (As := [.int p0]) (rest := []) ⟨hx, hb, hml, hown, hw⟩ (m_isHouse l dC dI b gg mt mc mh mf md p0 s.heap.size (by omega)) ⟨callB_of 1 hw (zz_good tw_197) rfl rfl rfl (hw _ tw_184) (hw _ tw_198) (by decide +kernel) ⟨Nat.le_of_ble_eq_true rfl, Nat.le_of_ble_eq_true rfl⟩, (hw _ tw_199), (hw _ tw_200)⟩ ⟨zz_blind, va_recv hKc hPc (ci := 8) (q0 := 0) rfl rfl, zz_pre hPc hKc hDc hN⟩ rfl rfl hl.1 rfl (lv_room (Nat.le_of_ble_eq_true rfl)) dX8_owes_2 ⟨Nat.le_of_ble_eq_true rfl, Nat.le_of_ble_eq_true rfl⟩) hS (fun q _ h => hFc q h) hFc (fun r_1 u_1 t H1 locs ht hvm e_1 hB hz1 hk1 hS => ?_)
  try dsimp only at e_1
  have hP := zz_keep hP hk1
  clear hk1 hB ht hvm
  generalize H1 = H at hP hS ⊢
  rcases e_1 with ⟨n1_1, er_1⟩ | ⟨n1_1, er_1⟩
  · refine zz_seti 1 er_1 ?_
    refine lv_if_eq (tgt := 21) hx hb dX8_owes_5 (by decide) (fun c_9 => absurd c_9 (by decide)) (fun _ => ?_)
    refine lv_aload_n hx hb dX8_owes_8 rfl (lv_at hl 0 rfl) ?_
    refine lv_iload_n hx hb dX8_owes_9 rfl (lv_at hl 2 rfl) ?_
    have hPc := hP.sub (ws' := [(b 0, .inr (8, [.ref (b 1), .int (nI mt), .int (gg 2), .int (gg 3), .int (gg 4), .int (gg 5), .int (gg 6), .int (gg 7), .int (gg 8), .int (gg 9), .ref (b 11), .ref (b 12), .ref (b 13), .int (nI mc), .int (nI mh), .ref (b 16), .ref (b 17), .ref (b 18), .ref (b 19), .ref (b 20), .ref (b 21), .ref (b 22), .ref (b 23), .ref (b 24), .int (nI mf), .ref (b 26), .ref (b 27), .ref (b 28), .ref (b 29), .ref (b 30), .ref (b 31), .ref (b 32), .int (gg 32), .int (nI md), .ref (b 35), .ref (b 36), .ref (b 37), .ref (b 38), .ref (b 39), .ref (b 40), .int (gg 40), .ref (b 42), .ref (b 43), .ref (b 44), .int (gg 44), .ref (b 46), .ref (b 47), .int (gg 47), .ref (b 49)]))]) [0] rfl
    have hDc := hD.sub (ws' := [(b 0, .inr (8, [.ref (b 1), .int (nI mt), .int (gg 2), .int (gg 3), .int (gg 4), .int (gg 5), .int (gg 6), .int (gg 7), .int (gg 8), .int (gg 9), .ref (b 11), .ref (b 12), .ref (b 13), .int (nI mc), .int (nI mh), .ref (b 16), .ref (b 17), .ref (b 18), .ref (b 19), .ref (b 20), .ref (b 21), .ref (b 22), .ref (b 23), .ref (b 24), .int (nI mf), .ref (b 26), .ref (b 27), .ref (b 28), .ref (b 29), .ref (b 30), .ref (b 31), .ref (b 32), .int (gg 32), .int (nI md), .ref (b 35), .ref (b 36), .ref (b 37), .ref (b 38), .ref (b 39), .ref (b 40), .int (gg 40), .ref (b 42), .ref (b 43), .ref (b 44), .int (gg 44), .ref (b 46), .ref (b 47), .int (gg 47), .ref (b 49)]))]) [0] (by decide) rfl
    have hKc := hK.sub (tys' := []) [] rfl
    have hFc := zz_free0 hS hA
    refine va_calli (va_runV (As := [.int p1]) (rest := []) ⟨hx, hb, hml, hown, hw⟩ (m_isHouse l dC dI b gg mt mc mh mf md p1 H.size (by omega)) ⟨callB_of 1 hw (zz_good tw_197) rfl rfl rfl (hw _ tw_184) (hw _ tw_198) (by decide +kernel) ⟨Nat.le_of_ble_eq_true rfl, Nat.le_of_ble_eq_true rfl⟩, (hw _ tw_199), (hw _ tw_200)⟩ ⟨zz_blind, va_recv hKc hPc (ci := 8) (q0 := 0) rfl rfl, zz_pre hPc hKc hDc hN⟩ rfl rfl hl.1 rfl (lv_room (Nat.le_of_ble_eq_true rfl)) dX8_owes_10 ⟨Nat.le_of_ble_eq_true rfl, Nat.le_of_ble_eq_true rfl⟩) hS (fun q _ h => hFc q h) hFc (fun r_2 u_2 t H1 locs ht hvm e_2 hB hz1 hk1 hS => ?_)
    try dsimp only at e_2
    have hP := zz_keep hP hk1
    clear hk1 hB ht hvm
    generalize H1 = H at hP hS ⊢
    rcases e_2 with ⟨n1_2, er_2⟩ | ⟨n1_2, er_2⟩
    · refine zz_seti 1 er_2 ?_
      refine lv_if_eq (tgt := 21) hx hb dX8_owes_13 (by decide) (fun c_9 => absurd c_9 (by decide)) (fun _ => ?_)
      refine lv_iload_n hx hb dX8_owes_16 rfl (lv_at hl 1 rfl) ?_
      refine lv_iload_n hx hb dX8_owes_17 rfl (lv_at hl 2 rfl) ?_
      refine lv_icmp_ne (tgt := 25) hx hb dX8_owes_18 (by decide) (fun c_3 => ?_) (fun c_3 => ?_)
      · have zc_3 := c_3
        rw [← Int32.toInt_inj] at zc_3
        refine lv_aload_n hx hb dX8_owes_25 rfl (lv_at hl 0 rfl) ?_
        refine lv_iload_n hx hb dX8_owes_26 rfl (lv_at hl 1 rfl) ?_
        refine lv_iload_n hx hb dX8_owes_27 rfl (lv_at hl 2 rfl) ?_
        have hPc := hP.sub (ws' := [(b 0, .inr (8, [.ref (b 1), .int (nI mt), .int (gg 2), .int (gg 3), .int (gg 4), .int (gg 5), .int (gg 6), .int (gg 7), .int (gg 8), .int (gg 9), .ref (b 11), .ref (b 12), .ref (b 13), .int (nI mc), .int (nI mh), .ref (b 16), .ref (b 17), .ref (b 18), .ref (b 19), .ref (b 20), .ref (b 21), .ref (b 22), .ref (b 23), .ref (b 24), .int (nI mf), .ref (b 26), .ref (b 27), .ref (b 28), .ref (b 29), .ref (b 30), .ref (b 31), .ref (b 32), .int (gg 32), .int (nI md), .ref (b 35), .ref (b 36), .ref (b 37), .ref (b 38), .ref (b 39), .ref (b 40), .int (gg 40), .ref (b 42), .ref (b 43), .ref (b 44), .int (gg 44), .ref (b 46), .ref (b 47), .int (gg 47), .ref (b 49)])), (b 35, .inl (cI, 300, .inl mo)), (b 36, .inl (cI, 300, .inl mr)), (b 37, .inl (cI, 300, .inl my)), (b 38, .inl (cI, 300, .inl mu))]) [0, 1, 2, 3, 4] rfl
        have hDc := hD.sub (ws' := [(b 0, .inr (8, [.ref (b 1), .int (nI mt), .int (gg 2), .int (gg 3), .int (gg 4), .int (gg 5), .int (gg 6), .int (gg 7), .int (gg 8), .int (gg 9), .ref (b 11), .ref (b 12), .ref (b 13), .int (nI mc), .int (nI mh), .ref (b 16), .ref (b 17), .ref (b 18), .ref (b 19), .ref (b 20), .ref (b 21), .ref (b 22), .ref (b 23), .ref (b 24), .int (nI mf), .ref (b 26), .ref (b 27), .ref (b 28), .ref (b 29), .ref (b 30), .ref (b 31), .ref (b 32), .int (gg 32), .int (nI md), .ref (b 35), .ref (b 36), .ref (b 37), .ref (b 38), .ref (b 39), .ref (b 40), .int (gg 40), .ref (b 42), .ref (b 43), .ref (b 44), .int (gg 44), .ref (b 46), .ref (b 47), .int (gg 47), .ref (b 49)])), (b 35, .inl (cI, 300, .inl mo)), (b 36, .inl (cI, 300, .inl mr)), (b 37, .inl (cI, 300, .inl my)), (b 38, .inl (cI, 300, .inl mu))]) [0, 1, 2, 3, 4] (by decide) rfl
        have hKc := hK.sub (tys' := [(cI, .int)]) [0] rfl
        have hFc := zz_free0 hS hA
        refine va_calli (va_runV (As := [.int p0, .int p1]) (rest := []) ⟨hx, hb, hml, hown, hw⟩ (m_owed l dC dI b gg mt mc mh mf md cI mo mr my mu p0 p1 H.size (by omega)) ⟨callB_of 2 hw (zz_good tw_211) rfl rfl rfl (hw _ tw_184) (hw _ tw_212) (by decide +kernel) ⟨Nat.le_of_ble_eq_true rfl, Nat.le_of_ble_eq_true rfl⟩, (hw _ tw_213), (hw _ tw_214)⟩ ⟨zz_blind, va_recv hKc hPc (ci := 8) (q0 := 0) rfl rfl, zz_pre hPc hKc hDc hN⟩ rfl rfl hl.1 rfl (lv_room (Nat.le_of_ble_eq_true rfl)) dX8_owes_28 ⟨Nat.le_of_ble_eq_true rfl, Nat.le_of_ble_eq_true rfl⟩) hS (fun q _ h => hFc q h) hFc (fun r_4 u_4 t H1 locs ht hvm e_4 hB hz1 hk1 hS => ?_)
        try dsimp only at e_4
        have hP := zz_keep hP hk1
        clear hk1 hB ht hvm
        generalize H1 = H at hP hS ⊢
        exact W.iret (v := r_4) hx hb hr (fun t ht hW => ⟨⟨r_4, (), rfl, trivial, trivial⟩, hS.F ht⟩) hS.2.2 dX8_owes_31
      · have zc_3 := c_3
        rw [← Int32.toInt_inj] at zc_3
        refine lv_iconst (v := (-1)) hx hb dX8_owes_21 (by decide) ?_
        refine lv_goto (tgt := 31) hx hb dX8_owes_22 (by decide) ?_
        exact W.iret (v := (-1)) hx hb hr (fun t ht hW => ⟨⟨(-1), (), rfl, trivial, trivial⟩, hS.F ht⟩) hS.2.2 dX8_owes_31
    · refine zz_seti 0 er_2 ?_
      refine lv_if_eq (tgt := 21) hx hb dX8_owes_13 (by decide) (fun _ => ?_) (fun c_9 => absurd c_9 (by decide))
      refine lv_iconst (v := (-1)) hx hb dX8_owes_21 (by decide) ?_
      refine lv_goto (tgt := 31) hx hb dX8_owes_22 (by decide) ?_
      exact W.iret (v := (-1)) hx hb hr (fun t ht hW => ⟨⟨(-1), (), rfl, trivial, trivial⟩, hS.F ht⟩) hS.2.2 dX8_owes_31
  · refine zz_seti 0 er_1 ?_
    refine lv_if_eq (tgt := 21) hx hb dX8_owes_5 (by decide) (fun _ => ?_) (fun c_9 => absurd c_9 (by decide))
    refine lv_iconst (v := (-1)) hx hb dX8_owes_21 (by decide) ?_
    refine lv_goto (tgt := 31) hx hb dX8_owes_22 (by decide) ?_
    exact W.iret (v := (-1)) hx hb hr (fun t ht hW => ⟨⟨(-1), (), rfl, trivial, trivial⟩, hS.F ht⟩) hS.2.2 dX8_owes_31

set_option maxHeartbeats 4000000 in
set_option maxRecDepth 100000 in
theorem m_oldest (l : Launch) (dC : Nat → ClassId) (dI : Nat → Nat → Nat) (b : Nat → Nat) (gg : Nat → Int32) (mt : Nat) (mc : Nat) (mh : Nat) (mf : Nat) (md : Nat) (cI : ClassId) (mo : Nat → Int32) (mr : Nat → Int32) (my : Nat → Int32) (mu : Nat → Int32) (p0 : Int32) (p1 : Int32) (sz : Nat) (hmh : mh ≤ 8) (hmd : md ≤ 300) : Met l yX8_oldest (zz_w yX8_oldest cX8_oldest 4 (some .int)) ({ frames := 2, cells := 0, slots := 0, locals := 46 }) (va_Pc [.ref (b 0), .int p0, .int p1] (zz_B (dC, dI) sz [(b 0, .inr (8, [.ref (b 1), .int (nI mt), .int (gg 2), .int (gg 3), .int (gg 4), .int (gg 5), .int (gg 6), .int (gg 7), .int (gg 8), .int (gg 9), .ref (b 11), .ref (b 12), .ref (b 13), .int (nI mc), .int (nI mh), .ref (b 16), .ref (b 17), .ref (b 18), .ref (b 19), .ref (b 20), .ref (b 21), .ref (b 22), .ref (b 23), .ref (b 24), .int (nI mf), .ref (b 26), .ref (b 27), .ref (b 28), .ref (b 29), .ref (b 30), .ref (b 31), .ref (b 32), .int (gg 32), .int (nI md), .ref (b 35), .ref (b 36), .ref (b 37), .ref (b 38), .ref (b 39), .ref (b 40), .int (gg 40), .ref (b 42), .ref (b 43), .ref (b 44), .int (gg 44), .ref (b 46), .ref (b 47), .int (gg 47), .ref (b 49)])), (b 35, .inl (cI, 300, .inl mo)), (b 36, .inl (cI, 300, .inl mr)), (b 37, .inl (cI, 300, .inl my)), (b 38, .inl (cI, 300, .inl mu))] [(cI, .int)])) (va_Qi (fun (_ : Int32) (_ : Unit) => True) (fun _ _ => True) (va_A [] sz)) 0 0 (va_A [] sz) := by
  refine Met.ofW (cc := cX8_oldest) (maxL := 4) (ret := (some .int)) (by decide) rfl ?_
  intro p e s m args below meth c s₁ B hml hv
  obtain ⟨rfl, hsz, hP, hK, hD0, hN⟩ := hv
  have hx := B.exec
  have hb := B.bytes
  have hr := B.returns
  have hts := atoms_spec (ws := zz_w yX8_oldest cX8_oldest 4 (some .int)) B.pre
  have hw : ∀ w ∈ zz_all, w.before _ s = true := fun w h => hts w (List.mem_cons_of_mem _ h)
  have hown : s.vm.findClass RX8 = some m.cls := findClass_of_methodNamed B.named
  have hlocks := B.notSynchronized
  subst hsz
  have hD := hD0
  generalize hAe : va_A [] s.heap.size = A
  have hA : ∀ q : Nat, s.heap.size ≤ q → A q := fun q h => by rw [← hAe]; exact Or.inr h
  have hS : va_S A s.heap s.heap [] := va_S.rf
  have hP : va_P (dC, dI) vwCl [(b 0, .inr (8, [.ref (b 1), .int (nI mt), .int (gg 2), .int (gg 3), .int (gg 4), .int (gg 5), .int (gg 6), .int (gg 7), .int (gg 8), .int (gg 9), .ref (b 11), .ref (b 12), .ref (b 13), .int (nI mc), .int (nI mh), .ref (b 16), .ref (b 17), .ref (b 18), .ref (b 19), .ref (b 20), .ref (b 21), .ref (b 22), .ref (b 23), .ref (b 24), .int (nI mf), .ref (b 26), .ref (b 27), .ref (b 28), .ref (b 29), .ref (b 30), .ref (b 31), .ref (b 32), .int (gg 32), .int (nI md), .ref (b 35), .ref (b 36), .ref (b 37), .ref (b 38), .ref (b 39), .ref (b 40), .int (gg 40), .ref (b 42), .ref (b 43), .ref (b 44), .int (gg 44), .ref (b 46), .ref (b 47), .int (gg 47), .ref (b 49)])), (b 35, .inl (cI, 300, .inl mo)), (b 36, .inl (cI, 300, .inl mr)), (b 37, .inl (cI, 300, .inl my)), (b 38, .inl (cI, 300, .inl mu))] s.heap := hP
  have hl := lv_entry ([.ref (b 0), .int p0, .int p1]) (n := 4) (Nat.le_of_ble_eq_true rfl)
  rw [lg_entry_eq]
  generalize (lg_sl ([.ref (b 0), .int p0, .int p1]) ++ List.replicate (4 - (lg_sl ([.ref (b 0), .int p0, .int p1])).length) Slot.unset).toArray = ls at hl ⊢
  have hl : lv_has ls 4 [(0, .ref (b 0)), (1, .int p0), (2, .int p1)] := hl
  refine lv_aload_n hx hb dX8_oldest_0 rfl (lv_at hl 0 rfl) ?_
  refine lv_iload_n hx hb dX8_oldest_1 rfl (lv_at hl 1 rfl) ?_
  have hPc := hP.sub (ws' := [(b 0, .inr (8, [.ref (b 1), .int (nI mt), .int (gg 2), .int (gg 3), .int (gg 4), .int (gg 5), .int (gg 6), .int (gg 7), .int (gg 8), .int (gg 9), .ref (b 11), .ref (b 12), .ref (b 13), .int (nI mc), .int (nI mh), .ref (b 16), .ref (b 17), .ref (b 18), .ref (b 19), .ref (b 20), .ref (b 21), .ref (b 22), .ref (b 23), .ref (b 24), .int (nI mf), .ref (b 26), .ref (b 27), .ref (b 28), .ref (b 29), .ref (b 30), .ref (b 31), .ref (b 32), .int (gg 32), .int (nI md), .ref (b 35), .ref (b 36), .ref (b 37), .ref (b 38), .ref (b 39), .ref (b 40), .int (gg 40), .ref (b 42), .ref (b 43), .ref (b 44), .int (gg 44), .ref (b 46), .ref (b 47), .int (gg 47), .ref (b 49)]))]) [0] rfl
  have hDc := hD.sub (ws' := [(b 0, .inr (8, [.ref (b 1), .int (nI mt), .int (gg 2), .int (gg 3), .int (gg 4), .int (gg 5), .int (gg 6), .int (gg 7), .int (gg 8), .int (gg 9), .ref (b 11), .ref (b 12), .ref (b 13), .int (nI mc), .int (nI mh), .ref (b 16), .ref (b 17), .ref (b 18), .ref (b 19), .ref (b 20), .ref (b 21), .ref (b 22), .ref (b 23), .ref (b 24), .int (nI mf), .ref (b 26), .ref (b 27), .ref (b 28), .ref (b 29), .ref (b 30), .ref (b 31), .ref (b 32), .int (gg 32), .int (nI md), .ref (b 35), .ref (b 36), .ref (b 37), .ref (b 38), .ref (b 39), .ref (b 40), .int (gg 40), .ref (b 42), .ref (b 43), .ref (b 44), .int (gg 44), .ref (b 46), .ref (b 47), .int (gg 47), .ref (b 49)]))]) [0] (by decide) rfl
  have hKc := hK.sub (tys' := []) [] rfl
  have hFc := zz_free0 hS hA
  refine va_calli (va_runV (As := [.int p0]) (rest := []) ⟨hx, hb, hml, hown, hw⟩ (m_isHouse l dC dI b gg mt mc mh mf md p0 s.heap.size (by omega)) ⟨callB_of 1 hw (zz_good tw_197) rfl rfl rfl (hw _ tw_184) (hw _ tw_198) (by decide +kernel) ⟨Nat.le_of_ble_eq_true rfl, Nat.le_of_ble_eq_true rfl⟩, (hw _ tw_199), (hw _ tw_200)⟩ ⟨zz_blind, va_recv hKc hPc (ci := 8) (q0 := 0) rfl rfl, zz_pre hPc hKc hDc hN⟩ rfl rfl hl.1 rfl (lv_room (Nat.le_of_ble_eq_true rfl)) dX8_oldest_2 ⟨Nat.le_of_ble_eq_true rfl, Nat.le_of_ble_eq_true rfl⟩) hS (fun q _ h => hFc q h) hFc (fun r_1 u_1 t H1 locs ht hvm e_1 hB hz1 hk1 hS => ?_)
  try dsimp only at e_1
  have hP := zz_keep hP hk1
  clear hk1 hB ht hvm
  generalize H1 = H at hP hS ⊢
  rcases e_1 with ⟨n1_1, er_1⟩ | ⟨n1_1, er_1⟩
  · refine zz_seti 1 er_1 ?_
    refine lv_if_eq (tgt := 16) hx hb dX8_oldest_5 (by decide) (fun c_9 => absurd c_9 (by decide)) (fun _ => ?_)
    refine lv_aload_n hx hb dX8_oldest_8 rfl (lv_at hl 0 rfl) ?_
    refine lv_iload_n hx hb dX8_oldest_9 rfl (lv_at hl 2 rfl) ?_
    have hPc := hP.sub (ws' := [(b 0, .inr (8, [.ref (b 1), .int (nI mt), .int (gg 2), .int (gg 3), .int (gg 4), .int (gg 5), .int (gg 6), .int (gg 7), .int (gg 8), .int (gg 9), .ref (b 11), .ref (b 12), .ref (b 13), .int (nI mc), .int (nI mh), .ref (b 16), .ref (b 17), .ref (b 18), .ref (b 19), .ref (b 20), .ref (b 21), .ref (b 22), .ref (b 23), .ref (b 24), .int (nI mf), .ref (b 26), .ref (b 27), .ref (b 28), .ref (b 29), .ref (b 30), .ref (b 31), .ref (b 32), .int (gg 32), .int (nI md), .ref (b 35), .ref (b 36), .ref (b 37), .ref (b 38), .ref (b 39), .ref (b 40), .int (gg 40), .ref (b 42), .ref (b 43), .ref (b 44), .int (gg 44), .ref (b 46), .ref (b 47), .int (gg 47), .ref (b 49)]))]) [0] rfl
    have hDc := hD.sub (ws' := [(b 0, .inr (8, [.ref (b 1), .int (nI mt), .int (gg 2), .int (gg 3), .int (gg 4), .int (gg 5), .int (gg 6), .int (gg 7), .int (gg 8), .int (gg 9), .ref (b 11), .ref (b 12), .ref (b 13), .int (nI mc), .int (nI mh), .ref (b 16), .ref (b 17), .ref (b 18), .ref (b 19), .ref (b 20), .ref (b 21), .ref (b 22), .ref (b 23), .ref (b 24), .int (nI mf), .ref (b 26), .ref (b 27), .ref (b 28), .ref (b 29), .ref (b 30), .ref (b 31), .ref (b 32), .int (gg 32), .int (nI md), .ref (b 35), .ref (b 36), .ref (b 37), .ref (b 38), .ref (b 39), .ref (b 40), .int (gg 40), .ref (b 42), .ref (b 43), .ref (b 44), .int (gg 44), .ref (b 46), .ref (b 47), .int (gg 47), .ref (b 49)]))]) [0] (by decide) rfl
    have hKc := hK.sub (tys' := []) [] rfl
    have hFc := zz_free0 hS hA
    refine va_calli (va_runV (As := [.int p1]) (rest := []) ⟨hx, hb, hml, hown, hw⟩ (m_isHouse l dC dI b gg mt mc mh mf md p1 H.size (by omega)) ⟨callB_of 1 hw (zz_good tw_197) rfl rfl rfl (hw _ tw_184) (hw _ tw_198) (by decide +kernel) ⟨Nat.le_of_ble_eq_true rfl, Nat.le_of_ble_eq_true rfl⟩, (hw _ tw_199), (hw _ tw_200)⟩ ⟨zz_blind, va_recv hKc hPc (ci := 8) (q0 := 0) rfl rfl, zz_pre hPc hKc hDc hN⟩ rfl rfl hl.1 rfl (lv_room (Nat.le_of_ble_eq_true rfl)) dX8_oldest_10 ⟨Nat.le_of_ble_eq_true rfl, Nat.le_of_ble_eq_true rfl⟩) hS (fun q _ h => hFc q h) hFc (fun r_2 u_2 t H1 locs ht hvm e_2 hB hz1 hk1 hS => ?_)
    try dsimp only at e_2
    have hP := zz_keep hP hk1
    clear hk1 hB ht hvm
    generalize H1 = H at hP hS ⊢
    rcases e_2 with ⟨n1_2, er_2⟩ | ⟨n1_2, er_2⟩
    · refine zz_seti 1 er_2 ?_
      refine lv_if_ne (tgt := 18) hx hb dX8_oldest_13 (by decide) (fun _ => ?_) (fun c_9 => absurd c_9 (by decide))
      refine lv_iconst (v := 0) hx hb dX8_oldest_18 (by decide) ?_
      refine lv_istore_n (lv' := [(3, .int 0), (0, .ref (b 0)), (1, .int p0), (2, .int p1)]) hx hb dX8_oldest_19 rfl hl (by decide) rfl (fun ls hl => ?_)
      refine zz_loopS (fun (j : (Nat)) => [(b 0, .inr (8, [.ref (b 1), .int (nI mt), .int (gg 2), .int (gg 3), .int (gg 4), .int (gg 5), .int (gg 6), .int (gg 7), .int (gg 8), .int (gg 9), .ref (b 11), .ref (b 12), .ref (b 13), .int (nI mc), .int (nI mh), .ref (b 16), .ref (b 17), .ref (b 18), .ref (b 19), .ref (b 20), .ref (b 21), .ref (b 22), .ref (b 23), .ref (b 24), .int (nI mf), .ref (b 26), .ref (b 27), .ref (b 28), .ref (b 29), .ref (b 30), .ref (b 31), .ref (b 32), .int (gg 32), .int (nI md), .ref (b 35), .ref (b 36), .ref (b 37), .ref (b 38), .ref (b 39), .ref (b 40), .int (gg 40), .ref (b 42), .ref (b 43), .ref (b 44), .int (gg 44), .ref (b 46), .ref (b 47), .int (gg 47), .ref (b 49)])), (b 35, .inl (cI, 300, .inl mo)), (b 36, .inl (cI, 300, .inl mr)), (b 37, .inl (cI, 300, .inl my)), (b 38, .inl (cI, 300, .inl mu))]) (fun (j : (Nat)) => [(0, .ref (b 0)), (1, .int p0), (2, .int p1), (3, .int (nI j))]) (fun (j : (Nat)) => j ≤ md) (fun (j : (Nat)) => md - j) (fun u hI H locs ls hP hD hS hl ih_20 => ?_) 0 (show 0 ≤ md from by omega) _ _ _ (hP.sub [0, 1, 2, 3, 4] rfl) (hD.sub [0, 1, 2, 3, 4] (by decide) rfl) hS (lv_sub hl [1, 2, 3, 0] rfl)
      obtain ⟨j, rfl⟩ : ∃ z, z = u := ⟨_, rfl⟩
      have hP : va_P (dC, dI) vwCl [(b 0, .inr (8, [.ref (b 1), .int (nI mt), .int (gg 2), .int (gg 3), .int (gg 4), .int (gg 5), .int (gg 6), .int (gg 7), .int (gg 8), .int (gg 9), .ref (b 11), .ref (b 12), .ref (b 13), .int (nI mc), .int (nI mh), .ref (b 16), .ref (b 17), .ref (b 18), .ref (b 19), .ref (b 20), .ref (b 21), .ref (b 22), .ref (b 23), .ref (b 24), .int (nI mf), .ref (b 26), .ref (b 27), .ref (b 28), .ref (b 29), .ref (b 30), .ref (b 31), .ref (b 32), .int (gg 32), .int (nI md), .ref (b 35), .ref (b 36), .ref (b 37), .ref (b 38), .ref (b 39), .ref (b 40), .int (gg 40), .ref (b 42), .ref (b 43), .ref (b 44), .int (gg 44), .ref (b 46), .ref (b 47), .int (gg 47), .ref (b 49)])), (b 35, .inl (cI, 300, .inl mo)), (b 36, .inl (cI, 300, .inl mr)), (b 37, .inl (cI, 300, .inl my)), (b 38, .inl (cI, 300, .inl mu))] H := hP
      have hD : va_D (fun _ => True) [(b 0, .inr (8, [.ref (b 1), .int (nI mt), .int (gg 2), .int (gg 3), .int (gg 4), .int (gg 5), .int (gg 6), .int (gg 7), .int (gg 8), .int (gg 9), .ref (b 11), .ref (b 12), .ref (b 13), .int (nI mc), .int (nI mh), .ref (b 16), .ref (b 17), .ref (b 18), .ref (b 19), .ref (b 20), .ref (b 21), .ref (b 22), .ref (b 23), .ref (b 24), .int (nI mf), .ref (b 26), .ref (b 27), .ref (b 28), .ref (b 29), .ref (b 30), .ref (b 31), .ref (b 32), .int (gg 32), .int (nI md), .ref (b 35), .ref (b 36), .ref (b 37), .ref (b 38), .ref (b 39), .ref (b 40), .int (gg 40), .ref (b 42), .ref (b 43), .ref (b 44), .int (gg 44), .ref (b 46), .ref (b 47), .int (gg 47), .ref (b 49)])), (b 35, .inl (cI, 300, .inl mo)), (b 36, .inl (cI, 300, .inl mr)), (b 37, .inl (cI, 300, .inl my)), (b 38, .inl (cI, 300, .inl mu))] := hD
      have hl : lv_has ls 4 [(0, .ref (b 0)), (1, .int p0), (2, .int p1), (3, .int (nI j))] := hl
      have hI : j ≤ md := hI
      have ij := hI
      refine lv_iload_n hx hb dX8_oldest_20 rfl (lv_at hl 3 rfl) ?_
      refine lv_aload_n hx hb dX8_oldest_21 rfl (lv_at hl 0 rfl) ?_
      refine va_get (D := (dC, dI)) (ci := 8) (v := .int (nI md)) (C := RX8) (T := TX8) (N := 49) hx hb hw zz_inX8 hown hK hP 0 rfl rfl 33 (by decide) (hw _ tw_206) (fun _ h9 => h9) rfl dX8_oldest_22 ?_
      refine lv_icmp_ge (tgt := 61) hx hb dX8_oldest_25 (by decide) (fun c_3 => ?_) (fun c_3 => ?_)
      · have zc_3 := c_3
        rw [Int32.le_iff_toInt_le] at zc_3
        try rw [zz_toInt j (by omega)] at zc_3
        try rw [zz_toInt md (by omega)] at zc_3
        refine lv_iconst (v := (-1)) hx hb dX8_oldest_61 (by decide) ?_
        exact W.iret (v := (-1)) hx hb hr (fun t ht hW => ⟨⟨(-1), (), rfl, trivial, trivial⟩, hS.F ht⟩) hS.2.2 dX8_oldest_62
      · have zc_3 := c_3
        rw [Int32.le_iff_toInt_le] at zc_3
        try rw [zz_toInt j (by omega)] at zc_3
        try rw [zz_toInt md (by omega)] at zc_3
        refine lv_aload_n hx hb dX8_oldest_28 rfl (lv_at hl 0 rfl) ?_
        refine va_get (D := (dC, dI)) (ci := 8) (v := .ref (b 35)) (C := RX8) (T := TX8) (N := 49) hx hb hw zz_inX8 hown hK hP 0 rfl rfl 34 (by decide) (hw _ tw_207) (fun _ h9 => h9) rfl dX8_oldest_29 ?_
        refine lv_iload_n hx hb dX8_oldest_32 rfl (lv_at hl 3 rfl) ?_
        refine va_iald hx hb hK hP 1 0 rfl rfl (vp_in_iff.mpr (by rw [zz_toInt j (by omega)]; constructor <;> omega)) dX8_oldest_33 ?_
        refine lv_iload_n hx hb dX8_oldest_34 rfl (lv_at hl 1 rfl) ?_
        refine lv_icmp_ne (tgt := 55) hx hb dX8_oldest_35 (by decide) (fun c_4 => ?_) (fun c_4 => ?_)
        · have zc_4 := c_4
          rw [← Int32.toInt_inj] at zc_4
          refine lv_iinc (v := (nI (j + 1))) (lv' := [(3, .int (nI (j + 1))), (0, .ref (b 0)), (1, .int p0), (2, .int p1)]) hx hb dX8_oldest_55 hl (k := 3) rfl (nI_1 _) (by decide) rfl (fun ls hl => ?_)
          refine lv_goto (tgt := 20) hx hb dX8_oldest_58 (by decide) ?_
          exact ih_20 (j + 1) (show (j + 1) ≤ md from by omega) (show md - (j + 1) < md - j from by omega) _ _ _ (hP.sub [0, 1, 2, 3, 4] rfl) (hD.sub [0, 1, 2, 3, 4] (by decide) rfl) hS (lv_sub hl [1, 2, 3, 0] rfl)
        · have zc_4 := c_4
          rw [← Int32.toInt_inj] at zc_4
          refine lv_aload_n hx hb dX8_oldest_38 rfl (lv_at hl 0 rfl) ?_
          refine va_get (D := (dC, dI)) (ci := 8) (v := .ref (b 36)) (C := RX8) (T := TX8) (N := 49) hx hb hw zz_inX8 hown hK hP 0 rfl rfl 35 (by decide) (hw _ tw_208) (fun _ h9 => h9) rfl dX8_oldest_39 ?_
          refine lv_iload_n hx hb dX8_oldest_42 rfl (lv_at hl 3 rfl) ?_
          refine va_iald hx hb hK hP 2 0 rfl rfl (vp_in_iff.mpr (by rw [zz_toInt j (by omega)]; constructor <;> omega)) dX8_oldest_43 ?_
          refine lv_iload_n hx hb dX8_oldest_44 rfl (lv_at hl 2 rfl) ?_
          refine lv_icmp_ne (tgt := 55) hx hb dX8_oldest_45 (by decide) (fun c_5 => ?_) (fun c_5 => ?_)
          · have zc_5 := c_5
            rw [← Int32.toInt_inj] at zc_5
            refine lv_iinc (v := (nI (j + 1))) (lv' := [(3, .int (nI (j + 1))), (0, .ref (b 0)), (1, .int p0), (2, .int p1)]) hx hb dX8_oldest_55 hl (k := 3) rfl (nI_1 _) (by decide) rfl (fun ls hl => ?_)
            refine lv_goto (tgt := 20) hx hb dX8_oldest_58 (by decide) ?_
            exact ih_20 (j + 1) (show (j + 1) ≤ md from by omega) (show md - (j + 1) < md - j from by omega) _ _ _ (hP.sub [0, 1, 2, 3, 4] rfl) (hD.sub [0, 1, 2, 3, 4] (by decide) rfl) hS (lv_sub hl [1, 2, 3, 0] rfl)
          · have zc_5 := c_5
            rw [← Int32.toInt_inj] at zc_5
            refine lv_aload_n hx hb dX8_oldest_48 rfl (lv_at hl 0 rfl) ?_
            refine va_get (D := (dC, dI)) (ci := 8) (v := .ref (b 37)) (C := RX8) (T := TX8) (N := 49) hx hb hw zz_inX8 hown hK hP 0 rfl rfl 36 (by decide) (hw _ tw_209) (fun _ h9 => h9) rfl dX8_oldest_49 ?_
            refine lv_iload_n hx hb dX8_oldest_52 rfl (lv_at hl 3 rfl) ?_
            refine va_iald hx hb hK hP 3 0 rfl rfl (vp_in_iff.mpr (by rw [zz_toInt j (by omega)]; constructor <;> omega)) dX8_oldest_53 ?_
            exact W.iret (v := (my (Int32.toNatClampNeg (nI j)))) hx hb hr (fun t ht hW => ⟨⟨(my (Int32.toNatClampNeg (nI j))), (), rfl, trivial, trivial⟩, hS.F ht⟩) hS.2.2 dX8_oldest_54
    · refine zz_seti 0 er_2 ?_
      refine lv_if_ne (tgt := 18) hx hb dX8_oldest_13 (by decide) (fun c_9 => absurd c_9 (by decide)) (fun _ => ?_)
      refine lv_iconst (v := (-1)) hx hb dX8_oldest_16 (by decide) ?_
      exact W.iret (v := (-1)) hx hb hr (fun t ht hW => ⟨⟨(-1), (), rfl, trivial, trivial⟩, hS.F ht⟩) hS.2.2 dX8_oldest_17
  · refine zz_seti 0 er_1 ?_
    refine lv_if_eq (tgt := 16) hx hb dX8_oldest_5 (by decide) (fun _ => ?_) (fun c_9 => absurd c_9 (by decide))
    refine lv_iconst (v := (-1)) hx hb dX8_oldest_16 (by decide) ?_
    exact W.iret (v := (-1)) hx hb hr (fun t ht hW => ⟨⟨(-1), (), rfl, trivial, trivial⟩, hS.F ht⟩) hS.2.2 dX8_oldest_17

set_option maxHeartbeats 4000000 in
set_option maxRecDepth 100000 in
theorem m_fault (l : Launch) (dC : Nat → ClassId) (dI : Nat → Nat → Nat) (b : Nat → Nat) (gg : Nat → Int32) (mt : Nat) (mc : Nat) (mh : Nat) (mf : Nat) (md : Nat) (p0 : Int32) (sz : Nat) : Met l yX8_fault (zz_w yX8_fault cX8_fault 2 (some .int)) ({ frames := 0, cells := 0, slots := 0, locals := 0 }) (va_Pc [.ref (b 0), .int p0] (zz_B (dC, dI) sz [(b 0, .inr (8, [.ref (b 1), .int (nI mt), .int (gg 2), .int (gg 3), .int (gg 4), .int (gg 5), .int (gg 6), .int (gg 7), .int (gg 8), .int (gg 9), .ref (b 11), .ref (b 12), .ref (b 13), .int (nI mc), .int (nI mh), .ref (b 16), .ref (b 17), .ref (b 18), .ref (b 19), .ref (b 20), .ref (b 21), .ref (b 22), .ref (b 23), .ref (b 24), .int (nI mf), .ref (b 26), .ref (b 27), .ref (b 28), .ref (b 29), .ref (b 30), .ref (b 31), .ref (b 32), .int (gg 32), .int (nI md), .ref (b 35), .ref (b 36), .ref (b 37), .ref (b 38), .ref (b 39), .ref (b 40), .int (gg 40), .ref (b 42), .ref (b 43), .ref (b 44), .int (gg 44), .ref (b 46), .ref (b 47), .int (gg 47), .ref (b 49)]))] [])) (va_Qi (fun (_ : Int32) (_ : Unit) => True) (fun _ _ => True) (va_A [] sz)) 0 0 (va_A [] sz) := by
  refine Met.ofW (cc := cX8_fault) (maxL := 2) (ret := (some .int)) (by decide) rfl ?_
  intro p e s m args below meth c s₁ B hml hv
  obtain ⟨rfl, hsz, hP, hK, hD0, hN⟩ := hv
  have hx := B.exec
  have hb := B.bytes
  have hr := B.returns
  have hts := atoms_spec (ws := zz_w yX8_fault cX8_fault 2 (some .int)) B.pre
  have hw : ∀ w ∈ zz_all, w.before _ s = true := fun w h => hts w (List.mem_cons_of_mem _ h)
  have hown : s.vm.findClass RX8 = some m.cls := findClass_of_methodNamed B.named
  have hlocks := B.notSynchronized
  subst hsz
  have hD := hD0
  generalize hAe : va_A [] s.heap.size = A
  have hA : ∀ q : Nat, s.heap.size ≤ q → A q := fun q h => by rw [← hAe]; exact Or.inr h
  have hS : va_S A s.heap s.heap [] := va_S.rf
  have hP : va_P (dC, dI) vwCl [(b 0, .inr (8, [.ref (b 1), .int (nI mt), .int (gg 2), .int (gg 3), .int (gg 4), .int (gg 5), .int (gg 6), .int (gg 7), .int (gg 8), .int (gg 9), .ref (b 11), .ref (b 12), .ref (b 13), .int (nI mc), .int (nI mh), .ref (b 16), .ref (b 17), .ref (b 18), .ref (b 19), .ref (b 20), .ref (b 21), .ref (b 22), .ref (b 23), .ref (b 24), .int (nI mf), .ref (b 26), .ref (b 27), .ref (b 28), .ref (b 29), .ref (b 30), .ref (b 31), .ref (b 32), .int (gg 32), .int (nI md), .ref (b 35), .ref (b 36), .ref (b 37), .ref (b 38), .ref (b 39), .ref (b 40), .int (gg 40), .ref (b 42), .ref (b 43), .ref (b 44), .int (gg 44), .ref (b 46), .ref (b 47), .int (gg 47), .ref (b 49)]))] s.heap := hP
  have hl := lv_entry ([.ref (b 0), .int p0]) (n := 2) (Nat.le_of_ble_eq_true rfl)
  rw [lg_entry_eq]
  generalize (lg_sl ([.ref (b 0), .int p0]) ++ List.replicate (2 - (lg_sl ([.ref (b 0), .int p0])).length) Slot.unset).toArray = ls at hl ⊢
  have hl : lv_has ls 2 [(0, .ref (b 0)), (1, .int p0)] := hl
  refine lv_iload_n hx hb dX8_fault_0 rfl (lv_at hl 1 rfl) ?_
  refine lv_if_ne (tgt := 11) hx hb dX8_fault_1 (by decide) (fun c_1 => ?_) (fun c_1 => ?_)
  · have zc_1 := c_1
    rw [← Int32.toInt_inj] at zc_1
    try rw [show (0 : Int32).toInt = 0 from by decide] at zc_1
    refine lv_iload_n hx hb dX8_fault_11 rfl (lv_at hl 1 rfl) ?_
    refine lv_iconst (v := 1) hx hb dX8_fault_12 (by decide) ?_
    refine lv_icmp_ne (tgt := 23) hx hb dX8_fault_13 (by decide) (fun c_2 => ?_) (fun c_2 => ?_)
    · have zc_2 := c_2
      rw [← Int32.toInt_inj] at zc_2
      try rw [show (1 : Int32).toInt = 1 from by decide] at zc_2
      refine lv_iconst (v := (-1)) hx hb dX8_fault_23 (by decide) ?_
      exact W.iret (v := (-1)) hx hb hr (fun t ht hW => ⟨⟨(-1), (), rfl, trivial, trivial⟩, hS.F ht⟩) hS.2.2 dX8_fault_24
    · have zc_2 := c_2
      rw [← Int32.toInt_inj] at zc_2
      try rw [show (1 : Int32).toInt = 1 from by decide] at zc_2
      refine lv_aload_n hx hb dX8_fault_16 rfl (lv_at hl 0 rfl) ?_
      refine va_get (D := (dC, dI)) (ci := 8) (v := .int (gg 9)) (C := RX8) (T := TX8) (N := 49) hx hb hw zz_inX8 hown hK hP 0 rfl rfl 9 (by decide) (hw _ tw_215) (fun _ h9 => h9) rfl dX8_fault_17 ?_
      refine lv_goto (tgt := 24) hx hb dX8_fault_20 (by decide) ?_
      exact W.iret (v := (gg 9)) hx hb hr (fun t ht hW => ⟨⟨(gg 9), (), rfl, trivial, trivial⟩, hS.F ht⟩) hS.2.2 dX8_fault_24
  · have zc_1 := c_1
    rw [← Int32.toInt_inj] at zc_1
    try rw [show (0 : Int32).toInt = 0 from by decide] at zc_1
    refine lv_aload_n hx hb dX8_fault_4 rfl (lv_at hl 0 rfl) ?_
    refine va_get (D := (dC, dI)) (ci := 8) (v := .int (gg 8)) (C := RX8) (T := TX8) (N := 49) hx hb hw zz_inX8 hown hK hP 0 rfl rfl 8 (by decide) (hw _ tw_216) (fun _ h9 => h9) rfl dX8_fault_5 ?_
    refine lv_goto (tgt := 24) hx hb dX8_fault_8 (by decide) ?_
    exact W.iret (v := (gg 8)) hx hb hr (fun t ht hW => ⟨⟨(gg 8), (), rfl, trivial, trivial⟩, hS.F ht⟩) hS.2.2 dX8_fault_24

set_option maxHeartbeats 4000000 in
set_option maxRecDepth 100000 in
theorem m_says (l : Launch) (dC : Nat → ClassId) (dI : Nat → Nat → Nat) (b : Nat → Nat) (gg : Nat → Int32) (mt : Nat) (mc : Nat) (mh : Nat) (mf : Nat) (md : Nat) (cI : ClassId) (cm : Nat → Int32) (p0 : Int32) (sz : Nat) : Met l yX8_says (zz_w yX8_says cX8_says 2 (some .int)) ({ frames := 1, cells := 0, slots := 0, locals := 25 }) (va_Pc [.ref (b 0), .int p0] (zz_B (dC, dI) sz [(b 0, .inr (8, [.ref (b 1), .int (nI mt), .int (gg 2), .int (gg 3), .int (gg 4), .int (gg 5), .int (gg 6), .int (gg 7), .int (gg 8), .int (gg 9), .ref (b 11), .ref (b 12), .ref (b 13), .int (nI mc), .int (nI mh), .ref (b 16), .ref (b 17), .ref (b 18), .ref (b 19), .ref (b 20), .ref (b 21), .ref (b 22), .ref (b 23), .ref (b 24), .int (nI mf), .ref (b 26), .ref (b 27), .ref (b 28), .ref (b 29), .ref (b 30), .ref (b 31), .ref (b 32), .int (gg 32), .int (nI md), .ref (b 35), .ref (b 36), .ref (b 37), .ref (b 38), .ref (b 39), .ref (b 40), .int (gg 40), .ref (b 42), .ref (b 43), .ref (b 44), .int (gg 44), .ref (b 46), .ref (b 47), .int (gg 47), .ref (b 49)])), (b 13, .inl (cI, 7, .inl cm))] [(cI, .int)])) (va_Qi (fun (_ : Int32) (_ : Unit) => True) (fun _ _ => True) (va_A [] sz)) 0 0 (va_A [] sz) := by
  refine Met.ofW (cc := cX8_says) (maxL := 2) (ret := (some .int)) (by decide) rfl ?_
  intro p e s m args below meth c s₁ B hml hv
  obtain ⟨rfl, hsz, hP, hK, hD0, hN⟩ := hv
  have hx := B.exec
  have hb := B.bytes
  have hr := B.returns
  have hts := atoms_spec (ws := zz_w yX8_says cX8_says 2 (some .int)) B.pre
  have hw : ∀ w ∈ zz_all, w.before _ s = true := fun w h => hts w (List.mem_cons_of_mem _ h)
  have hown : s.vm.findClass RX8 = some m.cls := findClass_of_methodNamed B.named
  have hlocks := B.notSynchronized
  subst hsz
  have hD := hD0
  generalize hAe : va_A [] s.heap.size = A
  have hA : ∀ q : Nat, s.heap.size ≤ q → A q := fun q h => by rw [← hAe]; exact Or.inr h
  have hS : va_S A s.heap s.heap [] := va_S.rf
  have hP : va_P (dC, dI) vwCl [(b 0, .inr (8, [.ref (b 1), .int (nI mt), .int (gg 2), .int (gg 3), .int (gg 4), .int (gg 5), .int (gg 6), .int (gg 7), .int (gg 8), .int (gg 9), .ref (b 11), .ref (b 12), .ref (b 13), .int (nI mc), .int (nI mh), .ref (b 16), .ref (b 17), .ref (b 18), .ref (b 19), .ref (b 20), .ref (b 21), .ref (b 22), .ref (b 23), .ref (b 24), .int (nI mf), .ref (b 26), .ref (b 27), .ref (b 28), .ref (b 29), .ref (b 30), .ref (b 31), .ref (b 32), .int (gg 32), .int (nI md), .ref (b 35), .ref (b 36), .ref (b 37), .ref (b 38), .ref (b 39), .ref (b 40), .int (gg 40), .ref (b 42), .ref (b 43), .ref (b 44), .int (gg 44), .ref (b 46), .ref (b 47), .int (gg 47), .ref (b 49)])), (b 13, .inl (cI, 7, .inl cm))] s.heap := hP
  have hl := lv_entry ([.ref (b 0), .int p0]) (n := 2) (Nat.le_of_ble_eq_true rfl)
  rw [lg_entry_eq]
  generalize (lg_sl ([.ref (b 0), .int p0]) ++ List.replicate (2 - (lg_sl ([.ref (b 0), .int p0])).length) Slot.unset).toArray = ls at hl ⊢
  have hl : lv_has ls 2 [(0, .ref (b 0)), (1, .int p0)] := hl
  refine lv_iload_n hx hb dX8_says_0 rfl (lv_at hl 1 rfl) ?_
  refine lv_i2l (v := Int32.toInt64 p0) hx hb dX8_says_1 rfl ?_
  refine lv_lconst (v := Int32.toInt64 0) hx hb dX8_says_2 (by decide) ?_
  refine lv_ldc2 (v := 6) hx hb hown (hw _ tw_217) dX8_says_3 ?_
  refine zz_setl (Int32.toInt64 6) (by decide) ?_
  have hPc := hP.sub (ws' := []) [] rfl
  have hDc := hD.sub (ws' := []) [] (by decide) rfl
  have hKc := hK.sub (tys' := []) [] rfl
  have hFc := zz_free0 hS hA
  refine va_calli (va_runS (As := [.long (Int32.toInt64 p0), .long (Int32.toInt64 0), .long (Int32.toInt64 6)]) (rest := []) ⟨hx, hb, hml, hown, hw⟩ (k_in l dC dI p0 0 6 s.heap.size) ⟨callB_of 3 hw (zz_good tw_183) rfl rfl rfl (hw _ tw_184) (hw _ tw_185) (by decide +kernel) ⟨Nat.le_of_ble_eq_true rfl, Nat.le_of_ble_eq_true rfl⟩, (hw _ tw_186)⟩ ⟨zz_blind, zz_pre hPc hKc hDc hN⟩ rfl rfl hl.1 rfl (lv_room (Nat.le_of_ble_eq_true rfl)) dX8_says_6 ⟨Nat.le_of_ble_eq_true rfl, Nat.le_of_ble_eq_true rfl⟩) hS (fun q _ h => hFc q h) hFc (fun r_1 u_1 t H1 locs ht hvm e_1 hB hz1 hk1 hS => ?_)
  try dsimp only at e_1
  have hP := zz_keep hP hk1
  clear hk1 hB ht hvm
  generalize H1 = H at hP hS ⊢
  refine lv_if_eq (tgt := 21) hx hb dX8_says_9 (by decide) (fun c_2 => ?_) (fun c_2 => ?_)
  · have zc_2 := c_2
    rw [e_1, zz_in0, Int32.le_iff_toInt_le, Int32.le_iff_toInt_le] at zc_2
    try rw [show (0 : Int32).toInt = 0 from by decide] at zc_2
    try rw [show (6 : Int32).toInt = 6 from by decide] at zc_2
    refine lv_iconst (v := (-1)) hx hb dX8_says_21 (by decide) ?_
    exact W.iret (v := (-1)) hx hb hr (fun t ht hW => ⟨⟨(-1), (), rfl, trivial, trivial⟩, hS.F ht⟩) hS.2.2 dX8_says_22
  · have zc_2 := c_2
    rw [e_1, zz_in0, Int32.le_iff_toInt_le, Int32.le_iff_toInt_le] at zc_2
    try rw [show (0 : Int32).toInt = 0 from by decide] at zc_2
    try rw [show (6 : Int32).toInt = 6 from by decide] at zc_2
    refine lv_aload_n hx hb dX8_says_12 rfl (lv_at hl 0 rfl) ?_
    refine va_get (D := (dC, dI)) (ci := 8) (v := .ref (b 13)) (C := RX8) (T := TX8) (N := 49) hx hb hw zz_inX8 hown hK hP 0 rfl rfl 12 (by decide) (hw _ tw_218) (fun _ h9 => h9) rfl dX8_says_13 ?_
    refine lv_iload_n hx hb dX8_says_16 rfl (lv_at hl 1 rfl) ?_
    refine va_iald hx hb hK hP 1 0 rfl rfl (vp_in_iff.mpr (by constructor <;> omega)) dX8_says_17 ?_
    refine lv_goto (tgt := 22) hx hb dX8_says_18 (by decide) ?_
    exact W.iret (v := (cm (Int32.toNatClampNeg p0))) hx hb hr (fun t ht hW => ⟨⟨(cm (Int32.toNatClampNeg p0)), (), rfl, trivial, trivial⟩, hS.F ht⟩) hS.2.2 dX8_says_22

set_option maxHeartbeats 4000000 in
set_option maxRecDepth 100000 in
theorem m_about (l : Launch) (dC : Nat → ClassId) (dI : Nat → Nat → Nat) (b : Nat → Nat) (gg : Nat → Int32) (mt : Nat) (mc : Nat) (mh : Nat) (mf : Nat) (md : Nat) (cI : ClassId) (lo : Nat → Int32) (p0 : Int32) (sz : Nat) : Met l yX8_about (zz_w yX8_about cX8_about 2 (some .int)) ({ frames := 1, cells := 0, slots := 0, locals := 25 }) (va_Pc [.ref (b 0), .int p0] (zz_B (dC, dI) sz [(b 0, .inr (8, [.ref (b 1), .int (nI mt), .int (gg 2), .int (gg 3), .int (gg 4), .int (gg 5), .int (gg 6), .int (gg 7), .int (gg 8), .int (gg 9), .ref (b 11), .ref (b 12), .ref (b 13), .int (nI mc), .int (nI mh), .ref (b 16), .ref (b 17), .ref (b 18), .ref (b 19), .ref (b 20), .ref (b 21), .ref (b 22), .ref (b 23), .ref (b 24), .int (nI mf), .ref (b 26), .ref (b 27), .ref (b 28), .ref (b 29), .ref (b 30), .ref (b 31), .ref (b 32), .int (gg 32), .int (nI md), .ref (b 35), .ref (b 36), .ref (b 37), .ref (b 38), .ref (b 39), .ref (b 40), .int (gg 40), .ref (b 42), .ref (b 43), .ref (b 44), .int (gg 44), .ref (b 46), .ref (b 47), .int (gg 47), .ref (b 49)])), (b 24, .inl (cI, 10, .inl lo))] [(cI, .int)])) (va_Qi (fun (_ : Int32) (_ : Unit) => True) (fun _ _ => True) (va_A [] sz)) 0 0 (va_A [] sz) := by
  refine Met.ofW (cc := cX8_about) (maxL := 2) (ret := (some .int)) (by decide) rfl ?_
  intro p e s m args below meth c s₁ B hml hv
  obtain ⟨rfl, hsz, hP, hK, hD0, hN⟩ := hv
  have hx := B.exec
  have hb := B.bytes
  have hr := B.returns
  have hts := atoms_spec (ws := zz_w yX8_about cX8_about 2 (some .int)) B.pre
  have hw : ∀ w ∈ zz_all, w.before _ s = true := fun w h => hts w (List.mem_cons_of_mem _ h)
  have hown : s.vm.findClass RX8 = some m.cls := findClass_of_methodNamed B.named
  have hlocks := B.notSynchronized
  subst hsz
  have hD := hD0
  generalize hAe : va_A [] s.heap.size = A
  have hA : ∀ q : Nat, s.heap.size ≤ q → A q := fun q h => by rw [← hAe]; exact Or.inr h
  have hS : va_S A s.heap s.heap [] := va_S.rf
  have hP : va_P (dC, dI) vwCl [(b 0, .inr (8, [.ref (b 1), .int (nI mt), .int (gg 2), .int (gg 3), .int (gg 4), .int (gg 5), .int (gg 6), .int (gg 7), .int (gg 8), .int (gg 9), .ref (b 11), .ref (b 12), .ref (b 13), .int (nI mc), .int (nI mh), .ref (b 16), .ref (b 17), .ref (b 18), .ref (b 19), .ref (b 20), .ref (b 21), .ref (b 22), .ref (b 23), .ref (b 24), .int (nI mf), .ref (b 26), .ref (b 27), .ref (b 28), .ref (b 29), .ref (b 30), .ref (b 31), .ref (b 32), .int (gg 32), .int (nI md), .ref (b 35), .ref (b 36), .ref (b 37), .ref (b 38), .ref (b 39), .ref (b 40), .int (gg 40), .ref (b 42), .ref (b 43), .ref (b 44), .int (gg 44), .ref (b 46), .ref (b 47), .int (gg 47), .ref (b 49)])), (b 24, .inl (cI, 10, .inl lo))] s.heap := hP
  have hl := lv_entry ([.ref (b 0), .int p0]) (n := 2) (Nat.le_of_ble_eq_true rfl)
  rw [lg_entry_eq]
  generalize (lg_sl ([.ref (b 0), .int p0]) ++ List.replicate (2 - (lg_sl ([.ref (b 0), .int p0])).length) Slot.unset).toArray = ls at hl ⊢
  have hl : lv_has ls 2 [(0, .ref (b 0)), (1, .int p0)] := hl
  refine lv_iload_n hx hb dX8_about_0 rfl (lv_at hl 1 rfl) ?_
  by_cases c_1 : p0 = 0
  · have zc_1 := c_1
    rw [← Int32.toInt_inj] at zc_1
    try rw [show (0 : Int32).toInt = 0 from by decide] at zc_1
    refine lv_tableIn (tgt := 40) hx hb dX8_about_1 (by rw [c_1]; decide) (by rw [c_1]; decide) (by rw [c_1]; rfl) (by decide) ?_
    refine lv_aload_n hx hb dX8_about_40 rfl (lv_at hl 0 rfl) ?_
    refine va_get (D := (dC, dI)) (ci := 8) (v := .int (nI mh)) (C := RX8) (T := TX8) (N := 49) hx hb hw zz_inX8 hown hK hP 0 rfl rfl 14 (by decide) (hw _ tw_182) (fun _ h9 => h9) rfl dX8_about_41 ?_
    exact W.iret (v := (nI mh)) hx hb hr (fun t ht hW => ⟨⟨(nI mh), (), rfl, trivial, trivial⟩, hS.F ht⟩) hS.2.2 dX8_about_44
  by_cases c_2 : p0 = 1
  · have zc_2 := c_2
    rw [← Int32.toInt_inj] at zc_2
    try rw [show (1 : Int32).toInt = 1 from by decide] at zc_2
    refine lv_tableIn (tgt := 45) hx hb dX8_about_1 (by rw [c_2]; decide) (by rw [c_2]; decide) (by rw [c_2]; rfl) (by decide) ?_
    refine lv_aload_n hx hb dX8_about_45 rfl (lv_at hl 0 rfl) ?_
    refine va_get (D := (dC, dI)) (ci := 8) (v := .int (nI mf)) (C := RX8) (T := TX8) (N := 49) hx hb hw zz_inX8 hown hK hP 0 rfl rfl 24 (by decide) (hw _ tw_187) (fun _ h9 => h9) rfl dX8_about_46 ?_
    exact W.iret (v := (nI mf)) hx hb hr (fun t ht hW => ⟨⟨(nI mf), (), rfl, trivial, trivial⟩, hS.F ht⟩) hS.2.2 dX8_about_49
  by_cases c_3 : p0 = 2
  · have zc_3 := c_3
    rw [← Int32.toInt_inj] at zc_3
    try rw [show (2 : Int32).toInt = 2 from by decide] at zc_3
    refine lv_tableIn (tgt := 50) hx hb dX8_about_1 (by rw [c_3]; decide) (by rw [c_3]; decide) (by rw [c_3]; rfl) (by decide) ?_
    refine lv_aload_n hx hb dX8_about_50 rfl (lv_at hl 0 rfl) ?_
    refine va_get (D := (dC, dI)) (ci := 8) (v := .int (nI mc)) (C := RX8) (T := TX8) (N := 49) hx hb hw zz_inX8 hown hK hP 0 rfl rfl 13 (by decide) (hw _ tw_219) (fun _ h9 => h9) rfl dX8_about_51 ?_
    exact W.iret (v := (nI mc)) hx hb hr (fun t ht hW => ⟨⟨(nI mc), (), rfl, trivial, trivial⟩, hS.F ht⟩) hS.2.2 dX8_about_54
  by_cases c_4 : p0 = 3
  · have zc_4 := c_4
    rw [← Int32.toInt_inj] at zc_4
    try rw [show (3 : Int32).toInt = 3 from by decide] at zc_4
    refine lv_tableIn (tgt := 55) hx hb dX8_about_1 (by rw [c_4]; decide) (by rw [c_4]; decide) (by rw [c_4]; rfl) (by decide) ?_
    refine lv_aload_n hx hb dX8_about_55 rfl (lv_at hl 0 rfl) ?_
    refine va_get (D := (dC, dI)) (ci := 8) (v := .int (nI md)) (C := RX8) (T := TX8) (N := 49) hx hb hw zz_inX8 hown hK hP 0 rfl rfl 33 (by decide) (hw _ tw_206) (fun _ h9 => h9) rfl dX8_about_56 ?_
    exact W.iret (v := (nI md)) hx hb hr (fun t ht hW => ⟨⟨(nI md), (), rfl, trivial, trivial⟩, hS.F ht⟩) hS.2.2 dX8_about_59
  by_cases c_5 : p0 = 4
  · have zc_5 := c_5
    rw [← Int32.toInt_inj] at zc_5
    try rw [show (4 : Int32).toInt = 4 from by decide] at zc_5
    refine lv_tableIn (tgt := 60) hx hb dX8_about_1 (by rw [c_5]; decide) (by rw [c_5]; decide) (by rw [c_5]; rfl) (by decide) ?_
    refine lv_aload_n hx hb dX8_about_60 rfl (lv_at hl 0 rfl) ?_
    refine va_get (D := (dC, dI)) (ci := 8) (v := .int (gg 32)) (C := RX8) (T := TX8) (N := 49) hx hb hw zz_inX8 hown hK hP 0 rfl rfl 32 (by decide) (hw _ tw_220) (fun _ h9 => h9) rfl dX8_about_61 ?_
    exact W.iret (v := (gg 32)) hx hb hr (fun t ht hW => ⟨⟨(gg 32), (), rfl, trivial, trivial⟩, hS.F ht⟩) hS.2.2 dX8_about_64
  by_cases c_6 : p0 = 5
  · have zc_6 := c_6
    rw [← Int32.toInt_inj] at zc_6
    try rw [show (5 : Int32).toInt = 5 from by decide] at zc_6
    refine lv_tableIn (tgt := 65) hx hb dX8_about_1 (by rw [c_6]; decide) (by rw [c_6]; decide) (by rw [c_6]; rfl) (by decide) ?_
    refine lv_aload_n hx hb dX8_about_65 rfl (lv_at hl 0 rfl) ?_
    refine va_get (D := (dC, dI)) (ci := 8) (v := .int (nI mt)) (C := RX8) (T := TX8) (N := 49) hx hb hw zz_inX8 hown hK hP 0 rfl rfl 1 (by decide) (hw _ tw_192) (fun _ h9 => h9) rfl dX8_about_66 ?_
    exact W.iret (v := (nI mt)) hx hb hr (fun t ht hW => ⟨⟨(nI mt), (), rfl, trivial, trivial⟩, hS.F ht⟩) hS.2.2 dX8_about_69
  refine lv_tableOut (tgt := 70) hx hb dX8_about_1 (by have := zz_ne c_1; rw [show (0 : Int32).toInt = 0 from by decide] at this; have := zz_ne c_2; rw [show (1 : Int32).toInt = 1 from by decide] at this; have := zz_ne c_3; rw [show (2 : Int32).toInt = 2 from by decide] at this; have := zz_ne c_4; rw [show (3 : Int32).toInt = 3 from by decide] at this; have := zz_ne c_5; rw [show (4 : Int32).toInt = 4 from by decide] at this; have := zz_ne c_6; rw [show (5 : Int32).toInt = 5 from by decide] at this; omega) (by decide) ?_
  have zc_1 := c_1
  rw [← Int32.toInt_inj] at zc_1
  try rw [show (0 : Int32).toInt = 0 from by decide] at zc_1
  have zc_2 := c_2
  rw [← Int32.toInt_inj] at zc_2
  try rw [show (1 : Int32).toInt = 1 from by decide] at zc_2
  have zc_3 := c_3
  rw [← Int32.toInt_inj] at zc_3
  try rw [show (2 : Int32).toInt = 2 from by decide] at zc_3
  have zc_4 := c_4
  rw [← Int32.toInt_inj] at zc_4
  try rw [show (3 : Int32).toInt = 3 from by decide] at zc_4
  have zc_5 := c_5
  rw [← Int32.toInt_inj] at zc_5
  try rw [show (4 : Int32).toInt = 4 from by decide] at zc_5
  have zc_6 := c_6
  rw [← Int32.toInt_inj] at zc_6
  try rw [show (5 : Int32).toInt = 5 from by decide] at zc_6
  refine lv_iload_n hx hb dX8_about_70 rfl (lv_at hl 1 rfl) ?_
  refine lv_i2l (v := Int32.toInt64 p0) hx hb dX8_about_71 rfl ?_
  refine lv_ldc2 (v := 20) hx hb hown (hw _ tw_221) dX8_about_72 ?_
  refine zz_setl (Int32.toInt64 20) (by decide) ?_
  refine lv_ldc2 (v := 29) hx hb hown (hw _ tw_222) dX8_about_75 ?_
  refine zz_setl (Int32.toInt64 29) (by decide) ?_
  have hPc := hP.sub (ws' := []) [] rfl
  have hDc := hD.sub (ws' := []) [] (by decide) rfl
  have hKc := hK.sub (tys' := []) [] rfl
  have hFc := zz_free0 hS hA
  refine va_calli (va_runS (As := [.long (Int32.toInt64 p0), .long (Int32.toInt64 20), .long (Int32.toInt64 29)]) (rest := []) ⟨hx, hb, hml, hown, hw⟩ (k_in l dC dI p0 20 29 s.heap.size) ⟨callB_of 3 hw (zz_good tw_183) rfl rfl rfl (hw _ tw_184) (hw _ tw_185) (by decide +kernel) ⟨Nat.le_of_ble_eq_true rfl, Nat.le_of_ble_eq_true rfl⟩, (hw _ tw_186)⟩ ⟨zz_blind, zz_pre hPc hKc hDc hN⟩ rfl rfl hl.1 rfl (lv_room (Nat.le_of_ble_eq_true rfl)) dX8_about_78 ⟨Nat.le_of_ble_eq_true rfl, Nat.le_of_ble_eq_true rfl⟩) hS (fun q _ h => hFc q h) hFc (fun r_7 u_7 t H1 locs ht hvm e_7 hB hz1 hk1 hS => ?_)
  try dsimp only at e_7
  have hP := zz_keep hP hk1
  clear hk1 hB ht hvm
  generalize H1 = H at hP hS ⊢
  refine lv_if_eq (tgt := 96) hx hb dX8_about_81 (by decide) (fun c_8 => ?_) (fun c_8 => ?_)
  · have zc_8 := c_8
    rw [e_7, zz_in0, Int32.le_iff_toInt_le, Int32.le_iff_toInt_le] at zc_8
    try rw [show (20 : Int32).toInt = 20 from by decide] at zc_8
    try rw [show (29 : Int32).toInt = 29 from by decide] at zc_8
    refine lv_iconst (v := (-1)) hx hb dX8_about_96 (by decide) ?_
    exact W.iret (v := (-1)) hx hb hr (fun t ht hW => ⟨⟨(-1), (), rfl, trivial, trivial⟩, hS.F ht⟩) hS.2.2 dX8_about_97
  · have zc_8 := c_8
    rw [e_7, zz_in0, Int32.le_iff_toInt_le, Int32.le_iff_toInt_le] at zc_8
    try rw [show (20 : Int32).toInt = 20 from by decide] at zc_8
    try rw [show (29 : Int32).toInt = 29 from by decide] at zc_8
    refine lv_aload_n hx hb dX8_about_84 rfl (lv_at hl 0 rfl) ?_
    refine va_get (D := (dC, dI)) (ci := 8) (v := .ref (b 24)) (C := RX8) (T := TX8) (N := 49) hx hb hw zz_inX8 hown hK hP 0 rfl rfl 23 (by decide) (hw _ tw_204) (fun _ h9 => h9) rfl dX8_about_85 ?_
    refine lv_iload_n hx hb dX8_about_88 rfl (lv_at hl 1 rfl) ?_
    refine lv_bipush (v := 20) hx hb dX8_about_89 (by decide) ?_
    refine lv_isub hx hb dX8_about_91 ?_
    refine va_iald hx hb hK hP 1 0 rfl rfl (zz_sub20 (by omega) (by omega)) dX8_about_92 ?_
    refine lv_goto (tgt := 97) hx hb dX8_about_93 (by decide) ?_
    exact W.iret (v := (lo (Int32.toNatClampNeg (p0 - 20)))) hx hb hr (fun t ht hW => ⟨⟨(lo (Int32.toNatClampNeg (p0 - 20))), (), rfl, trivial, trivial⟩, hS.F ht⟩) hS.2.2 dX8_about_97
