theorem tw_223 : Cond.fieldLink RX8 67 "HandsReturnedModel" "ready" "[I" ∈ zz_all := zz_m3 193 rfl rfl
theorem tw_224 : Cond.fieldLink RX8 70 "HandsReturnedModel" "value" "[I" ∈ zz_all := zz_m3 194 rfl rfl
theorem tw_225 : Cond.code yX8_lossOf cX8_lossOf 4 (some .int) ∈ zz_all := zz_m4 206 rfl rfl
theorem tw_226 : Cond.methodLink RX8 260 yX8_lossOf ∈ zz_all := zz_m4 203 rfl rfl
theorem tw_227 : Cond.instanceMethod yX8_lossOf ∈ zz_all := zz_m4 205 rfl rfl
theorem tw_228 : Cond.selects RX8 yX8_lossOf yX8_lossOf ∈ zz_all := zz_ms 50 rfl rfl
theorem tw_229 : Cond.code yX8_isField cX8_isField 2 (some .boolean) ∈ zz_all := zz_m4 178 rfl rfl
theorem tw_230 : Cond.methodLink RX8 220 yX8_isField ∈ zz_all := zz_m4 175 rfl rfl
theorem tw_231 : Cond.instanceMethod yX8_isField ∈ zz_all := zz_m4 177 rfl rfl
theorem tw_232 : Cond.selects RX8 yX8_isField yX8_isField ∈ zz_all := zz_ms 43 rfl rfl
theorem tw_233 : Cond.fieldLink RX8 64 "HandsReturnedModel" "need" "[I" ∈ zz_all := zz_m3 192 rfl rfl
theorem tw_234 : Cond.fieldLink RX8 73 "HandsReturnedModel" "done" "[I" ∈ zz_all := zz_m3 195 rfl rfl
theorem tw_235 : Cond.fieldLink RX8 76 "HandsReturnedModel" "got" "[I" ∈ zz_all := zz_m3 196 rfl rfl
theorem tw_236 : Cond.code yX8_proceeds cX8_proceeds 3 (some .int) ∈ zz_all := zz_m4 202 rfl rfl
theorem tw_237 : Cond.methodLink RX8 226 yX8_proceeds ∈ zz_all := zz_m4 199 rfl rfl
theorem tw_238 : Cond.instanceMethod yX8_proceeds ∈ zz_all := zz_m4 201 rfl rfl
theorem tw_239 : Cond.selects RX8 yX8_proceeds yX8_proceeds ∈ zz_all := zz_ms 49 rfl rfl
theorem tw_240 : Cond.fieldLink RX8 58 "HandsReturnedModel" "owner" "[I" ∈ zz_all := zz_m3 190 rfl rfl
theorem tw_241 : Cond.fieldLink RX8 61 "HandsReturnedModel" "kind" "[I" ∈ zz_all := zz_m3 191 rfl rfl
theorem zy_b22mc_0 : decode cX8_lossOf 0 = .ok (.iload_n 2, 1) ∧ decode cX8_lossOf 1 = .ok (.aload_n 0, 1) ∧ decode cX8_lossOf 2 = .ok (.getfield 67, 3) ∧ decode cX8_lossOf 5 = .ok (.iload_n 1, 1) ∧ decode cX8_lossOf 6 = .ok (.iaload, 1) ∧ decode cX8_lossOf 7 = .ok (.isub, 1) ∧ decode cX8_lossOf 8 = .ok (.istore_n 3, 1) ∧ decode cX8_lossOf 9 = .ok (.aload_n 0, 1) := by decide +kernel
theorem dX8_lossOf_0 : decode cX8_lossOf 0 = .ok (.iload_n 2, 1) := zy_b22mc_0.1
theorem dX8_lossOf_1 : decode cX8_lossOf 1 = .ok (.aload_n 0, 1) := zy_b22mc_0.2.1
theorem dX8_lossOf_2 : decode cX8_lossOf 2 = .ok (.getfield 67, 3) := zy_b22mc_0.2.2.1
theorem dX8_lossOf_5 : decode cX8_lossOf 5 = .ok (.iload_n 1, 1) := zy_b22mc_0.2.2.2.1
theorem dX8_lossOf_6 : decode cX8_lossOf 6 = .ok (.iaload, 1) := zy_b22mc_0.2.2.2.2.1
theorem dX8_lossOf_7 : decode cX8_lossOf 7 = .ok (.isub, 1) := zy_b22mc_0.2.2.2.2.2.1
theorem dX8_lossOf_8 : decode cX8_lossOf 8 = .ok (.istore_n 3, 1) := zy_b22mc_0.2.2.2.2.2.2.1
theorem dX8_lossOf_9 : decode cX8_lossOf 9 = .ok (.aload_n 0, 1) := zy_b22mc_0.2.2.2.2.2.2.2
theorem zy_b22mc_1 : decode cX8_lossOf 10 = .ok (.getfield 55, 3) ∧ decode cX8_lossOf 13 = .ok (.iload_n 3, 1) ∧ decode cX8_lossOf 14 = .ok (.bipush 9, 2) ∧ decode cX8_lossOf 16 = .ok (.if_icmp .le 8, 3) ∧ decode cX8_lossOf 19 = .ok (.bipush 9, 2) ∧ decode cX8_lossOf 21 = .ok (.goto 4, 3) ∧ decode cX8_lossOf 24 = .ok (.iload_n 3, 1) ∧ decode cX8_lossOf 25 = .ok (.iaload, 1) := by decide +kernel
theorem dX8_lossOf_10 : decode cX8_lossOf 10 = .ok (.getfield 55, 3) := zy_b22mc_1.1
theorem dX8_lossOf_13 : decode cX8_lossOf 13 = .ok (.iload_n 3, 1) := zy_b22mc_1.2.1
theorem dX8_lossOf_14 : decode cX8_lossOf 14 = .ok (.bipush 9, 2) := zy_b22mc_1.2.2.1
theorem dX8_lossOf_16 : decode cX8_lossOf 16 = .ok (.if_icmp .le 8, 3) := zy_b22mc_1.2.2.2.1
theorem dX8_lossOf_19 : decode cX8_lossOf 19 = .ok (.bipush 9, 2) := zy_b22mc_1.2.2.2.2.1
theorem dX8_lossOf_21 : decode cX8_lossOf 21 = .ok (.goto 4, 3) := zy_b22mc_1.2.2.2.2.2.1
theorem dX8_lossOf_24 : decode cX8_lossOf 24 = .ok (.iload_n 3, 1) := zy_b22mc_1.2.2.2.2.2.2.1
theorem dX8_lossOf_25 : decode cX8_lossOf 25 = .ok (.iaload, 1) := zy_b22mc_1.2.2.2.2.2.2.2
theorem dX8_lossOf_26 : decode cX8_lossOf 26 = .ok (.ireturn, 1) := by decide +kernel
theorem zy_b22mc_2 : decode cX8_proceeds 0 = .ok (.aload_n 0, 1) ∧ decode cX8_proceeds 1 = .ok (.getfield 70, 3) ∧ decode cX8_proceeds 4 = .ok (.iload_n 1, 1) ∧ decode cX8_proceeds 5 = .ok (.iaload, 1) ∧ decode cX8_proceeds 6 = .ok (.bipush 100, 2) ∧ decode cX8_proceeds 8 = .ok (.aload_n 0, 1) ∧ decode cX8_proceeds 9 = .ok (.iload_n 1, 1) ∧ decode cX8_proceeds 10 = .ok (.iload_n 2, 1) := by decide +kernel
theorem dX8_proceeds_0 : decode cX8_proceeds 0 = .ok (.aload_n 0, 1) := zy_b22mc_2.1
theorem dX8_proceeds_1 : decode cX8_proceeds 1 = .ok (.getfield 70, 3) := zy_b22mc_2.2.1
theorem dX8_proceeds_4 : decode cX8_proceeds 4 = .ok (.iload_n 1, 1) := zy_b22mc_2.2.2.1
theorem dX8_proceeds_5 : decode cX8_proceeds 5 = .ok (.iaload, 1) := zy_b22mc_2.2.2.2.1
theorem dX8_proceeds_6 : decode cX8_proceeds 6 = .ok (.bipush 100, 2) := zy_b22mc_2.2.2.2.2.1
theorem dX8_proceeds_8 : decode cX8_proceeds 8 = .ok (.aload_n 0, 1) := zy_b22mc_2.2.2.2.2.2.1
theorem dX8_proceeds_9 : decode cX8_proceeds 9 = .ok (.iload_n 1, 1) := zy_b22mc_2.2.2.2.2.2.2.1
theorem dX8_proceeds_10 : decode cX8_proceeds 10 = .ok (.iload_n 2, 1) := zy_b22mc_2.2.2.2.2.2.2.2
theorem zy_b22mc_3 : decode cX8_proceeds 11 = .ok (.invokevirtual 260, 3) ∧ decode cX8_proceeds 14 = .ok (.isub, 1) ∧ decode cX8_proceeds 15 = .ok (.imul, 1) ∧ decode cX8_proceeds 16 = .ok (.bipush 100, 2) ∧ decode cX8_proceeds 18 = .ok (.idiv, 1) ∧ decode cX8_proceeds 19 = .ok (.ireturn, 1) := by decide +kernel
theorem dX8_proceeds_11 : decode cX8_proceeds 11 = .ok (.invokevirtual 260, 3) := zy_b22mc_3.1
theorem dX8_proceeds_14 : decode cX8_proceeds 14 = .ok (.isub, 1) := zy_b22mc_3.2.1
theorem dX8_proceeds_15 : decode cX8_proceeds 15 = .ok (.imul, 1) := zy_b22mc_3.2.2.1
theorem dX8_proceeds_16 : decode cX8_proceeds 16 = .ok (.bipush 100, 2) := zy_b22mc_3.2.2.2.1
theorem dX8_proceeds_18 : decode cX8_proceeds 18 = .ok (.idiv, 1) := zy_b22mc_3.2.2.2.2.1
theorem dX8_proceeds_19 : decode cX8_proceeds 19 = .ok (.ireturn, 1) := zy_b22mc_3.2.2.2.2.2
theorem zy_b22mc_4 : decode cX8_canWork 0 = .ok (.aload_n 0, 1) ∧ decode cX8_canWork 1 = .ok (.iload_n 1, 1) ∧ decode cX8_canWork 2 = .ok (.invokevirtual 220, 3) ∧ decode cX8_canWork 5 = .ok (.ifCond .eq 35, 3) ∧ decode cX8_canWork 8 = .ok (.iload_n 2, 1) ∧ decode cX8_canWork 9 = .ok (.iconst 1, 1) ∧ decode cX8_canWork 10 = .ok (.if_icmp .lt 30, 3) ∧ decode cX8_canWork 13 = .ok (.aload_n 0, 1) := by decide +kernel
theorem dX8_canWork_0 : decode cX8_canWork 0 = .ok (.aload_n 0, 1) := zy_b22mc_4.1
theorem dX8_canWork_1 : decode cX8_canWork 1 = .ok (.iload_n 1, 1) := zy_b22mc_4.2.1
theorem dX8_canWork_2 : decode cX8_canWork 2 = .ok (.invokevirtual 220, 3) := zy_b22mc_4.2.2.1
theorem dX8_canWork_5 : decode cX8_canWork 5 = .ok (.ifCond .eq 35, 3) := zy_b22mc_4.2.2.2.1
theorem dX8_canWork_8 : decode cX8_canWork 8 = .ok (.iload_n 2, 1) := zy_b22mc_4.2.2.2.2.1
theorem dX8_canWork_9 : decode cX8_canWork 9 = .ok (.iconst 1, 1) := zy_b22mc_4.2.2.2.2.2.1
theorem dX8_canWork_10 : decode cX8_canWork 10 = .ok (.if_icmp .lt 30, 3) := zy_b22mc_4.2.2.2.2.2.2.1
theorem dX8_canWork_13 : decode cX8_canWork 13 = .ok (.aload_n 0, 1) := zy_b22mc_4.2.2.2.2.2.2.2
theorem zy_b22mc_5 : decode cX8_canWork 14 = .ok (.getfield 67, 3) ∧ decode cX8_canWork 17 = .ok (.iload_n 1, 1) ∧ decode cX8_canWork 18 = .ok (.iaload, 1) ∧ decode cX8_canWork 19 = .ok (.aload_n 0, 1) ∧ decode cX8_canWork 20 = .ok (.getfield 223, 3) ∧ decode cX8_canWork 23 = .ok (.if_icmp .gt 17, 3) ∧ decode cX8_canWork 26 = .ok (.iload_n 2, 1) ∧ decode cX8_canWork 27 = .ok (.aload_n 0, 1) := by decide +kernel
theorem dX8_canWork_14 : decode cX8_canWork 14 = .ok (.getfield 67, 3) := zy_b22mc_5.1
theorem dX8_canWork_17 : decode cX8_canWork 17 = .ok (.iload_n 1, 1) := zy_b22mc_5.2.1
theorem dX8_canWork_18 : decode cX8_canWork 18 = .ok (.iaload, 1) := zy_b22mc_5.2.2.1
theorem dX8_canWork_19 : decode cX8_canWork 19 = .ok (.aload_n 0, 1) := zy_b22mc_5.2.2.2.1
theorem dX8_canWork_20 : decode cX8_canWork 20 = .ok (.getfield 223, 3) := zy_b22mc_5.2.2.2.2.1
theorem dX8_canWork_23 : decode cX8_canWork 23 = .ok (.if_icmp .gt 17, 3) := zy_b22mc_5.2.2.2.2.2.1
theorem dX8_canWork_26 : decode cX8_canWork 26 = .ok (.iload_n 2, 1) := zy_b22mc_5.2.2.2.2.2.2.1
theorem dX8_canWork_27 : decode cX8_canWork 27 = .ok (.aload_n 0, 1) := zy_b22mc_5.2.2.2.2.2.2.2
theorem zy_b22mc_6 : decode cX8_canWork 28 = .ok (.getfield 64, 3) ∧ decode cX8_canWork 31 = .ok (.iload_n 1, 1) ∧ decode cX8_canWork 32 = .ok (.iaload, 1) ∧ decode cX8_canWork 33 = .ok (.if_icmp .gt 7, 3) ∧ decode cX8_canWork 36 = .ok (.iconst 1, 1) ∧ decode cX8_canWork 37 = .ok (.goto 4, 3) ∧ decode cX8_canWork 40 = .ok (.iconst 0, 1) ∧ decode cX8_canWork 41 = .ok (.ireturn, 1) := by decide +kernel
theorem dX8_canWork_28 : decode cX8_canWork 28 = .ok (.getfield 64, 3) := zy_b22mc_6.1
theorem dX8_canWork_31 : decode cX8_canWork 31 = .ok (.iload_n 1, 1) := zy_b22mc_6.2.1
theorem dX8_canWork_32 : decode cX8_canWork 32 = .ok (.iaload, 1) := zy_b22mc_6.2.2.1
theorem dX8_canWork_33 : decode cX8_canWork 33 = .ok (.if_icmp .gt 7, 3) := zy_b22mc_6.2.2.2.1
theorem dX8_canWork_36 : decode cX8_canWork 36 = .ok (.iconst 1, 1) := zy_b22mc_6.2.2.2.2.1
theorem dX8_canWork_37 : decode cX8_canWork 37 = .ok (.goto 4, 3) := zy_b22mc_6.2.2.2.2.2.1
theorem dX8_canWork_40 : decode cX8_canWork 40 = .ok (.iconst 0, 1) := zy_b22mc_6.2.2.2.2.2.2.1
theorem dX8_canWork_41 : decode cX8_canWork 41 = .ok (.ireturn, 1) := zy_b22mc_6.2.2.2.2.2.2.2
theorem zy_b22mc_7 : decode cX8_worked 0 = .ok (.aload_n 0, 1) ∧ decode cX8_worked 1 = .ok (.getfield 64, 3) ∧ decode cX8_worked 4 = .ok (.iload_n 1, 1) ∧ decode cX8_worked 5 = .ok (.dup2, 1) ∧ decode cX8_worked 6 = .ok (.iaload, 1) ∧ decode cX8_worked 7 = .ok (.iload_n 2, 1) ∧ decode cX8_worked 8 = .ok (.isub, 1) ∧ decode cX8_worked 9 = .ok (.iastore, 1) := by decide +kernel
theorem dX8_worked_0 : decode cX8_worked 0 = .ok (.aload_n 0, 1) := zy_b22mc_7.1
theorem dX8_worked_1 : decode cX8_worked 1 = .ok (.getfield 64, 3) := zy_b22mc_7.2.1
theorem dX8_worked_4 : decode cX8_worked 4 = .ok (.iload_n 1, 1) := zy_b22mc_7.2.2.1
theorem dX8_worked_5 : decode cX8_worked 5 = .ok (.dup2, 1) := zy_b22mc_7.2.2.2.1
theorem dX8_worked_6 : decode cX8_worked 6 = .ok (.iaload, 1) := zy_b22mc_7.2.2.2.2.1
theorem dX8_worked_7 : decode cX8_worked 7 = .ok (.iload_n 2, 1) := zy_b22mc_7.2.2.2.2.2.1
theorem dX8_worked_8 : decode cX8_worked 8 = .ok (.isub, 1) := zy_b22mc_7.2.2.2.2.2.2.1
theorem dX8_worked_9 : decode cX8_worked 9 = .ok (.iastore, 1) := zy_b22mc_7.2.2.2.2.2.2.2
theorem zy_b22mc_8 : decode cX8_worked 10 = .ok (.aload_n 0, 1) ∧ decode cX8_worked 11 = .ok (.getfield 64, 3) ∧ decode cX8_worked 14 = .ok (.iload_n 1, 1) ∧ decode cX8_worked 15 = .ok (.iaload, 1) ∧ decode cX8_worked 16 = .ok (.ifCond .ne 28, 3) ∧ decode cX8_worked 19 = .ok (.aload_n 0, 1) ∧ decode cX8_worked 20 = .ok (.getfield 73, 3) ∧ decode cX8_worked 23 = .ok (.iload_n 1, 1) := by decide +kernel
theorem dX8_worked_10 : decode cX8_worked 10 = .ok (.aload_n 0, 1) := zy_b22mc_8.1
theorem dX8_worked_11 : decode cX8_worked 11 = .ok (.getfield 64, 3) := zy_b22mc_8.2.1
theorem dX8_worked_14 : decode cX8_worked 14 = .ok (.iload_n 1, 1) := zy_b22mc_8.2.2.1
theorem dX8_worked_15 : decode cX8_worked 15 = .ok (.iaload, 1) := zy_b22mc_8.2.2.2.1
theorem dX8_worked_16 : decode cX8_worked 16 = .ok (.ifCond .ne 28, 3) := zy_b22mc_8.2.2.2.2.1
theorem dX8_worked_19 : decode cX8_worked 19 = .ok (.aload_n 0, 1) := zy_b22mc_8.2.2.2.2.2.1
theorem dX8_worked_20 : decode cX8_worked 20 = .ok (.getfield 73, 3) := zy_b22mc_8.2.2.2.2.2.2.1
theorem dX8_worked_23 : decode cX8_worked 23 = .ok (.iload_n 1, 1) := zy_b22mc_8.2.2.2.2.2.2.2
theorem zy_b22mc_9 : decode cX8_worked 24 = .ok (.aload_n 0, 1) ∧ decode cX8_worked 25 = .ok (.getfield 223, 3) ∧ decode cX8_worked 28 = .ok (.iastore, 1) ∧ decode cX8_worked 29 = .ok (.aload_n 0, 1) ∧ decode cX8_worked 30 = .ok (.getfield 76, 3) ∧ decode cX8_worked 33 = .ok (.iload_n 1, 1) ∧ decode cX8_worked 34 = .ok (.aload_n 0, 1) ∧ decode cX8_worked 35 = .ok (.iload_n 1, 1) := by decide +kernel
theorem dX8_worked_24 : decode cX8_worked 24 = .ok (.aload_n 0, 1) := zy_b22mc_9.1
theorem dX8_worked_25 : decode cX8_worked 25 = .ok (.getfield 223, 3) := zy_b22mc_9.2.1
theorem dX8_worked_28 : decode cX8_worked 28 = .ok (.iastore, 1) := zy_b22mc_9.2.2.1
theorem dX8_worked_29 : decode cX8_worked 29 = .ok (.aload_n 0, 1) := zy_b22mc_9.2.2.2.1
theorem dX8_worked_30 : decode cX8_worked 30 = .ok (.getfield 76, 3) := zy_b22mc_9.2.2.2.2.1
theorem dX8_worked_33 : decode cX8_worked 33 = .ok (.iload_n 1, 1) := zy_b22mc_9.2.2.2.2.2.1
theorem dX8_worked_34 : decode cX8_worked 34 = .ok (.aload_n 0, 1) := zy_b22mc_9.2.2.2.2.2.2.1
theorem dX8_worked_35 : decode cX8_worked 35 = .ok (.iload_n 1, 1) := zy_b22mc_9.2.2.2.2.2.2.2
theorem zy_b22mc_10 : decode cX8_worked 36 = .ok (.aload_n 0, 1) ∧ decode cX8_worked 37 = .ok (.getfield 223, 3) ∧ decode cX8_worked 40 = .ok (.invokevirtual 226, 3) ∧ decode cX8_worked 43 = .ok (.iastore, 1) ∧ decode cX8_worked 44 = .ok (.aload_n 0, 1) ∧ decode cX8_worked 45 = .ok (.getfield 64, 3) ∧ decode cX8_worked 48 = .ok (.iload_n 1, 1) ∧ decode cX8_worked 49 = .ok (.iaload, 1) := by decide +kernel
theorem dX8_worked_36 : decode cX8_worked 36 = .ok (.aload_n 0, 1) := zy_b22mc_10.1
theorem dX8_worked_37 : decode cX8_worked 37 = .ok (.getfield 223, 3) := zy_b22mc_10.2.1
theorem dX8_worked_40 : decode cX8_worked 40 = .ok (.invokevirtual 226, 3) := zy_b22mc_10.2.2.1
theorem dX8_worked_43 : decode cX8_worked 43 = .ok (.iastore, 1) := zy_b22mc_10.2.2.2.1
theorem dX8_worked_44 : decode cX8_worked 44 = .ok (.aload_n 0, 1) := zy_b22mc_10.2.2.2.2.1
theorem dX8_worked_45 : decode cX8_worked 45 = .ok (.getfield 64, 3) := zy_b22mc_10.2.2.2.2.2.1
theorem dX8_worked_48 : decode cX8_worked 48 = .ok (.iload_n 1, 1) := zy_b22mc_10.2.2.2.2.2.2.1
theorem dX8_worked_49 : decode cX8_worked 49 = .ok (.iaload, 1) := zy_b22mc_10.2.2.2.2.2.2.2
theorem dX8_worked_50 : decode cX8_worked 50 = .ok (.ireturn, 1) := by decide +kernel
theorem zy_b22mc_11 : decode cX8_net 0 = .ok (.iconst 0, 1) ∧ decode cX8_net 1 = .ok (.istore_n 2, 1) ∧ decode cX8_net 2 = .ok (.iconst 0, 1) ∧ decode cX8_net 3 = .ok (.istore_n 3, 1) ∧ decode cX8_net 4 = .ok (.iload_n 3, 1) ∧ decode cX8_net 5 = .ok (.aload_n 0, 1) ∧ decode cX8_net 6 = .ok (.getfield 230, 3) ∧ decode cX8_net 9 = .ok (.if_icmp .ge 55, 3) := by decide +kernel
theorem dX8_net_0 : decode cX8_net 0 = .ok (.iconst 0, 1) := zy_b22mc_11.1
theorem dX8_net_1 : decode cX8_net 1 = .ok (.istore_n 2, 1) := zy_b22mc_11.2.1
theorem dX8_net_2 : decode cX8_net 2 = .ok (.iconst 0, 1) := zy_b22mc_11.2.2.1
theorem dX8_net_3 : decode cX8_net 3 = .ok (.istore_n 3, 1) := zy_b22mc_11.2.2.2.1
theorem dX8_net_4 : decode cX8_net 4 = .ok (.iload_n 3, 1) := zy_b22mc_11.2.2.2.2.1
theorem dX8_net_5 : decode cX8_net 5 = .ok (.aload_n 0, 1) := zy_b22mc_11.2.2.2.2.2.1
theorem dX8_net_6 : decode cX8_net 6 = .ok (.getfield 230, 3) := zy_b22mc_11.2.2.2.2.2.2.1
theorem dX8_net_9 : decode cX8_net 9 = .ok (.if_icmp .ge 55, 3) := zy_b22mc_11.2.2.2.2.2.2.2
theorem zy_b22mc_12 : decode cX8_net 12 = .ok (.iload_n 2, 1) ∧ decode cX8_net 13 = .ok (.aload_n 0, 1) ∧ decode cX8_net 14 = .ok (.getfield 82, 3) ∧ decode cX8_net 17 = .ok (.iload_n 3, 1) ∧ decode cX8_net 18 = .ok (.iaload, 1) ∧ decode cX8_net 19 = .ok (.iload_n 1, 1) ∧ decode cX8_net 20 = .ok (.if_icmp .ne 12, 3) ∧ decode cX8_net 23 = .ok (.aload_n 0, 1) := by decide +kernel
theorem dX8_net_12 : decode cX8_net 12 = .ok (.iload_n 2, 1) := zy_b22mc_12.1
theorem dX8_net_13 : decode cX8_net 13 = .ok (.aload_n 0, 1) := zy_b22mc_12.2.1
theorem dX8_net_14 : decode cX8_net 14 = .ok (.getfield 82, 3) := zy_b22mc_12.2.2.1
theorem dX8_net_17 : decode cX8_net 17 = .ok (.iload_n 3, 1) := zy_b22mc_12.2.2.2.1
theorem dX8_net_18 : decode cX8_net 18 = .ok (.iaload, 1) := zy_b22mc_12.2.2.2.2.1
theorem dX8_net_19 : decode cX8_net 19 = .ok (.iload_n 1, 1) := zy_b22mc_12.2.2.2.2.2.1
theorem dX8_net_20 : decode cX8_net 20 = .ok (.if_icmp .ne 12, 3) := zy_b22mc_12.2.2.2.2.2.2.1
theorem dX8_net_23 : decode cX8_net 23 = .ok (.aload_n 0, 1) := zy_b22mc_12.2.2.2.2.2.2.2
theorem zy_b22mc_13 : decode cX8_net 24 = .ok (.getfield 88, 3) ∧ decode cX8_net 27 = .ok (.iload_n 3, 1) ∧ decode cX8_net 28 = .ok (.iaload, 1) ∧ decode cX8_net 29 = .ok (.goto 4, 3) ∧ decode cX8_net 32 = .ok (.iconst 0, 1) ∧ decode cX8_net 33 = .ok (.iadd, 1) ∧ decode cX8_net 34 = .ok (.istore_n 2, 1) ∧ decode cX8_net 35 = .ok (.iload_n 2, 1) := by decide +kernel
theorem dX8_net_24 : decode cX8_net 24 = .ok (.getfield 88, 3) := zy_b22mc_13.1
theorem dX8_net_27 : decode cX8_net 27 = .ok (.iload_n 3, 1) := zy_b22mc_13.2.1
theorem dX8_net_28 : decode cX8_net 28 = .ok (.iaload, 1) := zy_b22mc_13.2.2.1
theorem dX8_net_29 : decode cX8_net 29 = .ok (.goto 4, 3) := zy_b22mc_13.2.2.2.1
theorem dX8_net_32 : decode cX8_net 32 = .ok (.iconst 0, 1) := zy_b22mc_13.2.2.2.2.1
theorem dX8_net_33 : decode cX8_net 33 = .ok (.iadd, 1) := zy_b22mc_13.2.2.2.2.2.1
theorem dX8_net_34 : decode cX8_net 34 = .ok (.istore_n 2, 1) := zy_b22mc_13.2.2.2.2.2.2.1
theorem dX8_net_35 : decode cX8_net 35 = .ok (.iload_n 2, 1) := zy_b22mc_13.2.2.2.2.2.2.2
theorem zy_b22mc_14 : decode cX8_net 36 = .ok (.aload_n 0, 1) ∧ decode cX8_net 37 = .ok (.getfield 79, 3) ∧ decode cX8_net 40 = .ok (.iload_n 3, 1) ∧ decode cX8_net 41 = .ok (.iaload, 1) ∧ decode cX8_net 42 = .ok (.iload_n 1, 1) ∧ decode cX8_net 43 = .ok (.if_icmp .ne 12, 3) ∧ decode cX8_net 46 = .ok (.aload_n 0, 1) ∧ decode cX8_net 47 = .ok (.getfield 88, 3) := by decide +kernel
theorem dX8_net_36 : decode cX8_net 36 = .ok (.aload_n 0, 1) := zy_b22mc_14.1
theorem dX8_net_37 : decode cX8_net 37 = .ok (.getfield 79, 3) := zy_b22mc_14.2.1
theorem dX8_net_40 : decode cX8_net 40 = .ok (.iload_n 3, 1) := zy_b22mc_14.2.2.1
theorem dX8_net_41 : decode cX8_net 41 = .ok (.iaload, 1) := zy_b22mc_14.2.2.2.1
theorem dX8_net_42 : decode cX8_net 42 = .ok (.iload_n 1, 1) := zy_b22mc_14.2.2.2.2.1
theorem dX8_net_43 : decode cX8_net 43 = .ok (.if_icmp .ne 12, 3) := zy_b22mc_14.2.2.2.2.2.1
theorem dX8_net_46 : decode cX8_net 46 = .ok (.aload_n 0, 1) := zy_b22mc_14.2.2.2.2.2.2.1
theorem dX8_net_47 : decode cX8_net 47 = .ok (.getfield 88, 3) := zy_b22mc_14.2.2.2.2.2.2.2
theorem zy_b22mc_15 : decode cX8_net 50 = .ok (.iload_n 3, 1) ∧ decode cX8_net 51 = .ok (.iaload, 1) ∧ decode cX8_net 52 = .ok (.goto 4, 3) ∧ decode cX8_net 55 = .ok (.iconst 0, 1) ∧ decode cX8_net 56 = .ok (.isub, 1) ∧ decode cX8_net 57 = .ok (.istore_n 2, 1) ∧ decode cX8_net 58 = .ok (.iinc 3 1, 3) ∧ decode cX8_net 61 = .ok (.goto (-57), 3) := by decide +kernel
theorem dX8_net_50 : decode cX8_net 50 = .ok (.iload_n 3, 1) := zy_b22mc_15.1
theorem dX8_net_51 : decode cX8_net 51 = .ok (.iaload, 1) := zy_b22mc_15.2.1
theorem dX8_net_52 : decode cX8_net 52 = .ok (.goto 4, 3) := zy_b22mc_15.2.2.1
theorem dX8_net_55 : decode cX8_net 55 = .ok (.iconst 0, 1) := zy_b22mc_15.2.2.2.1
theorem dX8_net_56 : decode cX8_net 56 = .ok (.isub, 1) := zy_b22mc_15.2.2.2.2.1
theorem dX8_net_57 : decode cX8_net 57 = .ok (.istore_n 2, 1) := zy_b22mc_15.2.2.2.2.2.1
theorem dX8_net_58 : decode cX8_net 58 = .ok (.iinc 3 1, 3) := zy_b22mc_15.2.2.2.2.2.2.1
theorem dX8_net_61 : decode cX8_net 61 = .ok (.goto (-57), 3) := zy_b22mc_15.2.2.2.2.2.2.2
theorem dX8_net_64 : decode cX8_net 64 = .ok (.iload_n 2, 1) := by decide +kernel
theorem dX8_net_65 : decode cX8_net 65 = .ok (.ireturn, 1) := by decide +kernel
theorem zy_b22mc_16 : decode cX8_fieldOf 0 = .ok (.aload_n 0, 1) ∧ decode cX8_fieldOf 1 = .ok (.iload_n 1, 1) ∧ decode cX8_fieldOf 2 = .ok (.invokevirtual 220, 3) ∧ decode cX8_fieldOf 5 = .ok (.ifCond .ne 5, 3) ∧ decode cX8_fieldOf 8 = .ok (.iconst (-1), 1) ∧ decode cX8_fieldOf 9 = .ok (.ireturn, 1) ∧ decode cX8_fieldOf 10 = .ok (.iload_n 2, 1) ∧ decode cX8_fieldOf 11 = .ok (.tableswitch 103 0 6 #[41, 48, 55, 62, 69, 76, 83], 41) := by decide +kernel
theorem dX8_fieldOf_0 : decode cX8_fieldOf 0 = .ok (.aload_n 0, 1) := zy_b22mc_16.1
theorem dX8_fieldOf_1 : decode cX8_fieldOf 1 = .ok (.iload_n 1, 1) := zy_b22mc_16.2.1
theorem dX8_fieldOf_2 : decode cX8_fieldOf 2 = .ok (.invokevirtual 220, 3) := zy_b22mc_16.2.2.1
theorem dX8_fieldOf_5 : decode cX8_fieldOf 5 = .ok (.ifCond .ne 5, 3) := zy_b22mc_16.2.2.2.1
theorem dX8_fieldOf_8 : decode cX8_fieldOf 8 = .ok (.iconst (-1), 1) := zy_b22mc_16.2.2.2.2.1
theorem dX8_fieldOf_9 : decode cX8_fieldOf 9 = .ok (.ireturn, 1) := zy_b22mc_16.2.2.2.2.2.1
theorem dX8_fieldOf_10 : decode cX8_fieldOf 10 = .ok (.iload_n 2, 1) := zy_b22mc_16.2.2.2.2.2.2.1
theorem dX8_fieldOf_11 : decode cX8_fieldOf 11 = .ok (.tableswitch 103 0 6 #[41, 48, 55, 62, 69, 76, 83], 41) := zy_b22mc_16.2.2.2.2.2.2.2
theorem zy_b22mc_17 : decode cX8_fieldOf 52 = .ok (.aload_n 0, 1) ∧ decode cX8_fieldOf 53 = .ok (.getfield 58, 3) ∧ decode cX8_fieldOf 56 = .ok (.iload_n 1, 1) ∧ decode cX8_fieldOf 57 = .ok (.iaload, 1) ∧ decode cX8_fieldOf 58 = .ok (.ireturn, 1) ∧ decode cX8_fieldOf 59 = .ok (.aload_n 0, 1) ∧ decode cX8_fieldOf 60 = .ok (.getfield 61, 3) ∧ decode cX8_fieldOf 63 = .ok (.iload_n 1, 1) := by decide +kernel
theorem dX8_fieldOf_52 : decode cX8_fieldOf 52 = .ok (.aload_n 0, 1) := zy_b22mc_17.1
theorem dX8_fieldOf_53 : decode cX8_fieldOf 53 = .ok (.getfield 58, 3) := zy_b22mc_17.2.1
theorem dX8_fieldOf_56 : decode cX8_fieldOf 56 = .ok (.iload_n 1, 1) := zy_b22mc_17.2.2.1
theorem dX8_fieldOf_57 : decode cX8_fieldOf 57 = .ok (.iaload, 1) := zy_b22mc_17.2.2.2.1
theorem dX8_fieldOf_58 : decode cX8_fieldOf 58 = .ok (.ireturn, 1) := zy_b22mc_17.2.2.2.2.1
theorem dX8_fieldOf_59 : decode cX8_fieldOf 59 = .ok (.aload_n 0, 1) := zy_b22mc_17.2.2.2.2.2.1
theorem dX8_fieldOf_60 : decode cX8_fieldOf 60 = .ok (.getfield 61, 3) := zy_b22mc_17.2.2.2.2.2.2.1
theorem dX8_fieldOf_63 : decode cX8_fieldOf 63 = .ok (.iload_n 1, 1) := zy_b22mc_17.2.2.2.2.2.2.2
theorem zy_b22mc_18 : decode cX8_fieldOf 64 = .ok (.iaload, 1) ∧ decode cX8_fieldOf 65 = .ok (.ireturn, 1) ∧ decode cX8_fieldOf 66 = .ok (.aload_n 0, 1) ∧ decode cX8_fieldOf 67 = .ok (.getfield 64, 3) ∧ decode cX8_fieldOf 70 = .ok (.iload_n 1, 1) ∧ decode cX8_fieldOf 71 = .ok (.iaload, 1) ∧ decode cX8_fieldOf 72 = .ok (.ireturn, 1) ∧ decode cX8_fieldOf 73 = .ok (.aload_n 0, 1) := by decide +kernel
theorem dX8_fieldOf_64 : decode cX8_fieldOf 64 = .ok (.iaload, 1) := zy_b22mc_18.1
theorem dX8_fieldOf_65 : decode cX8_fieldOf 65 = .ok (.ireturn, 1) := zy_b22mc_18.2.1
theorem dX8_fieldOf_66 : decode cX8_fieldOf 66 = .ok (.aload_n 0, 1) := zy_b22mc_18.2.2.1
theorem dX8_fieldOf_67 : decode cX8_fieldOf 67 = .ok (.getfield 64, 3) := zy_b22mc_18.2.2.2.1
theorem dX8_fieldOf_70 : decode cX8_fieldOf 70 = .ok (.iload_n 1, 1) := zy_b22mc_18.2.2.2.2.1
theorem dX8_fieldOf_71 : decode cX8_fieldOf 71 = .ok (.iaload, 1) := zy_b22mc_18.2.2.2.2.2.1
theorem dX8_fieldOf_72 : decode cX8_fieldOf 72 = .ok (.ireturn, 1) := zy_b22mc_18.2.2.2.2.2.2.1
theorem dX8_fieldOf_73 : decode cX8_fieldOf 73 = .ok (.aload_n 0, 1) := zy_b22mc_18.2.2.2.2.2.2.2
theorem zy_b22mc_19 : decode cX8_fieldOf 74 = .ok (.getfield 67, 3) ∧ decode cX8_fieldOf 77 = .ok (.iload_n 1, 1) ∧ decode cX8_fieldOf 78 = .ok (.iaload, 1) ∧ decode cX8_fieldOf 79 = .ok (.ireturn, 1) ∧ decode cX8_fieldOf 80 = .ok (.aload_n 0, 1) ∧ decode cX8_fieldOf 81 = .ok (.getfield 70, 3) ∧ decode cX8_fieldOf 84 = .ok (.iload_n 1, 1) ∧ decode cX8_fieldOf 85 = .ok (.iaload, 1) := by decide +kernel
theorem dX8_fieldOf_74 : decode cX8_fieldOf 74 = .ok (.getfield 67, 3) := zy_b22mc_19.1
theorem dX8_fieldOf_77 : decode cX8_fieldOf 77 = .ok (.iload_n 1, 1) := zy_b22mc_19.2.1
theorem dX8_fieldOf_78 : decode cX8_fieldOf 78 = .ok (.iaload, 1) := zy_b22mc_19.2.2.1
theorem dX8_fieldOf_79 : decode cX8_fieldOf 79 = .ok (.ireturn, 1) := zy_b22mc_19.2.2.2.1
theorem dX8_fieldOf_80 : decode cX8_fieldOf 80 = .ok (.aload_n 0, 1) := zy_b22mc_19.2.2.2.2.1
theorem dX8_fieldOf_81 : decode cX8_fieldOf 81 = .ok (.getfield 70, 3) := zy_b22mc_19.2.2.2.2.2.1
theorem dX8_fieldOf_84 : decode cX8_fieldOf 84 = .ok (.iload_n 1, 1) := zy_b22mc_19.2.2.2.2.2.2.1
theorem dX8_fieldOf_85 : decode cX8_fieldOf 85 = .ok (.iaload, 1) := zy_b22mc_19.2.2.2.2.2.2.2
theorem zy_b22mc_20 : decode cX8_fieldOf 86 = .ok (.ireturn, 1) ∧ decode cX8_fieldOf 87 = .ok (.aload_n 0, 1) ∧ decode cX8_fieldOf 88 = .ok (.getfield 73, 3) ∧ decode cX8_fieldOf 91 = .ok (.iload_n 1, 1) ∧ decode cX8_fieldOf 92 = .ok (.iaload, 1) ∧ decode cX8_fieldOf 93 = .ok (.ireturn, 1) ∧ decode cX8_fieldOf 94 = .ok (.aload_n 0, 1) ∧ decode cX8_fieldOf 95 = .ok (.getfield 73, 3) := by decide +kernel
theorem dX8_fieldOf_86 : decode cX8_fieldOf 86 = .ok (.ireturn, 1) := zy_b22mc_20.1
theorem dX8_fieldOf_87 : decode cX8_fieldOf 87 = .ok (.aload_n 0, 1) := zy_b22mc_20.2.1
theorem dX8_fieldOf_88 : decode cX8_fieldOf 88 = .ok (.getfield 73, 3) := zy_b22mc_20.2.2.1
theorem dX8_fieldOf_91 : decode cX8_fieldOf 91 = .ok (.iload_n 1, 1) := zy_b22mc_20.2.2.2.1
theorem dX8_fieldOf_92 : decode cX8_fieldOf 92 = .ok (.iaload, 1) := zy_b22mc_20.2.2.2.2.1
theorem dX8_fieldOf_93 : decode cX8_fieldOf 93 = .ok (.ireturn, 1) := zy_b22mc_20.2.2.2.2.2.1
theorem dX8_fieldOf_94 : decode cX8_fieldOf 94 = .ok (.aload_n 0, 1) := zy_b22mc_20.2.2.2.2.2.2.1
theorem dX8_fieldOf_95 : decode cX8_fieldOf 95 = .ok (.getfield 73, 3) := zy_b22mc_20.2.2.2.2.2.2.2
theorem zy_b22mc_21 : decode cX8_fieldOf 98 = .ok (.iload_n 1, 1) ∧ decode cX8_fieldOf 99 = .ok (.iaload, 1) ∧ decode cX8_fieldOf 100 = .ok (.ifCond .ge 7, 3) ∧ decode cX8_fieldOf 103 = .ok (.iconst (-1), 1) ∧ decode cX8_fieldOf 104 = .ok (.goto 9, 3) ∧ decode cX8_fieldOf 107 = .ok (.aload_n 0, 1) ∧ decode cX8_fieldOf 108 = .ok (.getfield 76, 3) ∧ decode cX8_fieldOf 111 = .ok (.iload_n 1, 1) := by decide +kernel
theorem dX8_fieldOf_98 : decode cX8_fieldOf 98 = .ok (.iload_n 1, 1) := zy_b22mc_21.1
theorem dX8_fieldOf_99 : decode cX8_fieldOf 99 = .ok (.iaload, 1) := zy_b22mc_21.2.1
theorem dX8_fieldOf_100 : decode cX8_fieldOf 100 = .ok (.ifCond .ge 7, 3) := zy_b22mc_21.2.2.1
theorem dX8_fieldOf_103 : decode cX8_fieldOf 103 = .ok (.iconst (-1), 1) := zy_b22mc_21.2.2.2.1
theorem dX8_fieldOf_104 : decode cX8_fieldOf 104 = .ok (.goto 9, 3) := zy_b22mc_21.2.2.2.2.1
theorem dX8_fieldOf_107 : decode cX8_fieldOf 107 = .ok (.aload_n 0, 1) := zy_b22mc_21.2.2.2.2.2.1
theorem dX8_fieldOf_108 : decode cX8_fieldOf 108 = .ok (.getfield 76, 3) := zy_b22mc_21.2.2.2.2.2.2.1
theorem dX8_fieldOf_111 : decode cX8_fieldOf 111 = .ok (.iload_n 1, 1) := zy_b22mc_21.2.2.2.2.2.2.2
theorem zy_b22mc_22 : decode cX8_fieldOf 112 = .ok (.iaload, 1) ∧ decode cX8_fieldOf 113 = .ok (.ireturn, 1) ∧ decode cX8_fieldOf 114 = .ok (.iconst (-1), 1) ∧ decode cX8_fieldOf 115 = .ok (.ireturn, 1) := by decide +kernel
theorem dX8_fieldOf_112 : decode cX8_fieldOf 112 = .ok (.iaload, 1) := zy_b22mc_22.1
theorem dX8_fieldOf_113 : decode cX8_fieldOf 113 = .ok (.ireturn, 1) := zy_b22mc_22.2.1
theorem dX8_fieldOf_114 : decode cX8_fieldOf 114 = .ok (.iconst (-1), 1) := zy_b22mc_22.2.2.1
theorem dX8_fieldOf_115 : decode cX8_fieldOf 115 = .ok (.ireturn, 1) := zy_b22mc_22.2.2.2
theorem zz_subI {x y : Int32} (h1 : 0 ≤ y.toInt) (h2 : y.toInt ≤ x.toInt) : (x - y).toInt = x.toInt - y.toInt := by
  have h3 := Int32.toInt_lt x
  rw [Int32.toInt_sub]
  rw [Int.bmod_eq_of_le] <;> omega
def zz_rg (f : Nat → Int32) (n : Nat) (lo hi : Int) : Prop := ∀ k : Nat, k < n → lo ≤ (f k).toInt ∧ (f k).toInt ≤ hi
theorem zz_rg_upd {f : Nat → Int32} {n : Nat} {lo hi : Int} {x : Int32} (h : zz_rg f n lo hi) (hx : lo ≤ x.toInt ∧ x.toInt ≤ hi) (hn : n < 2147483648) : zz_rg (upd f (Int32.toNatClampNeg (nI n)) x) (n + 1) lo hi := by
  intro k hk
  rw [zz_cl hn]
  by_cases e : k = n
  · simp only [upd, if_pos e]; exact hx
  · simp only [upd, if_neg e]; exact h k (by omega)
theorem zz_rg_sub {f : Nat → Int32} {n i : Nat} {x : Int32} (h : zz_rg f n 0 60) (hi : i < n) (hx : 1 ≤ x.toInt) (hx2 : x.toInt ≤ (f i).toInt) : zz_rg (upd f i (f i - x)) n 0 60 := by
  intro k hk
  by_cases e : k = i
  · simp only [upd, if_pos e]
    rw [zz_subI (by omega) hx2]
    have := h i hi
    omega
  · simp only [upd, if_neg e]; exact h k hk
def zz_dn (d f : Nat → Int32) (n : Nat) : Prop := ∀ k : Nat, k < n → (d k).toInt < 0 → 1 ≤ (f k).toInt
theorem zz_dn_1 {d f : Nat → Int32} {n i : Nat} {x : Int32} (h : zz_dn d f n) (hx : 0 ≤ x.toInt) (hz : ¬ (upd f i x) i = 0) : zz_dn d (upd f i x) n := by
  intro k hk hd
  by_cases e : k = i
  · subst e
    simp only [upd, if_pos] at hz ⊢
    have := zz_ne hz
    rw [show (0 : Int32).toInt = 0 from by decide] at this
    omega
  · simp only [upd, if_neg e]; exact h k hk hd
theorem zz_dn_2 {d f : Nat → Int32} {n i : Nat} {x y : Int32} (h : zz_dn d f n) (hy : 0 ≤ y.toInt) : zz_dn (upd d i y) (upd f i x) n := by
  intro k hk hd
  by_cases e : k = i
  · simp only [upd, if_pos e] at hd; omega
  · simp only [upd, if_neg e] at hd ⊢; exact h k hk hd
theorem zz_dn_new {d f : Nat → Int32} {n : Nat} {x y : Int32} (h : zz_dn d f n) (hx : 1 ≤ x.toInt) (hn : n < 2147483648) : zz_dn (upd d (Int32.toNatClampNeg (nI n)) y) (upd f (Int32.toNatClampNeg (nI n)) x) (n + 1) := by
  intro k hk hd
  rw [zz_cl hn] at hd ⊢
  by_cases e : k = n
  · simp only [upd, if_pos e]; exact hx
  · simp only [upd, if_neg e] at hd ⊢; exact h k (by omega) hd
