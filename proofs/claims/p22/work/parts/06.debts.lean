theorem tw_12 : Cond.fieldLink RX1 9 "HandsReturned$Debts" "owers" "[I" ∈ zz_all := zz_m1 159 rfl rfl
theorem tw_13 : Cond.fieldLink RX1 15 "HandsReturned$Debts" "claimers" "[I" ∈ zz_all := zz_m1 162 rfl rfl
theorem tw_14 : Cond.fieldLink RX1 24 "HandsReturned$Debts" "count" "I" ∈ zz_all := zz_m1 169 rfl rfl
theorem tw_15 : Cond.code yX1_isOf cX1_isOf 4 (some .boolean) ∈ zz_all := zz_m3 3 rfl rfl
theorem tw_16 : Cond.initialized RX1 ∈ zz_all := zz_m1 7 rfl rfl
theorem tw_17 : Cond.methodLink RX1 28 yX1_isOf ∈ zz_all := zz_m3 0 rfl rfl
theorem tw_18 : Cond.instanceMethod yX1_isOf ∈ zz_all := zz_m3 2 rfl rfl
theorem tw_19 : Cond.selects RX1 yX1_isOf yX1_isOf ∈ zz_all := zz_ms 13 rfl rfl
theorem tw_20 : Cond.fieldLink RX1 21 "HandsReturned$Debts" "units" "[I" ∈ zz_all := zz_m1 166 rfl rfl
theorem tw_21 : Cond.fieldLink RX1 18 "HandsReturned$Debts" "since" "[I" ∈ zz_all := zz_m1 164 rfl rfl
theorem tw_22 : Cond.code yX1_dropEmpty cX1_dropEmpty 3 none ∈ zz_all := zz_m3 8 rfl rfl
theorem tw_23 : Cond.methodLink RX1 38 yX1_dropEmpty ∈ zz_all := zz_m3 5 rfl rfl
theorem tw_24 : Cond.instanceMethod yX1_dropEmpty ∈ zz_all := zz_m3 7 rfl rfl
theorem tw_25 : Cond.selects RX1 yX1_dropEmpty yX1_dropEmpty ∈ zz_all := zz_ms 14 rfl rfl
theorem tw_26 : Cond.methodLink RX1 32 Lib.Math.min.name ∈ zz_all := zz_m3 4 rfl rfl
theorem tw_27 : Cond.static Lib.Math.min.name ∈ zz_all := zz_m2 192 rfl rfl
theorem tw_28 : Cond.initialized "java/lang/Math" ∈ zz_all := zz_m1 15 rfl rfl
theorem tw_29 : Cond.code Lib.Math.min.name Lib.Math.min.code 2 (some .int) ∈ zz_all := zz_m2 193 rfl rfl
theorem zy_b06debts_0 : decode cX1_isOf 0 = .ok (.aload_n 0, 1) ∧ decode cX1_isOf 1 = .ok (.getfield 9, 3) ∧ decode cX1_isOf 4 = .ok (.iload_n 1, 1) ∧ decode cX1_isOf 5 = .ok (.iaload, 1) ∧ decode cX1_isOf 6 = .ok (.iload_n 2, 1) ∧ decode cX1_isOf 7 = .ok (.if_icmp .ne 17, 3) ∧ decode cX1_isOf 10 = .ok (.aload_n 0, 1) ∧ decode cX1_isOf 11 = .ok (.getfield 15, 3) := by decide +kernel
theorem dX1_isOf_0 : decode cX1_isOf 0 = .ok (.aload_n 0, 1) := zy_b06debts_0.1
theorem dX1_isOf_1 : decode cX1_isOf 1 = .ok (.getfield 9, 3) := zy_b06debts_0.2.1
theorem dX1_isOf_4 : decode cX1_isOf 4 = .ok (.iload_n 1, 1) := zy_b06debts_0.2.2.1
theorem dX1_isOf_5 : decode cX1_isOf 5 = .ok (.iaload, 1) := zy_b06debts_0.2.2.2.1
theorem dX1_isOf_6 : decode cX1_isOf 6 = .ok (.iload_n 2, 1) := zy_b06debts_0.2.2.2.2.1
theorem dX1_isOf_7 : decode cX1_isOf 7 = .ok (.if_icmp .ne 17, 3) := zy_b06debts_0.2.2.2.2.2.1
theorem dX1_isOf_10 : decode cX1_isOf 10 = .ok (.aload_n 0, 1) := zy_b06debts_0.2.2.2.2.2.2.1
theorem dX1_isOf_11 : decode cX1_isOf 11 = .ok (.getfield 15, 3) := zy_b06debts_0.2.2.2.2.2.2.2
theorem zy_b06debts_1 : decode cX1_isOf 14 = .ok (.iload_n 1, 1) ∧ decode cX1_isOf 15 = .ok (.iaload, 1) ∧ decode cX1_isOf 16 = .ok (.iload_n 3, 1) ∧ decode cX1_isOf 17 = .ok (.if_icmp .ne 7, 3) ∧ decode cX1_isOf 20 = .ok (.iconst 1, 1) ∧ decode cX1_isOf 21 = .ok (.goto 4, 3) ∧ decode cX1_isOf 24 = .ok (.iconst 0, 1) ∧ decode cX1_isOf 25 = .ok (.ireturn, 1) := by decide +kernel
theorem dX1_isOf_14 : decode cX1_isOf 14 = .ok (.iload_n 1, 1) := zy_b06debts_1.1
theorem dX1_isOf_15 : decode cX1_isOf 15 = .ok (.iaload, 1) := zy_b06debts_1.2.1
theorem dX1_isOf_16 : decode cX1_isOf 16 = .ok (.iload_n 3, 1) := zy_b06debts_1.2.2.1
theorem dX1_isOf_17 : decode cX1_isOf 17 = .ok (.if_icmp .ne 7, 3) := zy_b06debts_1.2.2.2.1
theorem dX1_isOf_20 : decode cX1_isOf 20 = .ok (.iconst 1, 1) := zy_b06debts_1.2.2.2.2.1
theorem dX1_isOf_21 : decode cX1_isOf 21 = .ok (.goto 4, 3) := zy_b06debts_1.2.2.2.2.2.1
theorem dX1_isOf_24 : decode cX1_isOf 24 = .ok (.iconst 0, 1) := zy_b06debts_1.2.2.2.2.2.2.1
theorem dX1_isOf_25 : decode cX1_isOf 25 = .ok (.ireturn, 1) := zy_b06debts_1.2.2.2.2.2.2.2
theorem zy_b06debts_2 : decode cX1_unitsOwed 0 = .ok (.iconst 0, 1) ∧ decode cX1_unitsOwed 1 = .ok (.istore_n 3, 1) ∧ decode cX1_unitsOwed 2 = .ok (.iconst 0, 1) ∧ decode cX1_unitsOwed 3 = .ok (.istore 4, 2) ∧ decode cX1_unitsOwed 5 = .ok (.iload 4, 2) ∧ decode cX1_unitsOwed 7 = .ok (.aload_n 0, 1) ∧ decode cX1_unitsOwed 8 = .ok (.getfield 24, 3) ∧ decode cX1_unitsOwed 11 = .ok (.if_icmp .ge 30, 3) := by decide +kernel
theorem dX1_unitsOwed_0 : decode cX1_unitsOwed 0 = .ok (.iconst 0, 1) := zy_b06debts_2.1
theorem dX1_unitsOwed_1 : decode cX1_unitsOwed 1 = .ok (.istore_n 3, 1) := zy_b06debts_2.2.1
theorem dX1_unitsOwed_2 : decode cX1_unitsOwed 2 = .ok (.iconst 0, 1) := zy_b06debts_2.2.2.1
theorem dX1_unitsOwed_3 : decode cX1_unitsOwed 3 = .ok (.istore 4, 2) := zy_b06debts_2.2.2.2.1
theorem dX1_unitsOwed_5 : decode cX1_unitsOwed 5 = .ok (.iload 4, 2) := zy_b06debts_2.2.2.2.2.1
theorem dX1_unitsOwed_7 : decode cX1_unitsOwed 7 = .ok (.aload_n 0, 1) := zy_b06debts_2.2.2.2.2.2.1
theorem dX1_unitsOwed_8 : decode cX1_unitsOwed 8 = .ok (.getfield 24, 3) := zy_b06debts_2.2.2.2.2.2.2.1
theorem dX1_unitsOwed_11 : decode cX1_unitsOwed 11 = .ok (.if_icmp .ge 30, 3) := zy_b06debts_2.2.2.2.2.2.2.2
theorem zy_b06debts_3 : decode cX1_unitsOwed 14 = .ok (.aload_n 0, 1) ∧ decode cX1_unitsOwed 15 = .ok (.iload 4, 2) ∧ decode cX1_unitsOwed 17 = .ok (.iload_n 1, 1) ∧ decode cX1_unitsOwed 18 = .ok (.iload_n 2, 1) ∧ decode cX1_unitsOwed 19 = .ok (.invokevirtual 28, 3) ∧ decode cX1_unitsOwed 22 = .ok (.ifCond .eq 13, 3) ∧ decode cX1_unitsOwed 25 = .ok (.iload_n 3, 1) ∧ decode cX1_unitsOwed 26 = .ok (.aload_n 0, 1) := by decide +kernel
theorem dX1_unitsOwed_14 : decode cX1_unitsOwed 14 = .ok (.aload_n 0, 1) := zy_b06debts_3.1
theorem dX1_unitsOwed_15 : decode cX1_unitsOwed 15 = .ok (.iload 4, 2) := zy_b06debts_3.2.1
theorem dX1_unitsOwed_17 : decode cX1_unitsOwed 17 = .ok (.iload_n 1, 1) := zy_b06debts_3.2.2.1
theorem dX1_unitsOwed_18 : decode cX1_unitsOwed 18 = .ok (.iload_n 2, 1) := zy_b06debts_3.2.2.2.1
theorem dX1_unitsOwed_19 : decode cX1_unitsOwed 19 = .ok (.invokevirtual 28, 3) := zy_b06debts_3.2.2.2.2.1
theorem dX1_unitsOwed_22 : decode cX1_unitsOwed 22 = .ok (.ifCond .eq 13, 3) := zy_b06debts_3.2.2.2.2.2.1
theorem dX1_unitsOwed_25 : decode cX1_unitsOwed 25 = .ok (.iload_n 3, 1) := zy_b06debts_3.2.2.2.2.2.2.1
theorem dX1_unitsOwed_26 : decode cX1_unitsOwed 26 = .ok (.aload_n 0, 1) := zy_b06debts_3.2.2.2.2.2.2.2
theorem zy_b06debts_4 : decode cX1_unitsOwed 27 = .ok (.getfield 21, 3) ∧ decode cX1_unitsOwed 30 = .ok (.iload 4, 2) ∧ decode cX1_unitsOwed 32 = .ok (.iaload, 1) ∧ decode cX1_unitsOwed 33 = .ok (.iadd, 1) ∧ decode cX1_unitsOwed 34 = .ok (.istore_n 3, 1) ∧ decode cX1_unitsOwed 35 = .ok (.iinc 4 1, 3) ∧ decode cX1_unitsOwed 38 = .ok (.goto (-33), 3) ∧ decode cX1_unitsOwed 41 = .ok (.iload_n 3, 1) := by decide +kernel
theorem dX1_unitsOwed_27 : decode cX1_unitsOwed 27 = .ok (.getfield 21, 3) := zy_b06debts_4.1
theorem dX1_unitsOwed_30 : decode cX1_unitsOwed 30 = .ok (.iload 4, 2) := zy_b06debts_4.2.1
theorem dX1_unitsOwed_32 : decode cX1_unitsOwed 32 = .ok (.iaload, 1) := zy_b06debts_4.2.2.1
theorem dX1_unitsOwed_33 : decode cX1_unitsOwed 33 = .ok (.iadd, 1) := zy_b06debts_4.2.2.2.1
theorem dX1_unitsOwed_34 : decode cX1_unitsOwed 34 = .ok (.istore_n 3, 1) := zy_b06debts_4.2.2.2.2.1
theorem dX1_unitsOwed_35 : decode cX1_unitsOwed 35 = .ok (.iinc 4 1, 3) := zy_b06debts_4.2.2.2.2.2.1
theorem dX1_unitsOwed_38 : decode cX1_unitsOwed 38 = .ok (.goto (-33), 3) := zy_b06debts_4.2.2.2.2.2.2.1
theorem dX1_unitsOwed_41 : decode cX1_unitsOwed 41 = .ok (.iload_n 3, 1) := zy_b06debts_4.2.2.2.2.2.2.2
theorem dX1_unitsOwed_42 : decode cX1_unitsOwed 42 = .ok (.ireturn, 1) := by decide +kernel
theorem zy_b06debts_5 : decode cX1_firstDay 0 = .ok (.iconst 0, 1) ∧ decode cX1_firstDay 1 = .ok (.istore_n 3, 1) ∧ decode cX1_firstDay 2 = .ok (.iload_n 3, 1) ∧ decode cX1_firstDay 3 = .ok (.aload_n 0, 1) ∧ decode cX1_firstDay 4 = .ok (.getfield 24, 3) ∧ decode cX1_firstDay 7 = .ok (.if_icmp .ge 26, 3) ∧ decode cX1_firstDay 10 = .ok (.aload_n 0, 1) ∧ decode cX1_firstDay 11 = .ok (.iload_n 3, 1) := by decide +kernel
theorem dX1_firstDay_0 : decode cX1_firstDay 0 = .ok (.iconst 0, 1) := zy_b06debts_5.1
theorem dX1_firstDay_1 : decode cX1_firstDay 1 = .ok (.istore_n 3, 1) := zy_b06debts_5.2.1
theorem dX1_firstDay_2 : decode cX1_firstDay 2 = .ok (.iload_n 3, 1) := zy_b06debts_5.2.2.1
theorem dX1_firstDay_3 : decode cX1_firstDay 3 = .ok (.aload_n 0, 1) := zy_b06debts_5.2.2.2.1
theorem dX1_firstDay_4 : decode cX1_firstDay 4 = .ok (.getfield 24, 3) := zy_b06debts_5.2.2.2.2.1
theorem dX1_firstDay_7 : decode cX1_firstDay 7 = .ok (.if_icmp .ge 26, 3) := zy_b06debts_5.2.2.2.2.2.1
theorem dX1_firstDay_10 : decode cX1_firstDay 10 = .ok (.aload_n 0, 1) := zy_b06debts_5.2.2.2.2.2.2.1
theorem dX1_firstDay_11 : decode cX1_firstDay 11 = .ok (.iload_n 3, 1) := zy_b06debts_5.2.2.2.2.2.2.2
theorem zy_b06debts_6 : decode cX1_firstDay 12 = .ok (.iload_n 1, 1) ∧ decode cX1_firstDay 13 = .ok (.iload_n 2, 1) ∧ decode cX1_firstDay 14 = .ok (.invokevirtual 28, 3) ∧ decode cX1_firstDay 17 = .ok (.ifCond .eq 10, 3) ∧ decode cX1_firstDay 20 = .ok (.aload_n 0, 1) ∧ decode cX1_firstDay 21 = .ok (.getfield 18, 3) ∧ decode cX1_firstDay 24 = .ok (.iload_n 3, 1) ∧ decode cX1_firstDay 25 = .ok (.iaload, 1) := by decide +kernel
theorem dX1_firstDay_12 : decode cX1_firstDay 12 = .ok (.iload_n 1, 1) := zy_b06debts_6.1
theorem dX1_firstDay_13 : decode cX1_firstDay 13 = .ok (.iload_n 2, 1) := zy_b06debts_6.2.1
theorem dX1_firstDay_14 : decode cX1_firstDay 14 = .ok (.invokevirtual 28, 3) := zy_b06debts_6.2.2.1
theorem dX1_firstDay_17 : decode cX1_firstDay 17 = .ok (.ifCond .eq 10, 3) := zy_b06debts_6.2.2.2.1
theorem dX1_firstDay_20 : decode cX1_firstDay 20 = .ok (.aload_n 0, 1) := zy_b06debts_6.2.2.2.2.1
theorem dX1_firstDay_21 : decode cX1_firstDay 21 = .ok (.getfield 18, 3) := zy_b06debts_6.2.2.2.2.2.1
theorem dX1_firstDay_24 : decode cX1_firstDay 24 = .ok (.iload_n 3, 1) := zy_b06debts_6.2.2.2.2.2.2.1
theorem dX1_firstDay_25 : decode cX1_firstDay 25 = .ok (.iaload, 1) := zy_b06debts_6.2.2.2.2.2.2.2
theorem zy_b06debts_7 : decode cX1_firstDay 26 = .ok (.ireturn, 1) ∧ decode cX1_firstDay 27 = .ok (.iinc 3 1, 3) ∧ decode cX1_firstDay 30 = .ok (.goto (-28), 3) ∧ decode cX1_firstDay 33 = .ok (.iconst (-1), 1) ∧ decode cX1_firstDay 34 = .ok (.ireturn, 1) := by decide +kernel
theorem dX1_firstDay_26 : decode cX1_firstDay 26 = .ok (.ireturn, 1) := zy_b06debts_7.1
theorem dX1_firstDay_27 : decode cX1_firstDay 27 = .ok (.iinc 3 1, 3) := zy_b06debts_7.2.1
theorem dX1_firstDay_30 : decode cX1_firstDay 30 = .ok (.goto (-28), 3) := zy_b06debts_7.2.2.1
theorem dX1_firstDay_33 : decode cX1_firstDay 33 = .ok (.iconst (-1), 1) := zy_b06debts_7.2.2.2.1
theorem dX1_firstDay_34 : decode cX1_firstDay 34 = .ok (.ireturn, 1) := zy_b06debts_7.2.2.2.2
theorem zy_b06debts_8 : decode cX1_net 0 = .ok (.iconst 0, 1) ∧ decode cX1_net 1 = .ok (.istore_n 2, 1) ∧ decode cX1_net 2 = .ok (.iconst 0, 1) ∧ decode cX1_net 3 = .ok (.istore_n 3, 1) ∧ decode cX1_net 4 = .ok (.iload_n 3, 1) ∧ decode cX1_net 5 = .ok (.aload_n 0, 1) ∧ decode cX1_net 6 = .ok (.getfield 24, 3) ∧ decode cX1_net 9 = .ok (.if_icmp .ge 50, 3) := by decide +kernel
theorem dX1_net_0 : decode cX1_net 0 = .ok (.iconst 0, 1) := zy_b06debts_8.1
theorem dX1_net_1 : decode cX1_net 1 = .ok (.istore_n 2, 1) := zy_b06debts_8.2.1
theorem dX1_net_2 : decode cX1_net 2 = .ok (.iconst 0, 1) := zy_b06debts_8.2.2.1
theorem dX1_net_3 : decode cX1_net 3 = .ok (.istore_n 3, 1) := zy_b06debts_8.2.2.2.1
theorem dX1_net_4 : decode cX1_net 4 = .ok (.iload_n 3, 1) := zy_b06debts_8.2.2.2.2.1
theorem dX1_net_5 : decode cX1_net 5 = .ok (.aload_n 0, 1) := zy_b06debts_8.2.2.2.2.2.1
theorem dX1_net_6 : decode cX1_net 6 = .ok (.getfield 24, 3) := zy_b06debts_8.2.2.2.2.2.2.1
theorem dX1_net_9 : decode cX1_net 9 = .ok (.if_icmp .ge 50, 3) := zy_b06debts_8.2.2.2.2.2.2.2
theorem zy_b06debts_9 : decode cX1_net 12 = .ok (.aload_n 0, 1) ∧ decode cX1_net 13 = .ok (.getfield 15, 3) ∧ decode cX1_net 16 = .ok (.iload_n 3, 1) ∧ decode cX1_net 17 = .ok (.iaload, 1) ∧ decode cX1_net 18 = .ok (.iload_n 1, 1) ∧ decode cX1_net 19 = .ok (.if_icmp .ne 15, 3) ∧ decode cX1_net 22 = .ok (.iload_n 2, 1) ∧ decode cX1_net 23 = .ok (.aload_n 0, 1) := by decide +kernel
theorem dX1_net_12 : decode cX1_net 12 = .ok (.aload_n 0, 1) := zy_b06debts_9.1
theorem dX1_net_13 : decode cX1_net 13 = .ok (.getfield 15, 3) := zy_b06debts_9.2.1
theorem dX1_net_16 : decode cX1_net 16 = .ok (.iload_n 3, 1) := zy_b06debts_9.2.2.1
theorem dX1_net_17 : decode cX1_net 17 = .ok (.iaload, 1) := zy_b06debts_9.2.2.2.1
theorem dX1_net_18 : decode cX1_net 18 = .ok (.iload_n 1, 1) := zy_b06debts_9.2.2.2.2.1
theorem dX1_net_19 : decode cX1_net 19 = .ok (.if_icmp .ne 15, 3) := zy_b06debts_9.2.2.2.2.2.1
theorem dX1_net_22 : decode cX1_net 22 = .ok (.iload_n 2, 1) := zy_b06debts_9.2.2.2.2.2.2.1
theorem dX1_net_23 : decode cX1_net 23 = .ok (.aload_n 0, 1) := zy_b06debts_9.2.2.2.2.2.2.2
theorem zy_b06debts_10 : decode cX1_net 24 = .ok (.getfield 21, 3) ∧ decode cX1_net 27 = .ok (.iload_n 3, 1) ∧ decode cX1_net 28 = .ok (.iaload, 1) ∧ decode cX1_net 29 = .ok (.iadd, 1) ∧ decode cX1_net 30 = .ok (.istore_n 2, 1) ∧ decode cX1_net 31 = .ok (.goto 22, 3) ∧ decode cX1_net 34 = .ok (.aload_n 0, 1) ∧ decode cX1_net 35 = .ok (.getfield 9, 3) := by decide +kernel
theorem dX1_net_24 : decode cX1_net 24 = .ok (.getfield 21, 3) := zy_b06debts_10.1
theorem dX1_net_27 : decode cX1_net 27 = .ok (.iload_n 3, 1) := zy_b06debts_10.2.1
theorem dX1_net_28 : decode cX1_net 28 = .ok (.iaload, 1) := zy_b06debts_10.2.2.1
theorem dX1_net_29 : decode cX1_net 29 = .ok (.iadd, 1) := zy_b06debts_10.2.2.2.1
theorem dX1_net_30 : decode cX1_net 30 = .ok (.istore_n 2, 1) := zy_b06debts_10.2.2.2.2.1
theorem dX1_net_31 : decode cX1_net 31 = .ok (.goto 22, 3) := zy_b06debts_10.2.2.2.2.2.1
theorem dX1_net_34 : decode cX1_net 34 = .ok (.aload_n 0, 1) := zy_b06debts_10.2.2.2.2.2.2.1
theorem dX1_net_35 : decode cX1_net 35 = .ok (.getfield 9, 3) := zy_b06debts_10.2.2.2.2.2.2.2
theorem zy_b06debts_11 : decode cX1_net 38 = .ok (.iload_n 3, 1) ∧ decode cX1_net 39 = .ok (.iaload, 1) ∧ decode cX1_net 40 = .ok (.iload_n 1, 1) ∧ decode cX1_net 41 = .ok (.if_icmp .ne 12, 3) ∧ decode cX1_net 44 = .ok (.iload_n 2, 1) ∧ decode cX1_net 45 = .ok (.aload_n 0, 1) ∧ decode cX1_net 46 = .ok (.getfield 21, 3) ∧ decode cX1_net 49 = .ok (.iload_n 3, 1) := by decide +kernel
theorem dX1_net_38 : decode cX1_net 38 = .ok (.iload_n 3, 1) := zy_b06debts_11.1
theorem dX1_net_39 : decode cX1_net 39 = .ok (.iaload, 1) := zy_b06debts_11.2.1
theorem dX1_net_40 : decode cX1_net 40 = .ok (.iload_n 1, 1) := zy_b06debts_11.2.2.1
theorem dX1_net_41 : decode cX1_net 41 = .ok (.if_icmp .ne 12, 3) := zy_b06debts_11.2.2.2.1
theorem dX1_net_44 : decode cX1_net 44 = .ok (.iload_n 2, 1) := zy_b06debts_11.2.2.2.2.1
theorem dX1_net_45 : decode cX1_net 45 = .ok (.aload_n 0, 1) := zy_b06debts_11.2.2.2.2.2.1
theorem dX1_net_46 : decode cX1_net 46 = .ok (.getfield 21, 3) := zy_b06debts_11.2.2.2.2.2.2.1
theorem dX1_net_49 : decode cX1_net 49 = .ok (.iload_n 3, 1) := zy_b06debts_11.2.2.2.2.2.2.2
theorem zy_b06debts_12 : decode cX1_net 50 = .ok (.iaload, 1) ∧ decode cX1_net 51 = .ok (.isub, 1) ∧ decode cX1_net 52 = .ok (.istore_n 2, 1) ∧ decode cX1_net 53 = .ok (.iinc 3 1, 3) ∧ decode cX1_net 56 = .ok (.goto (-52), 3) ∧ decode cX1_net 59 = .ok (.iload_n 2, 1) ∧ decode cX1_net 60 = .ok (.ireturn, 1) := by decide +kernel
theorem dX1_net_50 : decode cX1_net 50 = .ok (.iaload, 1) := zy_b06debts_12.1
theorem dX1_net_51 : decode cX1_net 51 = .ok (.isub, 1) := zy_b06debts_12.2.1
theorem dX1_net_52 : decode cX1_net 52 = .ok (.istore_n 2, 1) := zy_b06debts_12.2.2.1
theorem dX1_net_53 : decode cX1_net 53 = .ok (.iinc 3 1, 3) := zy_b06debts_12.2.2.2.1
theorem dX1_net_56 : decode cX1_net 56 = .ok (.goto (-52), 3) := zy_b06debts_12.2.2.2.2.1
theorem dX1_net_59 : decode cX1_net 59 = .ok (.iload_n 2, 1) := zy_b06debts_12.2.2.2.2.2.1
theorem dX1_net_60 : decode cX1_net 60 = .ok (.ireturn, 1) := zy_b06debts_12.2.2.2.2.2.2
theorem zy_b06debts_13 : decode cX1_dropEmpty 0 = .ok (.iconst 0, 1) ∧ decode cX1_dropEmpty 1 = .ok (.istore_n 1, 1) ∧ decode cX1_dropEmpty 2 = .ok (.iconst 0, 1) ∧ decode cX1_dropEmpty 3 = .ok (.istore_n 2, 1) ∧ decode cX1_dropEmpty 4 = .ok (.iload_n 2, 1) ∧ decode cX1_dropEmpty 5 = .ok (.aload_n 0, 1) ∧ decode cX1_dropEmpty 6 = .ok (.getfield 24, 3) ∧ decode cX1_dropEmpty 9 = .ok (.if_icmp .ge 69, 3) := by decide +kernel
theorem dX1_dropEmpty_0 : decode cX1_dropEmpty 0 = .ok (.iconst 0, 1) := zy_b06debts_13.1
theorem dX1_dropEmpty_1 : decode cX1_dropEmpty 1 = .ok (.istore_n 1, 1) := zy_b06debts_13.2.1
theorem dX1_dropEmpty_2 : decode cX1_dropEmpty 2 = .ok (.iconst 0, 1) := zy_b06debts_13.2.2.1
theorem dX1_dropEmpty_3 : decode cX1_dropEmpty 3 = .ok (.istore_n 2, 1) := zy_b06debts_13.2.2.2.1
theorem dX1_dropEmpty_4 : decode cX1_dropEmpty 4 = .ok (.iload_n 2, 1) := zy_b06debts_13.2.2.2.2.1
theorem dX1_dropEmpty_5 : decode cX1_dropEmpty 5 = .ok (.aload_n 0, 1) := zy_b06debts_13.2.2.2.2.2.1
theorem dX1_dropEmpty_6 : decode cX1_dropEmpty 6 = .ok (.getfield 24, 3) := zy_b06debts_13.2.2.2.2.2.2.1
theorem dX1_dropEmpty_9 : decode cX1_dropEmpty 9 = .ok (.if_icmp .ge 69, 3) := zy_b06debts_13.2.2.2.2.2.2.2
theorem zy_b06debts_14 : decode cX1_dropEmpty 12 = .ok (.aload_n 0, 1) ∧ decode cX1_dropEmpty 13 = .ok (.getfield 21, 3) ∧ decode cX1_dropEmpty 16 = .ok (.iload_n 2, 1) ∧ decode cX1_dropEmpty 17 = .ok (.iaload, 1) ∧ decode cX1_dropEmpty 18 = .ok (.ifCond .le 54, 3) ∧ decode cX1_dropEmpty 21 = .ok (.aload_n 0, 1) ∧ decode cX1_dropEmpty 22 = .ok (.getfield 9, 3) ∧ decode cX1_dropEmpty 25 = .ok (.iload_n 1, 1) := by decide +kernel
theorem dX1_dropEmpty_12 : decode cX1_dropEmpty 12 = .ok (.aload_n 0, 1) := zy_b06debts_14.1
theorem dX1_dropEmpty_13 : decode cX1_dropEmpty 13 = .ok (.getfield 21, 3) := zy_b06debts_14.2.1
theorem dX1_dropEmpty_16 : decode cX1_dropEmpty 16 = .ok (.iload_n 2, 1) := zy_b06debts_14.2.2.1
theorem dX1_dropEmpty_17 : decode cX1_dropEmpty 17 = .ok (.iaload, 1) := zy_b06debts_14.2.2.2.1
theorem dX1_dropEmpty_18 : decode cX1_dropEmpty 18 = .ok (.ifCond .le 54, 3) := zy_b06debts_14.2.2.2.2.1
theorem dX1_dropEmpty_21 : decode cX1_dropEmpty 21 = .ok (.aload_n 0, 1) := zy_b06debts_14.2.2.2.2.2.1
theorem dX1_dropEmpty_22 : decode cX1_dropEmpty 22 = .ok (.getfield 9, 3) := zy_b06debts_14.2.2.2.2.2.2.1
theorem dX1_dropEmpty_25 : decode cX1_dropEmpty 25 = .ok (.iload_n 1, 1) := zy_b06debts_14.2.2.2.2.2.2.2
theorem zy_b06debts_15 : decode cX1_dropEmpty 26 = .ok (.aload_n 0, 1) ∧ decode cX1_dropEmpty 27 = .ok (.getfield 9, 3) ∧ decode cX1_dropEmpty 30 = .ok (.iload_n 2, 1) ∧ decode cX1_dropEmpty 31 = .ok (.iaload, 1) ∧ decode cX1_dropEmpty 32 = .ok (.iastore, 1) ∧ decode cX1_dropEmpty 33 = .ok (.aload_n 0, 1) ∧ decode cX1_dropEmpty 34 = .ok (.getfield 15, 3) ∧ decode cX1_dropEmpty 37 = .ok (.iload_n 1, 1) := by decide +kernel
theorem dX1_dropEmpty_26 : decode cX1_dropEmpty 26 = .ok (.aload_n 0, 1) := zy_b06debts_15.1
theorem dX1_dropEmpty_27 : decode cX1_dropEmpty 27 = .ok (.getfield 9, 3) := zy_b06debts_15.2.1
theorem dX1_dropEmpty_30 : decode cX1_dropEmpty 30 = .ok (.iload_n 2, 1) := zy_b06debts_15.2.2.1
theorem dX1_dropEmpty_31 : decode cX1_dropEmpty 31 = .ok (.iaload, 1) := zy_b06debts_15.2.2.2.1
theorem dX1_dropEmpty_32 : decode cX1_dropEmpty 32 = .ok (.iastore, 1) := zy_b06debts_15.2.2.2.2.1
theorem dX1_dropEmpty_33 : decode cX1_dropEmpty 33 = .ok (.aload_n 0, 1) := zy_b06debts_15.2.2.2.2.2.1
theorem dX1_dropEmpty_34 : decode cX1_dropEmpty 34 = .ok (.getfield 15, 3) := zy_b06debts_15.2.2.2.2.2.2.1
theorem dX1_dropEmpty_37 : decode cX1_dropEmpty 37 = .ok (.iload_n 1, 1) := zy_b06debts_15.2.2.2.2.2.2.2
theorem zy_b06debts_16 : decode cX1_dropEmpty 38 = .ok (.aload_n 0, 1) ∧ decode cX1_dropEmpty 39 = .ok (.getfield 15, 3) ∧ decode cX1_dropEmpty 42 = .ok (.iload_n 2, 1) ∧ decode cX1_dropEmpty 43 = .ok (.iaload, 1) ∧ decode cX1_dropEmpty 44 = .ok (.iastore, 1) ∧ decode cX1_dropEmpty 45 = .ok (.aload_n 0, 1) ∧ decode cX1_dropEmpty 46 = .ok (.getfield 18, 3) ∧ decode cX1_dropEmpty 49 = .ok (.iload_n 1, 1) := by decide +kernel
theorem dX1_dropEmpty_38 : decode cX1_dropEmpty 38 = .ok (.aload_n 0, 1) := zy_b06debts_16.1
theorem dX1_dropEmpty_39 : decode cX1_dropEmpty 39 = .ok (.getfield 15, 3) := zy_b06debts_16.2.1
theorem dX1_dropEmpty_42 : decode cX1_dropEmpty 42 = .ok (.iload_n 2, 1) := zy_b06debts_16.2.2.1
theorem dX1_dropEmpty_43 : decode cX1_dropEmpty 43 = .ok (.iaload, 1) := zy_b06debts_16.2.2.2.1
theorem dX1_dropEmpty_44 : decode cX1_dropEmpty 44 = .ok (.iastore, 1) := zy_b06debts_16.2.2.2.2.1
theorem dX1_dropEmpty_45 : decode cX1_dropEmpty 45 = .ok (.aload_n 0, 1) := zy_b06debts_16.2.2.2.2.2.1
theorem dX1_dropEmpty_46 : decode cX1_dropEmpty 46 = .ok (.getfield 18, 3) := zy_b06debts_16.2.2.2.2.2.2.1
theorem dX1_dropEmpty_49 : decode cX1_dropEmpty 49 = .ok (.iload_n 1, 1) := zy_b06debts_16.2.2.2.2.2.2.2
theorem zy_b06debts_17 : decode cX1_dropEmpty 50 = .ok (.aload_n 0, 1) ∧ decode cX1_dropEmpty 51 = .ok (.getfield 18, 3) ∧ decode cX1_dropEmpty 54 = .ok (.iload_n 2, 1) ∧ decode cX1_dropEmpty 55 = .ok (.iaload, 1) ∧ decode cX1_dropEmpty 56 = .ok (.iastore, 1) ∧ decode cX1_dropEmpty 57 = .ok (.aload_n 0, 1) ∧ decode cX1_dropEmpty 58 = .ok (.getfield 21, 3) ∧ decode cX1_dropEmpty 61 = .ok (.iload_n 1, 1) := by decide +kernel
theorem dX1_dropEmpty_50 : decode cX1_dropEmpty 50 = .ok (.aload_n 0, 1) := zy_b06debts_17.1
theorem dX1_dropEmpty_51 : decode cX1_dropEmpty 51 = .ok (.getfield 18, 3) := zy_b06debts_17.2.1
theorem dX1_dropEmpty_54 : decode cX1_dropEmpty 54 = .ok (.iload_n 2, 1) := zy_b06debts_17.2.2.1
theorem dX1_dropEmpty_55 : decode cX1_dropEmpty 55 = .ok (.iaload, 1) := zy_b06debts_17.2.2.2.1
theorem dX1_dropEmpty_56 : decode cX1_dropEmpty 56 = .ok (.iastore, 1) := zy_b06debts_17.2.2.2.2.1
theorem dX1_dropEmpty_57 : decode cX1_dropEmpty 57 = .ok (.aload_n 0, 1) := zy_b06debts_17.2.2.2.2.2.1
theorem dX1_dropEmpty_58 : decode cX1_dropEmpty 58 = .ok (.getfield 21, 3) := zy_b06debts_17.2.2.2.2.2.2.1
theorem dX1_dropEmpty_61 : decode cX1_dropEmpty 61 = .ok (.iload_n 1, 1) := zy_b06debts_17.2.2.2.2.2.2.2
theorem zy_b06debts_18 : decode cX1_dropEmpty 62 = .ok (.aload_n 0, 1) ∧ decode cX1_dropEmpty 63 = .ok (.getfield 21, 3) ∧ decode cX1_dropEmpty 66 = .ok (.iload_n 2, 1) ∧ decode cX1_dropEmpty 67 = .ok (.iaload, 1) ∧ decode cX1_dropEmpty 68 = .ok (.iastore, 1) ∧ decode cX1_dropEmpty 69 = .ok (.iinc 1 1, 3) ∧ decode cX1_dropEmpty 72 = .ok (.iinc 2 1, 3) ∧ decode cX1_dropEmpty 75 = .ok (.goto (-71), 3) := by decide +kernel
theorem dX1_dropEmpty_62 : decode cX1_dropEmpty 62 = .ok (.aload_n 0, 1) := zy_b06debts_18.1
theorem dX1_dropEmpty_63 : decode cX1_dropEmpty 63 = .ok (.getfield 21, 3) := zy_b06debts_18.2.1
theorem dX1_dropEmpty_66 : decode cX1_dropEmpty 66 = .ok (.iload_n 2, 1) := zy_b06debts_18.2.2.1
theorem dX1_dropEmpty_67 : decode cX1_dropEmpty 67 = .ok (.iaload, 1) := zy_b06debts_18.2.2.2.1
theorem dX1_dropEmpty_68 : decode cX1_dropEmpty 68 = .ok (.iastore, 1) := zy_b06debts_18.2.2.2.2.1
theorem dX1_dropEmpty_69 : decode cX1_dropEmpty 69 = .ok (.iinc 1 1, 3) := zy_b06debts_18.2.2.2.2.2.1
theorem dX1_dropEmpty_72 : decode cX1_dropEmpty 72 = .ok (.iinc 2 1, 3) := zy_b06debts_18.2.2.2.2.2.2.1
theorem dX1_dropEmpty_75 : decode cX1_dropEmpty 75 = .ok (.goto (-71), 3) := zy_b06debts_18.2.2.2.2.2.2.2
theorem zy_b06debts_19 : decode cX1_dropEmpty 78 = .ok (.aload_n 0, 1) ∧ decode cX1_dropEmpty 79 = .ok (.iload_n 1, 1) ∧ decode cX1_dropEmpty 80 = .ok (.putfield 24, 3) ∧ decode cX1_dropEmpty 83 = .ok (.return_, 1) := by decide +kernel
theorem dX1_dropEmpty_78 : decode cX1_dropEmpty 78 = .ok (.aload_n 0, 1) := zy_b06debts_19.1
theorem dX1_dropEmpty_79 : decode cX1_dropEmpty 79 = .ok (.iload_n 1, 1) := zy_b06debts_19.2.1
theorem dX1_dropEmpty_80 : decode cX1_dropEmpty 80 = .ok (.putfield 24, 3) := zy_b06debts_19.2.2.1
theorem dX1_dropEmpty_83 : decode cX1_dropEmpty 83 = .ok (.return_, 1) := zy_b06debts_19.2.2.2
theorem zy_b06debts_20 : decode cX1_lessen 0 = .ok (.iload_n 3, 1) ∧ decode cX1_lessen 1 = .ok (.istore 4, 2) ∧ decode cX1_lessen 3 = .ok (.iconst 0, 1) ∧ decode cX1_lessen 4 = .ok (.istore 5, 2) ∧ decode cX1_lessen 6 = .ok (.iload 5, 2) ∧ decode cX1_lessen 8 = .ok (.aload_n 0, 1) ∧ decode cX1_lessen 9 = .ok (.getfield 24, 3) ∧ decode cX1_lessen 12 = .ok (.if_icmp .ge 58, 3) := by decide +kernel
theorem dX1_lessen_0 : decode cX1_lessen 0 = .ok (.iload_n 3, 1) := zy_b06debts_20.1
theorem dX1_lessen_1 : decode cX1_lessen 1 = .ok (.istore 4, 2) := zy_b06debts_20.2.1
theorem dX1_lessen_3 : decode cX1_lessen 3 = .ok (.iconst 0, 1) := zy_b06debts_20.2.2.1
theorem dX1_lessen_4 : decode cX1_lessen 4 = .ok (.istore 5, 2) := zy_b06debts_20.2.2.2.1
theorem dX1_lessen_6 : decode cX1_lessen 6 = .ok (.iload 5, 2) := zy_b06debts_20.2.2.2.2.1
theorem dX1_lessen_8 : decode cX1_lessen 8 = .ok (.aload_n 0, 1) := zy_b06debts_20.2.2.2.2.2.1
theorem dX1_lessen_9 : decode cX1_lessen 9 = .ok (.getfield 24, 3) := zy_b06debts_20.2.2.2.2.2.2.1
theorem dX1_lessen_12 : decode cX1_lessen 12 = .ok (.if_icmp .ge 58, 3) := zy_b06debts_20.2.2.2.2.2.2.2
theorem zy_b06debts_21 : decode cX1_lessen 15 = .ok (.iload 4, 2) ∧ decode cX1_lessen 17 = .ok (.ifCond .le 53, 3) ∧ decode cX1_lessen 20 = .ok (.aload_n 0, 1) ∧ decode cX1_lessen 21 = .ok (.iload 5, 2) ∧ decode cX1_lessen 23 = .ok (.iload_n 1, 1) ∧ decode cX1_lessen 24 = .ok (.iload_n 2, 1) ∧ decode cX1_lessen 25 = .ok (.invokevirtual 28, 3) ∧ decode cX1_lessen 28 = .ok (.ifCond .eq 36, 3) := by decide +kernel
theorem dX1_lessen_15 : decode cX1_lessen 15 = .ok (.iload 4, 2) := zy_b06debts_21.1
theorem dX1_lessen_17 : decode cX1_lessen 17 = .ok (.ifCond .le 53, 3) := zy_b06debts_21.2.1
theorem dX1_lessen_20 : decode cX1_lessen 20 = .ok (.aload_n 0, 1) := zy_b06debts_21.2.2.1
theorem dX1_lessen_21 : decode cX1_lessen 21 = .ok (.iload 5, 2) := zy_b06debts_21.2.2.2.1
theorem dX1_lessen_23 : decode cX1_lessen 23 = .ok (.iload_n 1, 1) := zy_b06debts_21.2.2.2.2.1
theorem dX1_lessen_24 : decode cX1_lessen 24 = .ok (.iload_n 2, 1) := zy_b06debts_21.2.2.2.2.2.1
theorem dX1_lessen_25 : decode cX1_lessen 25 = .ok (.invokevirtual 28, 3) := zy_b06debts_21.2.2.2.2.2.2.1
theorem dX1_lessen_28 : decode cX1_lessen 28 = .ok (.ifCond .eq 36, 3) := zy_b06debts_21.2.2.2.2.2.2.2
theorem zy_b06debts_22 : decode cX1_lessen 31 = .ok (.iload 4, 2) ∧ decode cX1_lessen 33 = .ok (.aload_n 0, 1) ∧ decode cX1_lessen 34 = .ok (.getfield 21, 3) ∧ decode cX1_lessen 37 = .ok (.iload 5, 2) ∧ decode cX1_lessen 39 = .ok (.iaload, 1) ∧ decode cX1_lessen 40 = .ok (.invokestatic 32, 3) ∧ decode cX1_lessen 43 = .ok (.istore 6, 2) ∧ decode cX1_lessen 45 = .ok (.aload_n 0, 1) := by decide +kernel
theorem dX1_lessen_31 : decode cX1_lessen 31 = .ok (.iload 4, 2) := zy_b06debts_22.1
theorem dX1_lessen_33 : decode cX1_lessen 33 = .ok (.aload_n 0, 1) := zy_b06debts_22.2.1
theorem dX1_lessen_34 : decode cX1_lessen 34 = .ok (.getfield 21, 3) := zy_b06debts_22.2.2.1
theorem dX1_lessen_37 : decode cX1_lessen 37 = .ok (.iload 5, 2) := zy_b06debts_22.2.2.2.1
theorem dX1_lessen_39 : decode cX1_lessen 39 = .ok (.iaload, 1) := zy_b06debts_22.2.2.2.2.1
theorem dX1_lessen_40 : decode cX1_lessen 40 = .ok (.invokestatic 32, 3) := zy_b06debts_22.2.2.2.2.2.1
theorem dX1_lessen_43 : decode cX1_lessen 43 = .ok (.istore 6, 2) := zy_b06debts_22.2.2.2.2.2.2.1
theorem dX1_lessen_45 : decode cX1_lessen 45 = .ok (.aload_n 0, 1) := zy_b06debts_22.2.2.2.2.2.2.2
theorem zy_b06debts_23 : decode cX1_lessen 46 = .ok (.getfield 21, 3) ∧ decode cX1_lessen 49 = .ok (.iload 5, 2) ∧ decode cX1_lessen 51 = .ok (.dup2, 1) ∧ decode cX1_lessen 52 = .ok (.iaload, 1) ∧ decode cX1_lessen 53 = .ok (.iload 6, 2) ∧ decode cX1_lessen 55 = .ok (.isub, 1) ∧ decode cX1_lessen 56 = .ok (.iastore, 1) ∧ decode cX1_lessen 57 = .ok (.iload 4, 2) := by decide +kernel
theorem dX1_lessen_46 : decode cX1_lessen 46 = .ok (.getfield 21, 3) := zy_b06debts_23.1
theorem dX1_lessen_49 : decode cX1_lessen 49 = .ok (.iload 5, 2) := zy_b06debts_23.2.1
theorem dX1_lessen_51 : decode cX1_lessen 51 = .ok (.dup2, 1) := zy_b06debts_23.2.2.1
theorem dX1_lessen_52 : decode cX1_lessen 52 = .ok (.iaload, 1) := zy_b06debts_23.2.2.2.1
theorem dX1_lessen_53 : decode cX1_lessen 53 = .ok (.iload 6, 2) := zy_b06debts_23.2.2.2.2.1
theorem dX1_lessen_55 : decode cX1_lessen 55 = .ok (.isub, 1) := zy_b06debts_23.2.2.2.2.2.1
theorem dX1_lessen_56 : decode cX1_lessen 56 = .ok (.iastore, 1) := zy_b06debts_23.2.2.2.2.2.2.1
theorem dX1_lessen_57 : decode cX1_lessen 57 = .ok (.iload 4, 2) := zy_b06debts_23.2.2.2.2.2.2.2
theorem zy_b06debts_24 : decode cX1_lessen 59 = .ok (.iload 6, 2) ∧ decode cX1_lessen 61 = .ok (.isub, 1) ∧ decode cX1_lessen 62 = .ok (.istore 4, 2) ∧ decode cX1_lessen 64 = .ok (.iinc 5 1, 3) ∧ decode cX1_lessen 67 = .ok (.goto (-61), 3) ∧ decode cX1_lessen 70 = .ok (.aload_n 0, 1) ∧ decode cX1_lessen 71 = .ok (.invokevirtual 38, 3) ∧ decode cX1_lessen 74 = .ok (.iload 4, 2) := by decide +kernel
theorem dX1_lessen_59 : decode cX1_lessen 59 = .ok (.iload 6, 2) := zy_b06debts_24.1
theorem dX1_lessen_61 : decode cX1_lessen 61 = .ok (.isub, 1) := zy_b06debts_24.2.1
theorem dX1_lessen_62 : decode cX1_lessen 62 = .ok (.istore 4, 2) := zy_b06debts_24.2.2.1
theorem dX1_lessen_64 : decode cX1_lessen 64 = .ok (.iinc 5 1, 3) := zy_b06debts_24.2.2.2.1
theorem dX1_lessen_67 : decode cX1_lessen 67 = .ok (.goto (-61), 3) := zy_b06debts_24.2.2.2.2.1
theorem dX1_lessen_70 : decode cX1_lessen 70 = .ok (.aload_n 0, 1) := zy_b06debts_24.2.2.2.2.2.1
theorem dX1_lessen_71 : decode cX1_lessen 71 = .ok (.invokevirtual 38, 3) := zy_b06debts_24.2.2.2.2.2.2.1
theorem dX1_lessen_74 : decode cX1_lessen 74 = .ok (.iload 4, 2) := zy_b06debts_24.2.2.2.2.2.2.2
theorem dX1_lessen_76 : decode cX1_lessen 76 = .ok (.ireturn, 1) := by decide +kernel
theorem zy_b06debts_25 : decode cX1_put 0 = .ok (.iload 4, 2) ∧ decode cX1_put 2 = .ok (.ifCond .gt 4, 3) ∧ decode cX1_put 5 = .ok (.return_, 1) ∧ decode cX1_put 6 = .ok (.iconst 0, 1) ∧ decode cX1_put 7 = .ok (.istore 5, 2) ∧ decode cX1_put 9 = .ok (.iload 5, 2) ∧ decode cX1_put 11 = .ok (.aload_n 0, 1) ∧ decode cX1_put 12 = .ok (.getfield 24, 3) := by decide +kernel
theorem dX1_put_0 : decode cX1_put 0 = .ok (.iload 4, 2) := zy_b06debts_25.1
theorem dX1_put_2 : decode cX1_put 2 = .ok (.ifCond .gt 4, 3) := zy_b06debts_25.2.1
theorem dX1_put_5 : decode cX1_put 5 = .ok (.return_, 1) := zy_b06debts_25.2.2.1
theorem dX1_put_6 : decode cX1_put 6 = .ok (.iconst 0, 1) := zy_b06debts_25.2.2.2.1
theorem dX1_put_7 : decode cX1_put 7 = .ok (.istore 5, 2) := zy_b06debts_25.2.2.2.2.1
theorem dX1_put_9 : decode cX1_put 9 = .ok (.iload 5, 2) := zy_b06debts_25.2.2.2.2.2.1
theorem dX1_put_11 : decode cX1_put 11 = .ok (.aload_n 0, 1) := zy_b06debts_25.2.2.2.2.2.2.1
theorem dX1_put_12 : decode cX1_put 12 = .ok (.getfield 24, 3) := zy_b06debts_25.2.2.2.2.2.2.2
theorem zy_b06debts_26 : decode cX1_put 15 = .ok (.if_icmp .ge 44, 3) ∧ decode cX1_put 18 = .ok (.aload_n 0, 1) ∧ decode cX1_put 19 = .ok (.iload 5, 2) ∧ decode cX1_put 21 = .ok (.iload_n 1, 1) ∧ decode cX1_put 22 = .ok (.iload_n 2, 1) ∧ decode cX1_put 23 = .ok (.invokevirtual 28, 3) ∧ decode cX1_put 26 = .ok (.ifCond .eq 27, 3) ∧ decode cX1_put 29 = .ok (.aload_n 0, 1) := by decide +kernel
theorem dX1_put_15 : decode cX1_put 15 = .ok (.if_icmp .ge 44, 3) := zy_b06debts_26.1
theorem dX1_put_18 : decode cX1_put 18 = .ok (.aload_n 0, 1) := zy_b06debts_26.2.1
theorem dX1_put_19 : decode cX1_put 19 = .ok (.iload 5, 2) := zy_b06debts_26.2.2.1
theorem dX1_put_21 : decode cX1_put 21 = .ok (.iload_n 1, 1) := zy_b06debts_26.2.2.2.1
theorem dX1_put_22 : decode cX1_put 22 = .ok (.iload_n 2, 1) := zy_b06debts_26.2.2.2.2.1
theorem dX1_put_23 : decode cX1_put 23 = .ok (.invokevirtual 28, 3) := zy_b06debts_26.2.2.2.2.2.1
theorem dX1_put_26 : decode cX1_put 26 = .ok (.ifCond .eq 27, 3) := zy_b06debts_26.2.2.2.2.2.2.1
theorem dX1_put_29 : decode cX1_put 29 = .ok (.aload_n 0, 1) := zy_b06debts_26.2.2.2.2.2.2.2
theorem zy_b06debts_27 : decode cX1_put 30 = .ok (.getfield 18, 3) ∧ decode cX1_put 33 = .ok (.iload 5, 2) ∧ decode cX1_put 35 = .ok (.iaload, 1) ∧ decode cX1_put 36 = .ok (.iload_n 3, 1) ∧ decode cX1_put 37 = .ok (.if_icmp .ne 16, 3) ∧ decode cX1_put 40 = .ok (.aload_n 0, 1) ∧ decode cX1_put 41 = .ok (.getfield 21, 3) ∧ decode cX1_put 44 = .ok (.iload 5, 2) := by decide +kernel
theorem dX1_put_30 : decode cX1_put 30 = .ok (.getfield 18, 3) := zy_b06debts_27.1
theorem dX1_put_33 : decode cX1_put 33 = .ok (.iload 5, 2) := zy_b06debts_27.2.1
theorem dX1_put_35 : decode cX1_put 35 = .ok (.iaload, 1) := zy_b06debts_27.2.2.1
theorem dX1_put_36 : decode cX1_put 36 = .ok (.iload_n 3, 1) := zy_b06debts_27.2.2.2.1
theorem dX1_put_37 : decode cX1_put 37 = .ok (.if_icmp .ne 16, 3) := zy_b06debts_27.2.2.2.2.1
theorem dX1_put_40 : decode cX1_put 40 = .ok (.aload_n 0, 1) := zy_b06debts_27.2.2.2.2.2.1
theorem dX1_put_41 : decode cX1_put 41 = .ok (.getfield 21, 3) := zy_b06debts_27.2.2.2.2.2.2.1
theorem dX1_put_44 : decode cX1_put 44 = .ok (.iload 5, 2) := zy_b06debts_27.2.2.2.2.2.2.2
theorem zy_b06debts_28 : decode cX1_put 46 = .ok (.dup2, 1) ∧ decode cX1_put 47 = .ok (.iaload, 1) ∧ decode cX1_put 48 = .ok (.iload 4, 2) ∧ decode cX1_put 50 = .ok (.iadd, 1) ∧ decode cX1_put 51 = .ok (.iastore, 1) ∧ decode cX1_put 52 = .ok (.return_, 1) ∧ decode cX1_put 53 = .ok (.iinc 5 1, 3) ∧ decode cX1_put 56 = .ok (.goto (-47), 3) := by decide +kernel
theorem dX1_put_46 : decode cX1_put 46 = .ok (.dup2, 1) := zy_b06debts_28.1
theorem dX1_put_47 : decode cX1_put 47 = .ok (.iaload, 1) := zy_b06debts_28.2.1
theorem dX1_put_48 : decode cX1_put 48 = .ok (.iload 4, 2) := zy_b06debts_28.2.2.1
theorem dX1_put_50 : decode cX1_put 50 = .ok (.iadd, 1) := zy_b06debts_28.2.2.2.1
theorem dX1_put_51 : decode cX1_put 51 = .ok (.iastore, 1) := zy_b06debts_28.2.2.2.2.1
theorem dX1_put_52 : decode cX1_put 52 = .ok (.return_, 1) := zy_b06debts_28.2.2.2.2.2.1
theorem dX1_put_53 : decode cX1_put 53 = .ok (.iinc 5 1, 3) := zy_b06debts_28.2.2.2.2.2.2.1
theorem dX1_put_56 : decode cX1_put 56 = .ok (.goto (-47), 3) := zy_b06debts_28.2.2.2.2.2.2.2
theorem zy_b06debts_29 : decode cX1_put 59 = .ok (.aload_n 0, 1) ∧ decode cX1_put 60 = .ok (.getfield 24, 3) ∧ decode cX1_put 63 = .ok (.sipush 300, 3) ∧ decode cX1_put 66 = .ok (.if_icmp .ge 54, 3) ∧ decode cX1_put 69 = .ok (.aload_n 0, 1) ∧ decode cX1_put 70 = .ok (.getfield 9, 3) ∧ decode cX1_put 73 = .ok (.aload_n 0, 1) ∧ decode cX1_put 74 = .ok (.getfield 24, 3) := by decide +kernel
theorem dX1_put_59 : decode cX1_put 59 = .ok (.aload_n 0, 1) := zy_b06debts_29.1
theorem dX1_put_60 : decode cX1_put 60 = .ok (.getfield 24, 3) := zy_b06debts_29.2.1
theorem dX1_put_63 : decode cX1_put 63 = .ok (.sipush 300, 3) := zy_b06debts_29.2.2.1
theorem dX1_put_66 : decode cX1_put 66 = .ok (.if_icmp .ge 54, 3) := zy_b06debts_29.2.2.2.1
theorem dX1_put_69 : decode cX1_put 69 = .ok (.aload_n 0, 1) := zy_b06debts_29.2.2.2.2.1
theorem dX1_put_70 : decode cX1_put 70 = .ok (.getfield 9, 3) := zy_b06debts_29.2.2.2.2.2.1
theorem dX1_put_73 : decode cX1_put 73 = .ok (.aload_n 0, 1) := zy_b06debts_29.2.2.2.2.2.2.1
theorem dX1_put_74 : decode cX1_put 74 = .ok (.getfield 24, 3) := zy_b06debts_29.2.2.2.2.2.2.2
theorem zy_b06debts_30 : decode cX1_put 77 = .ok (.iload_n 1, 1) ∧ decode cX1_put 78 = .ok (.iastore, 1) ∧ decode cX1_put 79 = .ok (.aload_n 0, 1) ∧ decode cX1_put 80 = .ok (.getfield 15, 3) ∧ decode cX1_put 83 = .ok (.aload_n 0, 1) ∧ decode cX1_put 84 = .ok (.getfield 24, 3) ∧ decode cX1_put 87 = .ok (.iload_n 2, 1) ∧ decode cX1_put 88 = .ok (.iastore, 1) := by decide +kernel
theorem dX1_put_77 : decode cX1_put 77 = .ok (.iload_n 1, 1) := zy_b06debts_30.1
theorem dX1_put_78 : decode cX1_put 78 = .ok (.iastore, 1) := zy_b06debts_30.2.1
theorem dX1_put_79 : decode cX1_put 79 = .ok (.aload_n 0, 1) := zy_b06debts_30.2.2.1
theorem dX1_put_80 : decode cX1_put 80 = .ok (.getfield 15, 3) := zy_b06debts_30.2.2.2.1
theorem dX1_put_83 : decode cX1_put 83 = .ok (.aload_n 0, 1) := zy_b06debts_30.2.2.2.2.1
theorem dX1_put_84 : decode cX1_put 84 = .ok (.getfield 24, 3) := zy_b06debts_30.2.2.2.2.2.1
theorem dX1_put_87 : decode cX1_put 87 = .ok (.iload_n 2, 1) := zy_b06debts_30.2.2.2.2.2.2.1
theorem dX1_put_88 : decode cX1_put 88 = .ok (.iastore, 1) := zy_b06debts_30.2.2.2.2.2.2.2
theorem zy_b06debts_31 : decode cX1_put 89 = .ok (.aload_n 0, 1) ∧ decode cX1_put 90 = .ok (.getfield 18, 3) ∧ decode cX1_put 93 = .ok (.aload_n 0, 1) ∧ decode cX1_put 94 = .ok (.getfield 24, 3) ∧ decode cX1_put 97 = .ok (.iload_n 3, 1) ∧ decode cX1_put 98 = .ok (.iastore, 1) ∧ decode cX1_put 99 = .ok (.aload_n 0, 1) ∧ decode cX1_put 100 = .ok (.getfield 21, 3) := by decide +kernel
theorem dX1_put_89 : decode cX1_put 89 = .ok (.aload_n 0, 1) := zy_b06debts_31.1
theorem dX1_put_90 : decode cX1_put 90 = .ok (.getfield 18, 3) := zy_b06debts_31.2.1
theorem dX1_put_93 : decode cX1_put 93 = .ok (.aload_n 0, 1) := zy_b06debts_31.2.2.1
theorem dX1_put_94 : decode cX1_put 94 = .ok (.getfield 24, 3) := zy_b06debts_31.2.2.2.1
theorem dX1_put_97 : decode cX1_put 97 = .ok (.iload_n 3, 1) := zy_b06debts_31.2.2.2.2.1
theorem dX1_put_98 : decode cX1_put 98 = .ok (.iastore, 1) := zy_b06debts_31.2.2.2.2.2.1
theorem dX1_put_99 : decode cX1_put 99 = .ok (.aload_n 0, 1) := zy_b06debts_31.2.2.2.2.2.2.1
theorem dX1_put_100 : decode cX1_put 100 = .ok (.getfield 21, 3) := zy_b06debts_31.2.2.2.2.2.2.2
theorem zy_b06debts_32 : decode cX1_put 103 = .ok (.aload_n 0, 1) ∧ decode cX1_put 104 = .ok (.getfield 24, 3) ∧ decode cX1_put 107 = .ok (.iload 4, 2) ∧ decode cX1_put 109 = .ok (.iastore, 1) ∧ decode cX1_put 110 = .ok (.aload_n 0, 1) ∧ decode cX1_put 111 = .ok (.dup, 1) ∧ decode cX1_put 112 = .ok (.getfield 24, 3) ∧ decode cX1_put 115 = .ok (.iconst 1, 1) := by decide +kernel
theorem dX1_put_103 : decode cX1_put 103 = .ok (.aload_n 0, 1) := zy_b06debts_32.1
theorem dX1_put_104 : decode cX1_put 104 = .ok (.getfield 24, 3) := zy_b06debts_32.2.1
theorem dX1_put_107 : decode cX1_put 107 = .ok (.iload 4, 2) := zy_b06debts_32.2.2.1
theorem dX1_put_109 : decode cX1_put 109 = .ok (.iastore, 1) := zy_b06debts_32.2.2.2.1
theorem dX1_put_110 : decode cX1_put 110 = .ok (.aload_n 0, 1) := zy_b06debts_32.2.2.2.2.1
theorem dX1_put_111 : decode cX1_put 111 = .ok (.dup, 1) := zy_b06debts_32.2.2.2.2.2.1
theorem dX1_put_112 : decode cX1_put 112 = .ok (.getfield 24, 3) := zy_b06debts_32.2.2.2.2.2.2.1
theorem dX1_put_115 : decode cX1_put 115 = .ok (.iconst 1, 1) := zy_b06debts_32.2.2.2.2.2.2.2
theorem zy_b06debts_33 : decode cX1_put 116 = .ok (.iadd, 1) ∧ decode cX1_put 117 = .ok (.putfield 24, 3) ∧ decode cX1_put 120 = .ok (.return_, 1) := by decide +kernel
theorem dX1_put_116 : decode cX1_put 116 = .ok (.iadd, 1) := zy_b06debts_33.1
theorem dX1_put_117 : decode cX1_put 117 = .ok (.putfield 24, 3) := zy_b06debts_33.2.1
theorem dX1_put_120 : decode cX1_put 120 = .ok (.return_, 1) := zy_b06debts_33.2.2
