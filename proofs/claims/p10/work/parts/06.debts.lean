theorem tw_12 : Cond.fieldLink RX1 9 "HandsReturned$Debts" "owers" "[I" ∈ zz_all := zz_m1 159 rfl rfl
theorem tw_13 : Cond.fieldLink RX1 15 "HandsReturned$Debts" "claimers" "[I" ∈ zz_all := zz_m1 162 rfl rfl
theorem tw_14 : Cond.fieldLink RX1 24 "HandsReturned$Debts" "count" "I" ∈ zz_all := zz_m1 169 rfl rfl
theorem tw_15 : Cond.code yX1_isOf cX1_isOf 4 (some .boolean) ∈ zz_all := zz_m3 3 rfl rfl
theorem tw_16 : Cond.initialized RX1 ∈ zz_all := zz_m1 7 rfl rfl
theorem tw_17 : Cond.methodLink RX1 28 yX1_isOf ∈ zz_all := zz_m3 0 rfl rfl
theorem tw_18 : Cond.instanceMethod yX1_isOf ∈ zz_all := zz_m3 2 rfl rfl
theorem tw_19 : Cond.selects RX1 yX1_isOf yX1_isOf ∈ zz_all := zz_ms 13 rfl rfl
theorem tw_20 : Cond.fieldLink RX1 21 "HandsReturned$Debts" "units" "[I" ∈ zz_all := zz_m1 166 rfl rfl
theorem tw_21 : Cond.fieldLink RX1 18 "HandsReturned$Debts" "since" "[I" ∈ zz_all := zz_m1 164 rfl rfl
theorem tw_22 : Cond.code yX1_dropEmpty cX1_dropEmpty 3 none ∈ zz_all := zz_m3 8 rfl rfl
theorem tw_23 : Cond.methodLink RX1 38 yX1_dropEmpty ∈ zz_all := zz_m3 5 rfl rfl
theorem tw_24 : Cond.instanceMethod yX1_dropEmpty ∈ zz_all := zz_m3 7 rfl rfl
theorem tw_25 : Cond.selects RX1 yX1_dropEmpty yX1_dropEmpty ∈ zz_all := zz_ms 14 rfl rfl
theorem tw_26 : Cond.methodLink RX1 32 Lib.Math.min.name ∈ zz_all := zz_m3 4 rfl rfl
theorem tw_27 : Cond.static Lib.Math.min.name ∈ zz_all := zz_m2 192 rfl rfl
theorem tw_28 : Cond.initialized "java/lang/Math" ∈ zz_all := zz_m1 15 rfl rfl
theorem tw_29 : Cond.code Lib.Math.min.name Lib.Math.min.code 2 (some .int) ∈ zz_all := zz_m2 193 rfl rfl
theorem dX1_isOf_0 : decode cX1_isOf 0 = .ok (.aload_n 0, 1) := by decide +kernel
theorem dX1_isOf_1 : decode cX1_isOf 1 = .ok (.getfield 9, 3) := by decide +kernel
theorem dX1_isOf_4 : decode cX1_isOf 4 = .ok (.iload_n 1, 1) := by decide +kernel
theorem dX1_isOf_5 : decode cX1_isOf 5 = .ok (.iaload, 1) := by decide +kernel
theorem dX1_isOf_6 : decode cX1_isOf 6 = .ok (.iload_n 2, 1) := by decide +kernel
theorem dX1_isOf_7 : decode cX1_isOf 7 = .ok (.if_icmp .ne 17, 3) := by decide +kernel
theorem dX1_isOf_10 : decode cX1_isOf 10 = .ok (.aload_n 0, 1) := by decide +kernel
theorem dX1_isOf_11 : decode cX1_isOf 11 = .ok (.getfield 15, 3) := by decide +kernel
theorem dX1_isOf_14 : decode cX1_isOf 14 = .ok (.iload_n 1, 1) := by decide +kernel
theorem dX1_isOf_15 : decode cX1_isOf 15 = .ok (.iaload, 1) := by decide +kernel
theorem dX1_isOf_16 : decode cX1_isOf 16 = .ok (.iload_n 3, 1) := by decide +kernel
theorem dX1_isOf_17 : decode cX1_isOf 17 = .ok (.if_icmp .ne 7, 3) := by decide +kernel
theorem dX1_isOf_20 : decode cX1_isOf 20 = .ok (.iconst 1, 1) := by decide +kernel
theorem dX1_isOf_21 : decode cX1_isOf 21 = .ok (.goto 4, 3) := by decide +kernel
theorem dX1_isOf_24 : decode cX1_isOf 24 = .ok (.iconst 0, 1) := by decide +kernel
theorem dX1_isOf_25 : decode cX1_isOf 25 = .ok (.ireturn, 1) := by decide +kernel
theorem dX1_unitsOwed_0 : decode cX1_unitsOwed 0 = .ok (.iconst 0, 1) := by decide +kernel
theorem dX1_unitsOwed_1 : decode cX1_unitsOwed 1 = .ok (.istore_n 3, 1) := by decide +kernel
theorem dX1_unitsOwed_2 : decode cX1_unitsOwed 2 = .ok (.iconst 0, 1) := by decide +kernel
theorem dX1_unitsOwed_3 : decode cX1_unitsOwed 3 = .ok (.istore 4, 2) := by decide +kernel
theorem dX1_unitsOwed_5 : decode cX1_unitsOwed 5 = .ok (.iload 4, 2) := by decide +kernel
theorem dX1_unitsOwed_7 : decode cX1_unitsOwed 7 = .ok (.aload_n 0, 1) := by decide +kernel
theorem dX1_unitsOwed_8 : decode cX1_unitsOwed 8 = .ok (.getfield 24, 3) := by decide +kernel
theorem dX1_unitsOwed_11 : decode cX1_unitsOwed 11 = .ok (.if_icmp .ge 30, 3) := by decide +kernel
theorem dX1_unitsOwed_14 : decode cX1_unitsOwed 14 = .ok (.aload_n 0, 1) := by decide +kernel
theorem dX1_unitsOwed_15 : decode cX1_unitsOwed 15 = .ok (.iload 4, 2) := by decide +kernel
theorem dX1_unitsOwed_17 : decode cX1_unitsOwed 17 = .ok (.iload_n 1, 1) := by decide +kernel
theorem dX1_unitsOwed_18 : decode cX1_unitsOwed 18 = .ok (.iload_n 2, 1) := by decide +kernel
theorem dX1_unitsOwed_19 : decode cX1_unitsOwed 19 = .ok (.invokevirtual 28, 3) := by decide +kernel
theorem dX1_unitsOwed_22 : decode cX1_unitsOwed 22 = .ok (.ifCond .eq 13, 3) := by decide +kernel
theorem dX1_unitsOwed_25 : decode cX1_unitsOwed 25 = .ok (.iload_n 3, 1) := by decide +kernel
theorem dX1_unitsOwed_26 : decode cX1_unitsOwed 26 = .ok (.aload_n 0, 1) := by decide +kernel
theorem dX1_unitsOwed_27 : decode cX1_unitsOwed 27 = .ok (.getfield 21, 3) := by decide +kernel
theorem dX1_unitsOwed_30 : decode cX1_unitsOwed 30 = .ok (.iload 4, 2) := by decide +kernel
theorem dX1_unitsOwed_32 : decode cX1_unitsOwed 32 = .ok (.iaload, 1) := by decide +kernel
theorem dX1_unitsOwed_33 : decode cX1_unitsOwed 33 = .ok (.iadd, 1) := by decide +kernel
theorem dX1_unitsOwed_34 : decode cX1_unitsOwed 34 = .ok (.istore_n 3, 1) := by decide +kernel
theorem dX1_unitsOwed_35 : decode cX1_unitsOwed 35 = .ok (.iinc 4 1, 3) := by decide +kernel
theorem dX1_unitsOwed_38 : decode cX1_unitsOwed 38 = .ok (.goto (-33), 3) := by decide +kernel
theorem dX1_unitsOwed_41 : decode cX1_unitsOwed 41 = .ok (.iload_n 3, 1) := by decide +kernel
theorem dX1_unitsOwed_42 : decode cX1_unitsOwed 42 = .ok (.ireturn, 1) := by decide +kernel
theorem dX1_firstDay_0 : decode cX1_firstDay 0 = .ok (.iconst 0, 1) := by decide +kernel
theorem dX1_firstDay_1 : decode cX1_firstDay 1 = .ok (.istore_n 3, 1) := by decide +kernel
theorem dX1_firstDay_2 : decode cX1_firstDay 2 = .ok (.iload_n 3, 1) := by decide +kernel
theorem dX1_firstDay_3 : decode cX1_firstDay 3 = .ok (.aload_n 0, 1) := by decide +kernel
theorem dX1_firstDay_4 : decode cX1_firstDay 4 = .ok (.getfield 24, 3) := by decide +kernel
theorem dX1_firstDay_7 : decode cX1_firstDay 7 = .ok (.if_icmp .ge 26, 3) := by decide +kernel
theorem dX1_firstDay_10 : decode cX1_firstDay 10 = .ok (.aload_n 0, 1) := by decide +kernel
theorem dX1_firstDay_11 : decode cX1_firstDay 11 = .ok (.iload_n 3, 1) := by decide +kernel
theorem dX1_firstDay_12 : decode cX1_firstDay 12 = .ok (.iload_n 1, 1) := by decide +kernel
theorem dX1_firstDay_13 : decode cX1_firstDay 13 = .ok (.iload_n 2, 1) := by decide +kernel
theorem dX1_firstDay_14 : decode cX1_firstDay 14 = .ok (.invokevirtual 28, 3) := by decide +kernel
theorem dX1_firstDay_17 : decode cX1_firstDay 17 = .ok (.ifCond .eq 10, 3) := by decide +kernel
theorem dX1_firstDay_20 : decode cX1_firstDay 20 = .ok (.aload_n 0, 1) := by decide +kernel
theorem dX1_firstDay_21 : decode cX1_firstDay 21 = .ok (.getfield 18, 3) := by decide +kernel
theorem dX1_firstDay_24 : decode cX1_firstDay 24 = .ok (.iload_n 3, 1) := by decide +kernel
theorem dX1_firstDay_25 : decode cX1_firstDay 25 = .ok (.iaload, 1) := by decide +kernel
theorem dX1_firstDay_26 : decode cX1_firstDay 26 = .ok (.ireturn, 1) := by decide +kernel
theorem dX1_firstDay_27 : decode cX1_firstDay 27 = .ok (.iinc 3 1, 3) := by decide +kernel
theorem dX1_firstDay_30 : decode cX1_firstDay 30 = .ok (.goto (-28), 3) := by decide +kernel
theorem dX1_firstDay_33 : decode cX1_firstDay 33 = .ok (.iconst (-1), 1) := by decide +kernel
theorem dX1_firstDay_34 : decode cX1_firstDay 34 = .ok (.ireturn, 1) := by decide +kernel
theorem dX1_net_0 : decode cX1_net 0 = .ok (.iconst 0, 1) := by decide +kernel
theorem dX1_net_1 : decode cX1_net 1 = .ok (.istore_n 2, 1) := by decide +kernel
theorem dX1_net_2 : decode cX1_net 2 = .ok (.iconst 0, 1) := by decide +kernel
theorem dX1_net_3 : decode cX1_net 3 = .ok (.istore_n 3, 1) := by decide +kernel
theorem dX1_net_4 : decode cX1_net 4 = .ok (.iload_n 3, 1) := by decide +kernel
theorem dX1_net_5 : decode cX1_net 5 = .ok (.aload_n 0, 1) := by decide +kernel
theorem dX1_net_6 : decode cX1_net 6 = .ok (.getfield 24, 3) := by decide +kernel
theorem dX1_net_9 : decode cX1_net 9 = .ok (.if_icmp .ge 50, 3) := by decide +kernel
theorem dX1_net_12 : decode cX1_net 12 = .ok (.aload_n 0, 1) := by decide +kernel
theorem dX1_net_13 : decode cX1_net 13 = .ok (.getfield 15, 3) := by decide +kernel
theorem dX1_net_16 : decode cX1_net 16 = .ok (.iload_n 3, 1) := by decide +kernel
theorem dX1_net_17 : decode cX1_net 17 = .ok (.iaload, 1) := by decide +kernel
theorem dX1_net_18 : decode cX1_net 18 = .ok (.iload_n 1, 1) := by decide +kernel
theorem dX1_net_19 : decode cX1_net 19 = .ok (.if_icmp .ne 15, 3) := by decide +kernel
theorem dX1_net_22 : decode cX1_net 22 = .ok (.iload_n 2, 1) := by decide +kernel
theorem dX1_net_23 : decode cX1_net 23 = .ok (.aload_n 0, 1) := by decide +kernel
theorem dX1_net_24 : decode cX1_net 24 = .ok (.getfield 21, 3) := by decide +kernel
theorem dX1_net_27 : decode cX1_net 27 = .ok (.iload_n 3, 1) := by decide +kernel
theorem dX1_net_28 : decode cX1_net 28 = .ok (.iaload, 1) := by decide +kernel
theorem dX1_net_29 : decode cX1_net 29 = .ok (.iadd, 1) := by decide +kernel
theorem dX1_net_30 : decode cX1_net 30 = .ok (.istore_n 2, 1) := by decide +kernel
theorem dX1_net_31 : decode cX1_net 31 = .ok (.goto 22, 3) := by decide +kernel
theorem dX1_net_34 : decode cX1_net 34 = .ok (.aload_n 0, 1) := by decide +kernel
theorem dX1_net_35 : decode cX1_net 35 = .ok (.getfield 9, 3) := by decide +kernel
theorem dX1_net_38 : decode cX1_net 38 = .ok (.iload_n 3, 1) := by decide +kernel
theorem dX1_net_39 : decode cX1_net 39 = .ok (.iaload, 1) := by decide +kernel
theorem dX1_net_40 : decode cX1_net 40 = .ok (.iload_n 1, 1) := by decide +kernel
theorem dX1_net_41 : decode cX1_net 41 = .ok (.if_icmp .ne 12, 3) := by decide +kernel
theorem dX1_net_44 : decode cX1_net 44 = .ok (.iload_n 2, 1) := by decide +kernel
theorem dX1_net_45 : decode cX1_net 45 = .ok (.aload_n 0, 1) := by decide +kernel
theorem dX1_net_46 : decode cX1_net 46 = .ok (.getfield 21, 3) := by decide +kernel
theorem dX1_net_49 : decode cX1_net 49 = .ok (.iload_n 3, 1) := by decide +kernel
theorem dX1_net_50 : decode cX1_net 50 = .ok (.iaload, 1) := by decide +kernel
theorem dX1_net_51 : decode cX1_net 51 = .ok (.isub, 1) := by decide +kernel
theorem dX1_net_52 : decode cX1_net 52 = .ok (.istore_n 2, 1) := by decide +kernel
theorem dX1_net_53 : decode cX1_net 53 = .ok (.iinc 3 1, 3) := by decide +kernel
theorem dX1_net_56 : decode cX1_net 56 = .ok (.goto (-52), 3) := by decide +kernel
theorem dX1_net_59 : decode cX1_net 59 = .ok (.iload_n 2, 1) := by decide +kernel
theorem dX1_net_60 : decode cX1_net 60 = .ok (.ireturn, 1) := by decide +kernel
theorem dX1_dropEmpty_0 : decode cX1_dropEmpty 0 = .ok (.iconst 0, 1) := by decide +kernel
theorem dX1_dropEmpty_1 : decode cX1_dropEmpty 1 = .ok (.istore_n 1, 1) := by decide +kernel
theorem dX1_dropEmpty_2 : decode cX1_dropEmpty 2 = .ok (.iconst 0, 1) := by decide +kernel
theorem dX1_dropEmpty_3 : decode cX1_dropEmpty 3 = .ok (.istore_n 2, 1) := by decide +kernel
theorem dX1_dropEmpty_4 : decode cX1_dropEmpty 4 = .ok (.iload_n 2, 1) := by decide +kernel
theorem dX1_dropEmpty_5 : decode cX1_dropEmpty 5 = .ok (.aload_n 0, 1) := by decide +kernel
theorem dX1_dropEmpty_6 : decode cX1_dropEmpty 6 = .ok (.getfield 24, 3) := by decide +kernel
theorem dX1_dropEmpty_9 : decode cX1_dropEmpty 9 = .ok (.if_icmp .ge 69, 3) := by decide +kernel
theorem dX1_dropEmpty_12 : decode cX1_dropEmpty 12 = .ok (.aload_n 0, 1) := by decide +kernel
theorem dX1_dropEmpty_13 : decode cX1_dropEmpty 13 = .ok (.getfield 21, 3) := by decide +kernel
theorem dX1_dropEmpty_16 : decode cX1_dropEmpty 16 = .ok (.iload_n 2, 1) := by decide +kernel
theorem dX1_dropEmpty_17 : decode cX1_dropEmpty 17 = .ok (.iaload, 1) := by decide +kernel
theorem dX1_dropEmpty_18 : decode cX1_dropEmpty 18 = .ok (.ifCond .le 54, 3) := by decide +kernel
theorem dX1_dropEmpty_21 : decode cX1_dropEmpty 21 = .ok (.aload_n 0, 1) := by decide +kernel
theorem dX1_dropEmpty_22 : decode cX1_dropEmpty 22 = .ok (.getfield 9, 3) := by decide +kernel
theorem dX1_dropEmpty_25 : decode cX1_dropEmpty 25 = .ok (.iload_n 1, 1) := by decide +kernel
theorem dX1_dropEmpty_26 : decode cX1_dropEmpty 26 = .ok (.aload_n 0, 1) := by decide +kernel
theorem dX1_dropEmpty_27 : decode cX1_dropEmpty 27 = .ok (.getfield 9, 3) := by decide +kernel
theorem dX1_dropEmpty_30 : decode cX1_dropEmpty 30 = .ok (.iload_n 2, 1) := by decide +kernel
theorem dX1_dropEmpty_31 : decode cX1_dropEmpty 31 = .ok (.iaload, 1) := by decide +kernel
theorem dX1_dropEmpty_32 : decode cX1_dropEmpty 32 = .ok (.iastore, 1) := by decide +kernel
theorem dX1_dropEmpty_33 : decode cX1_dropEmpty 33 = .ok (.aload_n 0, 1) := by decide +kernel
theorem dX1_dropEmpty_34 : decode cX1_dropEmpty 34 = .ok (.getfield 15, 3) := by decide +kernel
theorem dX1_dropEmpty_37 : decode cX1_dropEmpty 37 = .ok (.iload_n 1, 1) := by decide +kernel
theorem dX1_dropEmpty_38 : decode cX1_dropEmpty 38 = .ok (.aload_n 0, 1) := by decide +kernel
theorem dX1_dropEmpty_39 : decode cX1_dropEmpty 39 = .ok (.getfield 15, 3) := by decide +kernel
theorem dX1_dropEmpty_42 : decode cX1_dropEmpty 42 = .ok (.iload_n 2, 1) := by decide +kernel
theorem dX1_dropEmpty_43 : decode cX1_dropEmpty 43 = .ok (.iaload, 1) := by decide +kernel
theorem dX1_dropEmpty_44 : decode cX1_dropEmpty 44 = .ok (.iastore, 1) := by decide +kernel
theorem dX1_dropEmpty_45 : decode cX1_dropEmpty 45 = .ok (.aload_n 0, 1) := by decide +kernel
theorem dX1_dropEmpty_46 : decode cX1_dropEmpty 46 = .ok (.getfield 18, 3) := by decide +kernel
theorem dX1_dropEmpty_49 : decode cX1_dropEmpty 49 = .ok (.iload_n 1, 1) := by decide +kernel
theorem dX1_dropEmpty_50 : decode cX1_dropEmpty 50 = .ok (.aload_n 0, 1) := by decide +kernel
theorem dX1_dropEmpty_51 : decode cX1_dropEmpty 51 = .ok (.getfield 18, 3) := by decide +kernel
theorem dX1_dropEmpty_54 : decode cX1_dropEmpty 54 = .ok (.iload_n 2, 1) := by decide +kernel
theorem dX1_dropEmpty_55 : decode cX1_dropEmpty 55 = .ok (.iaload, 1) := by decide +kernel
theorem dX1_dropEmpty_56 : decode cX1_dropEmpty 56 = .ok (.iastore, 1) := by decide +kernel
theorem dX1_dropEmpty_57 : decode cX1_dropEmpty 57 = .ok (.aload_n 0, 1) := by decide +kernel
theorem dX1_dropEmpty_58 : decode cX1_dropEmpty 58 = .ok (.getfield 21, 3) := by decide +kernel
theorem dX1_dropEmpty_61 : decode cX1_dropEmpty 61 = .ok (.iload_n 1, 1) := by decide +kernel
theorem dX1_dropEmpty_62 : decode cX1_dropEmpty 62 = .ok (.aload_n 0, 1) := by decide +kernel
theorem dX1_dropEmpty_63 : decode cX1_dropEmpty 63 = .ok (.getfield 21, 3) := by decide +kernel
theorem dX1_dropEmpty_66 : decode cX1_dropEmpty 66 = .ok (.iload_n 2, 1) := by decide +kernel
theorem dX1_dropEmpty_67 : decode cX1_dropEmpty 67 = .ok (.iaload, 1) := by decide +kernel
theorem dX1_dropEmpty_68 : decode cX1_dropEmpty 68 = .ok (.iastore, 1) := by decide +kernel
theorem dX1_dropEmpty_69 : decode cX1_dropEmpty 69 = .ok (.iinc 1 1, 3) := by decide +kernel
theorem dX1_dropEmpty_72 : decode cX1_dropEmpty 72 = .ok (.iinc 2 1, 3) := by decide +kernel
theorem dX1_dropEmpty_75 : decode cX1_dropEmpty 75 = .ok (.goto (-71), 3) := by decide +kernel
theorem dX1_dropEmpty_78 : decode cX1_dropEmpty 78 = .ok (.aload_n 0, 1) := by decide +kernel
theorem dX1_dropEmpty_79 : decode cX1_dropEmpty 79 = .ok (.iload_n 1, 1) := by decide +kernel
theorem dX1_dropEmpty_80 : decode cX1_dropEmpty 80 = .ok (.putfield 24, 3) := by decide +kernel
theorem dX1_dropEmpty_83 : decode cX1_dropEmpty 83 = .ok (.return_, 1) := by decide +kernel
theorem dX1_lessen_0 : decode cX1_lessen 0 = .ok (.iload_n 3, 1) := by decide +kernel
theorem dX1_lessen_1 : decode cX1_lessen 1 = .ok (.istore 4, 2) := by decide +kernel
theorem dX1_lessen_3 : decode cX1_lessen 3 = .ok (.iconst 0, 1) := by decide +kernel
theorem dX1_lessen_4 : decode cX1_lessen 4 = .ok (.istore 5, 2) := by decide +kernel
theorem dX1_lessen_6 : decode cX1_lessen 6 = .ok (.iload 5, 2) := by decide +kernel
theorem dX1_lessen_8 : decode cX1_lessen 8 = .ok (.aload_n 0, 1) := by decide +kernel
theorem dX1_lessen_9 : decode cX1_lessen 9 = .ok (.getfield 24, 3) := by decide +kernel
theorem dX1_lessen_12 : decode cX1_lessen 12 = .ok (.if_icmp .ge 58, 3) := by decide +kernel
theorem dX1_lessen_15 : decode cX1_lessen 15 = .ok (.iload 4, 2) := by decide +kernel
theorem dX1_lessen_17 : decode cX1_lessen 17 = .ok (.ifCond .le 53, 3) := by decide +kernel
theorem dX1_lessen_20 : decode cX1_lessen 20 = .ok (.aload_n 0, 1) := by decide +kernel
theorem dX1_lessen_21 : decode cX1_lessen 21 = .ok (.iload 5, 2) := by decide +kernel
theorem dX1_lessen_23 : decode cX1_lessen 23 = .ok (.iload_n 1, 1) := by decide +kernel
theorem dX1_lessen_24 : decode cX1_lessen 24 = .ok (.iload_n 2, 1) := by decide +kernel
theorem dX1_lessen_25 : decode cX1_lessen 25 = .ok (.invokevirtual 28, 3) := by decide +kernel
theorem dX1_lessen_28 : decode cX1_lessen 28 = .ok (.ifCond .eq 36, 3) := by decide +kernel
theorem dX1_lessen_31 : decode cX1_lessen 31 = .ok (.iload 4, 2) := by decide +kernel
theorem dX1_lessen_33 : decode cX1_lessen 33 = .ok (.aload_n 0, 1) := by decide +kernel
theorem dX1_lessen_34 : decode cX1_lessen 34 = .ok (.getfield 21, 3) := by decide +kernel
theorem dX1_lessen_37 : decode cX1_lessen 37 = .ok (.iload 5, 2) := by decide +kernel
theorem dX1_lessen_39 : decode cX1_lessen 39 = .ok (.iaload, 1) := by decide +kernel
theorem dX1_lessen_40 : decode cX1_lessen 40 = .ok (.invokestatic 32, 3) := by decide +kernel
theorem dX1_lessen_43 : decode cX1_lessen 43 = .ok (.istore 6, 2) := by decide +kernel
theorem dX1_lessen_45 : decode cX1_lessen 45 = .ok (.aload_n 0, 1) := by decide +kernel
theorem dX1_lessen_46 : decode cX1_lessen 46 = .ok (.getfield 21, 3) := by decide +kernel
theorem dX1_lessen_49 : decode cX1_lessen 49 = .ok (.iload 5, 2) := by decide +kernel
theorem dX1_lessen_51 : decode cX1_lessen 51 = .ok (.dup2, 1) := by decide +kernel
theorem dX1_lessen_52 : decode cX1_lessen 52 = .ok (.iaload, 1) := by decide +kernel
theorem dX1_lessen_53 : decode cX1_lessen 53 = .ok (.iload 6, 2) := by decide +kernel
theorem dX1_lessen_55 : decode cX1_lessen 55 = .ok (.isub, 1) := by decide +kernel
theorem dX1_lessen_56 : decode cX1_lessen 56 = .ok (.iastore, 1) := by decide +kernel
theorem dX1_lessen_57 : decode cX1_lessen 57 = .ok (.iload 4, 2) := by decide +kernel
theorem dX1_lessen_59 : decode cX1_lessen 59 = .ok (.iload 6, 2) := by decide +kernel
theorem dX1_lessen_61 : decode cX1_lessen 61 = .ok (.isub, 1) := by decide +kernel
theorem dX1_lessen_62 : decode cX1_lessen 62 = .ok (.istore 4, 2) := by decide +kernel
theorem dX1_lessen_64 : decode cX1_lessen 64 = .ok (.iinc 5 1, 3) := by decide +kernel
theorem dX1_lessen_67 : decode cX1_lessen 67 = .ok (.goto (-61), 3) := by decide +kernel
theorem dX1_lessen_70 : decode cX1_lessen 70 = .ok (.aload_n 0, 1) := by decide +kernel
theorem dX1_lessen_71 : decode cX1_lessen 71 = .ok (.invokevirtual 38, 3) := by decide +kernel
theorem dX1_lessen_74 : decode cX1_lessen 74 = .ok (.iload 4, 2) := by decide +kernel
theorem dX1_lessen_76 : decode cX1_lessen 76 = .ok (.ireturn, 1) := by decide +kernel
theorem dX1_put_0 : decode cX1_put 0 = .ok (.iload 4, 2) := by decide +kernel
theorem dX1_put_2 : decode cX1_put 2 = .ok (.ifCond .gt 4, 3) := by decide +kernel
theorem dX1_put_5 : decode cX1_put 5 = .ok (.return_, 1) := by decide +kernel
theorem dX1_put_6 : decode cX1_put 6 = .ok (.iconst 0, 1) := by decide +kernel
theorem dX1_put_7 : decode cX1_put 7 = .ok (.istore 5, 2) := by decide +kernel
theorem dX1_put_9 : decode cX1_put 9 = .ok (.iload 5, 2) := by decide +kernel
theorem dX1_put_11 : decode cX1_put 11 = .ok (.aload_n 0, 1) := by decide +kernel
theorem dX1_put_12 : decode cX1_put 12 = .ok (.getfield 24, 3) := by decide +kernel
theorem dX1_put_15 : decode cX1_put 15 = .ok (.if_icmp .ge 44, 3) := by decide +kernel
theorem dX1_put_18 : decode cX1_put 18 = .ok (.aload_n 0, 1) := by decide +kernel
theorem dX1_put_19 : decode cX1_put 19 = .ok (.iload 5, 2) := by decide +kernel
theorem dX1_put_21 : decode cX1_put 21 = .ok (.iload_n 1, 1) := by decide +kernel
theorem dX1_put_22 : decode cX1_put 22 = .ok (.iload_n 2, 1) := by decide +kernel
theorem dX1_put_23 : decode cX1_put 23 = .ok (.invokevirtual 28, 3) := by decide +kernel
theorem dX1_put_26 : decode cX1_put 26 = .ok (.ifCond .eq 27, 3) := by decide +kernel
theorem dX1_put_29 : decode cX1_put 29 = .ok (.aload_n 0, 1) := by decide +kernel
theorem dX1_put_30 : decode cX1_put 30 = .ok (.getfield 18, 3) := by decide +kernel
theorem dX1_put_33 : decode cX1_put 33 = .ok (.iload 5, 2) := by decide +kernel
theorem dX1_put_35 : decode cX1_put 35 = .ok (.iaload, 1) := by decide +kernel
theorem dX1_put_36 : decode cX1_put 36 = .ok (.iload_n 3, 1) := by decide +kernel
theorem dX1_put_37 : decode cX1_put 37 = .ok (.if_icmp .ne 16, 3) := by decide +kernel
theorem dX1_put_40 : decode cX1_put 40 = .ok (.aload_n 0, 1) := by decide +kernel
theorem dX1_put_41 : decode cX1_put 41 = .ok (.getfield 21, 3) := by decide +kernel
theorem dX1_put_44 : decode cX1_put 44 = .ok (.iload 5, 2) := by decide +kernel
theorem dX1_put_46 : decode cX1_put 46 = .ok (.dup2, 1) := by decide +kernel
theorem dX1_put_47 : decode cX1_put 47 = .ok (.iaload, 1) := by decide +kernel
theorem dX1_put_48 : decode cX1_put 48 = .ok (.iload 4, 2) := by decide +kernel
theorem dX1_put_50 : decode cX1_put 50 = .ok (.iadd, 1) := by decide +kernel
theorem dX1_put_51 : decode cX1_put 51 = .ok (.iastore, 1) := by decide +kernel
theorem dX1_put_52 : decode cX1_put 52 = .ok (.return_, 1) := by decide +kernel
theorem dX1_put_53 : decode cX1_put 53 = .ok (.iinc 5 1, 3) := by decide +kernel
theorem dX1_put_56 : decode cX1_put 56 = .ok (.goto (-47), 3) := by decide +kernel
theorem dX1_put_59 : decode cX1_put 59 = .ok (.aload_n 0, 1) := by decide +kernel
theorem dX1_put_60 : decode cX1_put 60 = .ok (.getfield 24, 3) := by decide +kernel
theorem dX1_put_63 : decode cX1_put 63 = .ok (.sipush 300, 3) := by decide +kernel
theorem dX1_put_66 : decode cX1_put 66 = .ok (.if_icmp .ge 54, 3) := by decide +kernel
theorem dX1_put_69 : decode cX1_put 69 = .ok (.aload_n 0, 1) := by decide +kernel
theorem dX1_put_70 : decode cX1_put 70 = .ok (.getfield 9, 3) := by decide +kernel
theorem dX1_put_73 : decode cX1_put 73 = .ok (.aload_n 0, 1) := by decide +kernel
theorem dX1_put_74 : decode cX1_put 74 = .ok (.getfield 24, 3) := by decide +kernel
theorem dX1_put_77 : decode cX1_put 77 = .ok (.iload_n 1, 1) := by decide +kernel
theorem dX1_put_78 : decode cX1_put 78 = .ok (.iastore, 1) := by decide +kernel
theorem dX1_put_79 : decode cX1_put 79 = .ok (.aload_n 0, 1) := by decide +kernel
theorem dX1_put_80 : decode cX1_put 80 = .ok (.getfield 15, 3) := by decide +kernel
theorem dX1_put_83 : decode cX1_put 83 = .ok (.aload_n 0, 1) := by decide +kernel
theorem dX1_put_84 : decode cX1_put 84 = .ok (.getfield 24, 3) := by decide +kernel
theorem dX1_put_87 : decode cX1_put 87 = .ok (.iload_n 2, 1) := by decide +kernel
theorem dX1_put_88 : decode cX1_put 88 = .ok (.iastore, 1) := by decide +kernel
theorem dX1_put_89 : decode cX1_put 89 = .ok (.aload_n 0, 1) := by decide +kernel
theorem dX1_put_90 : decode cX1_put 90 = .ok (.getfield 18, 3) := by decide +kernel
theorem dX1_put_93 : decode cX1_put 93 = .ok (.aload_n 0, 1) := by decide +kernel
theorem dX1_put_94 : decode cX1_put 94 = .ok (.getfield 24, 3) := by decide +kernel
theorem dX1_put_97 : decode cX1_put 97 = .ok (.iload_n 3, 1) := by decide +kernel
theorem dX1_put_98 : decode cX1_put 98 = .ok (.iastore, 1) := by decide +kernel
theorem dX1_put_99 : decode cX1_put 99 = .ok (.aload_n 0, 1) := by decide +kernel
theorem dX1_put_100 : decode cX1_put 100 = .ok (.getfield 21, 3) := by decide +kernel
theorem dX1_put_103 : decode cX1_put 103 = .ok (.aload_n 0, 1) := by decide +kernel
theorem dX1_put_104 : decode cX1_put 104 = .ok (.getfield 24, 3) := by decide +kernel
theorem dX1_put_107 : decode cX1_put 107 = .ok (.iload 4, 2) := by decide +kernel
theorem dX1_put_109 : decode cX1_put 109 = .ok (.iastore, 1) := by decide +kernel
theorem dX1_put_110 : decode cX1_put 110 = .ok (.aload_n 0, 1) := by decide +kernel
theorem dX1_put_111 : decode cX1_put 111 = .ok (.dup, 1) := by decide +kernel
theorem dX1_put_112 : decode cX1_put 112 = .ok (.getfield 24, 3) := by decide +kernel
theorem dX1_put_115 : decode cX1_put 115 = .ok (.iconst 1, 1) := by decide +kernel
theorem dX1_put_116 : decode cX1_put 116 = .ok (.iadd, 1) := by decide +kernel
theorem dX1_put_117 : decode cX1_put 117 = .ok (.putfield 24, 3) := by decide +kernel
theorem dX1_put_120 : decode cX1_put 120 = .ok (.return_, 1) := by decide +kernel
set_option maxHeartbeats 4000000 in
set_option maxRecDepth 100000 in
theorem k_isOf (l : Launch) (dC : Nat → ClassId) (dI : Nat → Nat → Nat) (a : Nat → Nat) (cI : ClassId) (nd : Nat) (fo : Nat → Int32) (fc : Nat → Int32) (fs : Nat → Int32) (fu : Nat → Int32) (j : Nat) (p1 : Int32) (p2 : Int32) (sz : Nat) (hnd : nd ≤ 300) (hj : j < 300) : Met l yX1_isOf (zz_w yX1_isOf cX1_isOf 4 (some .boolean)) ({ frames := 0, cells := 0, slots := 0, locals := 0 }) (va_Pc [.ref (a 29), .int (nI j), .int p1, .int p2] (zz_B (dC, dI) sz [(a 29, .inr (1, [.ref (a 30), .ref (a 31), .ref (a 32), .ref (a 33), .int (nI nd)])), (a 30, .inl (cI, 300, .inl fo)), (a 31, .inl (cI, 300, .inl fc)), (a 32, .inl (cI, 300, .inl fs)), (a 33, .inl (cI, 300, .inl fu))] [(cI, .int)])) (va_Qi (fun (r : Int32) (_ : Unit) => r = 0 ∨ r = 1) (fun _ _ => True) (va_A [] sz)) 0 0 (va_A [] sz) := by
  refine Met.ofW (cc := cX1_isOf) (maxL := 4) (ret := (some .boolean)) (by decide) rfl ?_
  intro p e s m args below meth c s₁ B hml hv
  obtain ⟨rfl, hsz, hP, hK, hD0, hN⟩ := hv
  have hx := B.exec
  have hb := B.bytes
  have hr := B.returns
  have hts := atoms_spec (ws := zz_w yX1_isOf cX1_isOf 4 (some .boolean)) B.pre
  have hw : ∀ w ∈ zz_all, w.before _ s = true := fun w h => hts w (List.mem_cons_of_mem _ h)
  have hown : s.vm.findClass RX1 = some m.cls := findClass_of_methodNamed B.named
  have hlocks := B.notSynchronized
  subst hsz
  have hD := hD0
  generalize hAe : va_A [] s.heap.size = A
  have hA : ∀ q : Nat, s.heap.size ≤ q → A q := fun q h => by rw [← hAe]; exact Or.inr h
  have hS : va_S A s.heap s.heap [] := va_S.rf
  have hP : va_P (dC, dI) vwCl [(a 29, .inr (1, [.ref (a 30), .ref (a 31), .ref (a 32), .ref (a 33), .int (nI nd)])), (a 30, .inl (cI, 300, .inl fo)), (a 31, .inl (cI, 300, .inl fc)), (a 32, .inl (cI, 300, .inl fs)), (a 33, .inl (cI, 300, .inl fu))] s.heap := hP
  have hl := lv_entry ([.ref (a 29), .int (nI j), .int p1, .int p2]) (n := 4) (Nat.le_of_ble_eq_true rfl)
  rw [lg_entry_eq]
  generalize (lg_sl ([.ref (a 29), .int (nI j), .int p1, .int p2]) ++ List.replicate (4 - (lg_sl ([.ref (a 29), .int (nI j), .int p1, .int p2])).length) Slot.unset).toArray = ls at hl ⊢
  have hl : lv_has ls 4 [(0, .ref (a 29)), (1, .int (nI j)), (2, .int p1), (3, .int p2)] := hl
  refine lv_aload_n hx hb dX1_isOf_0 rfl (lv_at hl 0 rfl) ?_
  refine va_get (D := (dC, dI)) (ci := 1) (v := .ref (a 30)) (C := RX1) (T := TX1) (N := 5) hx hb hw zz_inX1 hown hK hP 0 rfl rfl 0 (by decide) (hw _ tw_12) (fun _ h9 => h9) rfl dX1_isOf_1 ?_
  refine lv_iload_n hx hb dX1_isOf_4 rfl (lv_at hl 1 rfl) ?_
  refine va_iald hx hb hK hP 1 0 rfl rfl (vp_in_iff.mpr (by rw [zz_toInt j (by omega)]; constructor <;> omega)) dX1_isOf_5 ?_
  refine lv_iload_n hx hb dX1_isOf_6 rfl (lv_at hl 2 rfl) ?_
  refine lv_icmp_ne (tgt := 24) hx hb dX1_isOf_7 (by decide) (fun c_1 => ?_) (fun c_1 => ?_)
  · have zc_1 := c_1
    rw [← Int32.toInt_inj] at zc_1
    refine lv_iconst (v := 0) hx hb dX1_isOf_24 (by decide) ?_
    exact W.zret (v := 0) hx hb hr (rfl) (fun t ht hW => ⟨⟨0, (), rfl, Or.inl rfl, trivial⟩, hS.F ht⟩) hS.2.2 dX1_isOf_25
  · have zc_1 := c_1
    rw [← Int32.toInt_inj] at zc_1
    refine lv_aload_n hx hb dX1_isOf_10 rfl (lv_at hl 0 rfl) ?_
    refine va_get (D := (dC, dI)) (ci := 1) (v := .ref (a 31)) (C := RX1) (T := TX1) (N := 5) hx hb hw zz_inX1 hown hK hP 0 rfl rfl 1 (by decide) (hw _ tw_13) (fun _ h9 => h9) rfl dX1_isOf_11 ?_
    refine lv_iload_n hx hb dX1_isOf_14 rfl (lv_at hl 1 rfl) ?_
    refine va_iald hx hb hK hP 2 0 rfl rfl (vp_in_iff.mpr (by rw [zz_toInt j (by omega)]; constructor <;> omega)) dX1_isOf_15 ?_
    refine lv_iload_n hx hb dX1_isOf_16 rfl (lv_at hl 3 rfl) ?_
    refine lv_icmp_ne (tgt := 24) hx hb dX1_isOf_17 (by decide) (fun c_2 => ?_) (fun c_2 => ?_)
    · have zc_2 := c_2
      rw [← Int32.toInt_inj] at zc_2
      refine lv_iconst (v := 0) hx hb dX1_isOf_24 (by decide) ?_
      exact W.zret (v := 0) hx hb hr (rfl) (fun t ht hW => ⟨⟨0, (), rfl, Or.inl rfl, trivial⟩, hS.F ht⟩) hS.2.2 dX1_isOf_25
    · have zc_2 := c_2
      rw [← Int32.toInt_inj] at zc_2
      refine lv_iconst (v := 1) hx hb dX1_isOf_20 (by decide) ?_
      refine lv_goto (tgt := 25) hx hb dX1_isOf_21 (by decide) ?_
      exact W.zret (v := 1) hx hb hr (rfl) (fun t ht hW => ⟨⟨1, (), rfl, Or.inr rfl, trivial⟩, hS.F ht⟩) hS.2.2 dX1_isOf_25

set_option maxHeartbeats 4000000 in
set_option maxRecDepth 100000 in
theorem k_unitsOwed (l : Launch) (dC : Nat → ClassId) (dI : Nat → Nat → Nat) (a : Nat → Nat) (cI : ClassId) (nd : Nat) (fo : Nat → Int32) (fc : Nat → Int32) (fs : Nat → Int32) (fu : Nat → Int32) (p0 : Int32) (p1 : Int32) (sz : Nat) (hnd : nd ≤ 300) : Met l yX1_unitsOwed (zz_w yX1_unitsOwed cX1_unitsOwed 5 (some .int)) ({ frames := 1, cells := 0, slots := 0, locals := 23 }) (va_Pc [.ref (a 29), .int p0, .int p1] (zz_B (dC, dI) sz [(a 29, .inr (1, [.ref (a 30), .ref (a 31), .ref (a 32), .ref (a 33), .int (nI nd)])), (a 30, .inl (cI, 300, .inl fo)), (a 31, .inl (cI, 300, .inl fc)), (a 32, .inl (cI, 300, .inl fs)), (a 33, .inl (cI, 300, .inl fu))] [(cI, .int)])) (va_Qi (fun (_ : Int32) (_ : Unit) => True) (fun _ _ => True) (va_A [] sz)) 0 0 (va_A [] sz) := by
  refine Met.ofW (cc := cX1_unitsOwed) (maxL := 5) (ret := (some .int)) (by decide) rfl ?_
  intro p e s m args below meth c s₁ B hml hv
  obtain ⟨rfl, hsz, hP, hK, hD0, hN⟩ := hv
  have hx := B.exec
  have hb := B.bytes
  have hr := B.returns
  have hts := atoms_spec (ws := zz_w yX1_unitsOwed cX1_unitsOwed 5 (some .int)) B.pre
  have hw : ∀ w ∈ zz_all, w.before _ s = true := fun w h => hts w (List.mem_cons_of_mem _ h)
  have hown : s.vm.findClass RX1 = some m.cls := findClass_of_methodNamed B.named
  have hlocks := B.notSynchronized
  subst hsz
  have hD := hD0
  generalize hAe : va_A [] s.heap.size = A
  have hA : ∀ q : Nat, s.heap.size ≤ q → A q := fun q h => by rw [← hAe]; exact Or.inr h
  have hS : va_S A s.heap s.heap [] := va_S.rf
  have hP : va_P (dC, dI) vwCl [(a 29, .inr (1, [.ref (a 30), .ref (a 31), .ref (a 32), .ref (a 33), .int (nI nd)])), (a 30, .inl (cI, 300, .inl fo)), (a 31, .inl (cI, 300, .inl fc)), (a 32, .inl (cI, 300, .inl fs)), (a 33, .inl (cI, 300, .inl fu))] s.heap := hP
  have hl := lv_entry ([.ref (a 29), .int p0, .int p1]) (n := 5) (Nat.le_of_ble_eq_true rfl)
  rw [lg_entry_eq]
  generalize (lg_sl ([.ref (a 29), .int p0, .int p1]) ++ List.replicate (5 - (lg_sl ([.ref (a 29), .int p0, .int p1])).length) Slot.unset).toArray = ls at hl ⊢
  have hl : lv_has ls 5 [(0, .ref (a 29)), (1, .int p0), (2, .int p1)] := hl
  refine lv_iconst (v := 0) hx hb dX1_unitsOwed_0 (by decide) ?_
  refine lv_istore_n (lv' := [(3, .int 0), (0, .ref (a 29)), (1, .int p0), (2, .int p1)]) hx hb dX1_unitsOwed_1 rfl hl (by decide) rfl (fun ls hl => ?_)
  refine lv_iconst (v := 0) hx hb dX1_unitsOwed_2 (by decide) ?_
  refine lv_istore (lv' := [(4, .int 0), (3, .int 0), (0, .ref (a 29)), (1, .int p0), (2, .int p1)]) hx hb dX1_unitsOwed_3 hl (by decide) rfl (fun ls hl => ?_)
  refine zz_loopS (fun (u : (Nat) × (Int32)) => match u with | (j, y) => [(a 29, .inr (1, [.ref (a 30), .ref (a 31), .ref (a 32), .ref (a 33), .int (nI nd)])), (a 30, .inl (cI, 300, .inl fo)), (a 31, .inl (cI, 300, .inl fc)), (a 32, .inl (cI, 300, .inl fs)), (a 33, .inl (cI, 300, .inl fu))]) (fun (u : (Nat) × (Int32)) => match u with | (j, y) => [(0, .ref (a 29)), (1, .int p0), (2, .int p1), (3, .int y), (4, .int (nI j))]) (fun (u : (Nat) × (Int32)) => match u with | (j, y) => j ≤ nd) (fun (u : (Nat) × (Int32)) => match u with | (j, y) => nd - j) (fun u hI H locs ls hP hD hS hl ih_5 => ?_) (0, 0) (show 0 ≤ nd from by omega) _ _ _ (hP.sub [0, 1, 2, 3, 4] rfl) (hD.sub [0, 1, 2, 3, 4] (by decide) rfl) hS (lv_sub hl [2, 3, 4, 1, 0] rfl)
  obtain ⟨j, y⟩ := u
  have hP : va_P (dC, dI) vwCl [(a 29, .inr (1, [.ref (a 30), .ref (a 31), .ref (a 32), .ref (a 33), .int (nI nd)])), (a 30, .inl (cI, 300, .inl fo)), (a 31, .inl (cI, 300, .inl fc)), (a 32, .inl (cI, 300, .inl fs)), (a 33, .inl (cI, 300, .inl fu))] H := hP
  have hD : va_D (fun _ => True) [(a 29, .inr (1, [.ref (a 30), .ref (a 31), .ref (a 32), .ref (a 33), .int (nI nd)])), (a 30, .inl (cI, 300, .inl fo)), (a 31, .inl (cI, 300, .inl fc)), (a 32, .inl (cI, 300, .inl fs)), (a 33, .inl (cI, 300, .inl fu))] := hD
  have hl : lv_has ls 5 [(0, .ref (a 29)), (1, .int p0), (2, .int p1), (3, .int y), (4, .int (nI j))] := hl
  have hI : j ≤ nd := hI
  have ij := hI
  refine lv_iload hx hb dX1_unitsOwed_5 (lv_at hl 4 rfl) ?_
  refine lv_aload_n hx hb dX1_unitsOwed_7 rfl (lv_at hl 0 rfl) ?_
  refine va_get (D := (dC, dI)) (ci := 1) (v := .int (nI nd)) (C := RX1) (T := TX1) (N := 5) hx hb hw zz_inX1 hown hK hP 0 rfl rfl 4 (by decide) (hw _ tw_14) (fun _ h9 => h9) rfl dX1_unitsOwed_8 ?_
  refine lv_icmp_ge (tgt := 41) hx hb dX1_unitsOwed_11 (by decide) (fun c_1 => ?_) (fun c_1 => ?_)
  · have zc_1 := c_1
    rw [Int32.le_iff_toInt_le] at zc_1
    try rw [zz_toInt j (by omega)] at zc_1
    try rw [zz_toInt nd (by omega)] at zc_1
    refine lv_iload_n hx hb dX1_unitsOwed_41 rfl (lv_at hl 3 rfl) ?_
    exact W.iret (v := y) hx hb hr (fun t ht hW => ⟨⟨y, (), rfl, trivial, trivial⟩, hS.F ht⟩) hS.2.2 dX1_unitsOwed_42
  · have zc_1 := c_1
    rw [Int32.le_iff_toInt_le] at zc_1
    try rw [zz_toInt j (by omega)] at zc_1
    try rw [zz_toInt nd (by omega)] at zc_1
    refine lv_aload_n hx hb dX1_unitsOwed_14 rfl (lv_at hl 0 rfl) ?_
    refine lv_iload hx hb dX1_unitsOwed_15 (lv_at hl 4 rfl) ?_
    refine lv_iload_n hx hb dX1_unitsOwed_17 rfl (lv_at hl 1 rfl) ?_
    refine lv_iload_n hx hb dX1_unitsOwed_18 rfl (lv_at hl 2 rfl) ?_
    have hPc := hP.sub (ws' := [(a 29, .inr (1, [.ref (a 30), .ref (a 31), .ref (a 32), .ref (a 33), .int (nI nd)])), (a 30, .inl (cI, 300, .inl fo)), (a 31, .inl (cI, 300, .inl fc)), (a 32, .inl (cI, 300, .inl fs)), (a 33, .inl (cI, 300, .inl fu))]) [0, 1, 2, 3, 4] rfl
    have hDc := hD.sub (ws' := [(a 29, .inr (1, [.ref (a 30), .ref (a 31), .ref (a 32), .ref (a 33), .int (nI nd)])), (a 30, .inl (cI, 300, .inl fo)), (a 31, .inl (cI, 300, .inl fc)), (a 32, .inl (cI, 300, .inl fs)), (a 33, .inl (cI, 300, .inl fu))]) [0, 1, 2, 3, 4] (by decide) rfl
    have hKc := hK.sub (tys' := [(cI, .int)]) [0] rfl
    have hFc := zz_free0 hS hA
    refine va_calli (va_runV (As := [.int (nI j), .int p0, .int p1]) (rest := []) ⟨hx, hb, hml, hown, hw⟩ (k_isOf l dC dI a cI nd fo fc fs fu j p0 p1 H.size (by omega) (by omega)) ⟨callB_of 3 hw (zz_good tw_15) rfl rfl rfl (hw _ tw_16) (hw _ tw_17) (by decide +kernel) ⟨Nat.le_of_ble_eq_true rfl, Nat.le_of_ble_eq_true rfl⟩, (hw _ tw_18), (hw _ tw_19)⟩ ⟨zz_blind, va_recv hKc hPc (ci := 1) (q0 := 0) rfl rfl, zz_pre hPc hKc hDc hN⟩ rfl rfl hl.1 rfl (lv_room (Nat.le_of_ble_eq_true rfl)) dX1_unitsOwed_19 ⟨Nat.le_of_ble_eq_true rfl, Nat.le_of_ble_eq_true rfl⟩) hS (fun q _ h => hFc q h) hFc (fun r_2 u_2 t H1 locs ht hvm e_2 hB hz1 hk1 hS => ?_)
    try dsimp only at e_2
    have hP := zz_keep hP hk1
    clear hk1 hB ht hvm
    generalize H1 = H at hP hS ⊢
    refine lv_if_eq (tgt := 35) hx hb dX1_unitsOwed_22 (by decide) (fun c_3 => ?_) (fun c_3 => ?_)
    · have zc_3 := c_3
      rw [← Int32.toInt_inj] at zc_3
      try rw [show (0 : Int32).toInt = 0 from by decide] at zc_3
      refine lv_iinc (v := (nI (j + 1))) (lv' := [(4, .int (nI (j + 1))), (0, .ref (a 29)), (1, .int p0), (2, .int p1), (3, .int y)]) hx hb dX1_unitsOwed_35 hl (k := 4) rfl (nI_1 _) (by decide) rfl (fun ls hl => ?_)
      refine lv_goto (tgt := 5) hx hb dX1_unitsOwed_38 (by decide) ?_
      exact ih_5 ((j + 1), y) (show (j + 1) ≤ nd from by omega) (show nd - (j + 1) < nd - j from by omega) _ _ _ (hP.sub [0, 1, 2, 3, 4] rfl) (hD.sub [0, 1, 2, 3, 4] (by decide) rfl) hS (lv_sub hl [1, 2, 3, 4, 0] rfl)
    · have zc_3 := c_3
      rw [← Int32.toInt_inj] at zc_3
      try rw [show (0 : Int32).toInt = 0 from by decide] at zc_3
      refine lv_iload_n hx hb dX1_unitsOwed_25 rfl (lv_at hl 3 rfl) ?_
      refine lv_aload_n hx hb dX1_unitsOwed_26 rfl (lv_at hl 0 rfl) ?_
      refine va_get (D := (dC, dI)) (ci := 1) (v := .ref (a 33)) (C := RX1) (T := TX1) (N := 5) hx hb hw zz_inX1 hown hK hP 0 rfl rfl 3 (by decide) (hw _ tw_20) (fun _ h9 => h9) rfl dX1_unitsOwed_27 ?_
      refine lv_iload hx hb dX1_unitsOwed_30 (lv_at hl 4 rfl) ?_
      refine va_iald hx hb hK hP 4 0 rfl rfl (vp_in_iff.mpr (by rw [zz_toInt j (by omega)]; constructor <;> omega)) dX1_unitsOwed_32 ?_
      refine lv_iadd hx hb dX1_unitsOwed_33 ?_
      refine lv_istore_n (lv' := [(3, .int (y + (fu (Int32.toNatClampNeg (nI j))))), (0, .ref (a 29)), (1, .int p0), (2, .int p1), (4, .int (nI j))]) hx hb dX1_unitsOwed_34 rfl hl (by decide) rfl (fun ls hl => ?_)
      refine lv_iinc (v := (nI (j + 1))) (lv' := [(4, .int (nI (j + 1))), (3, .int (y + (fu (Int32.toNatClampNeg (nI j))))), (0, .ref (a 29)), (1, .int p0), (2, .int p1)]) hx hb dX1_unitsOwed_35 hl (k := 4) rfl (nI_1 _) (by decide) rfl (fun ls hl => ?_)
      refine lv_goto (tgt := 5) hx hb dX1_unitsOwed_38 (by decide) ?_
      exact ih_5 ((j + 1), (y + (fu (Int32.toNatClampNeg (nI j))))) (show (j + 1) ≤ nd from by omega) (show nd - (j + 1) < nd - j from by omega) _ _ _ (hP.sub [0, 1, 2, 3, 4] rfl) (hD.sub [0, 1, 2, 3, 4] (by decide) rfl) hS (lv_sub hl [2, 3, 4, 1, 0] rfl)

set_option maxHeartbeats 4000000 in
set_option maxRecDepth 100000 in
theorem k_firstDay (l : Launch) (dC : Nat → ClassId) (dI : Nat → Nat → Nat) (a : Nat → Nat) (cI : ClassId) (nd : Nat) (fo : Nat → Int32) (fc : Nat → Int32) (fs : Nat → Int32) (fu : Nat → Int32) (p0 : Int32) (p1 : Int32) (sz : Nat) (hnd : nd ≤ 300) : Met l yX1_firstDay (zz_w yX1_firstDay cX1_firstDay 4 (some .int)) ({ frames := 1, cells := 0, slots := 0, locals := 23 }) (va_Pc [.ref (a 29), .int p0, .int p1] (zz_B (dC, dI) sz [(a 29, .inr (1, [.ref (a 30), .ref (a 31), .ref (a 32), .ref (a 33), .int (nI nd)])), (a 30, .inl (cI, 300, .inl fo)), (a 31, .inl (cI, 300, .inl fc)), (a 32, .inl (cI, 300, .inl fs)), (a 33, .inl (cI, 300, .inl fu))] [(cI, .int)])) (va_Qi (fun (_ : Int32) (_ : Unit) => True) (fun _ _ => True) (va_A [] sz)) 0 0 (va_A [] sz) := by
  refine Met.ofW (cc := cX1_firstDay) (maxL := 4) (ret := (some .int)) (by decide) rfl ?_
  intro p e s m args below meth c s₁ B hml hv
  obtain ⟨rfl, hsz, hP, hK, hD0, hN⟩ := hv
  have hx := B.exec
  have hb := B.bytes
  have hr := B.returns
  have hts := atoms_spec (ws := zz_w yX1_firstDay cX1_firstDay 4 (some .int)) B.pre
  have hw : ∀ w ∈ zz_all, w.before _ s = true := fun w h => hts w (List.mem_cons_of_mem _ h)
  have hown : s.vm.findClass RX1 = some m.cls := findClass_of_methodNamed B.named
  have hlocks := B.notSynchronized
  subst hsz
  have hD := hD0
  generalize hAe : va_A [] s.heap.size = A
  have hA : ∀ q : Nat, s.heap.size ≤ q → A q := fun q h => by rw [← hAe]; exact Or.inr h
  have hS : va_S A s.heap s.heap [] := va_S.rf
  have hP : va_P (dC, dI) vwCl [(a 29, .inr (1, [.ref (a 30), .ref (a 31), .ref (a 32), .ref (a 33), .int (nI nd)])), (a 30, .inl (cI, 300, .inl fo)), (a 31, .inl (cI, 300, .inl fc)), (a 32, .inl (cI, 300, .inl fs)), (a 33, .inl (cI, 300, .inl fu))] s.heap := hP
  have hl := lv_entry ([.ref (a 29), .int p0, .int p1]) (n := 4) (Nat.le_of_ble_eq_true rfl)
  rw [lg_entry_eq]
  generalize (lg_sl ([.ref (a 29), .int p0, .int p1]) ++ List.replicate (4 - (lg_sl ([.ref (a 29), .int p0, .int p1])).length) Slot.unset).toArray = ls at hl ⊢
  have hl : lv_has ls 4 [(0, .ref (a 29)), (1, .int p0), (2, .int p1)] := hl
  refine lv_iconst (v := 0) hx hb dX1_firstDay_0 (by decide) ?_
  refine lv_istore_n (lv' := [(3, .int 0), (0, .ref (a 29)), (1, .int p0), (2, .int p1)]) hx hb dX1_firstDay_1 rfl hl (by decide) rfl (fun ls hl => ?_)
  refine zz_loopS (fun (j : (Nat)) => [(a 29, .inr (1, [.ref (a 30), .ref (a 31), .ref (a 32), .ref (a 33), .int (nI nd)])), (a 30, .inl (cI, 300, .inl fo)), (a 31, .inl (cI, 300, .inl fc)), (a 32, .inl (cI, 300, .inl fs)), (a 33, .inl (cI, 300, .inl fu))]) (fun (j : (Nat)) => [(0, .ref (a 29)), (1, .int p0), (2, .int p1), (3, .int (nI j))]) (fun (j : (Nat)) => j ≤ nd) (fun (j : (Nat)) => nd - j) (fun u hI H locs ls hP hD hS hl ih_2 => ?_) 0 (show 0 ≤ nd from by omega) _ _ _ (hP.sub [0, 1, 2, 3, 4] rfl) (hD.sub [0, 1, 2, 3, 4] (by decide) rfl) hS (lv_sub hl [1, 2, 3, 0] rfl)
  obtain ⟨j, rfl⟩ : ∃ z, z = u := ⟨_, rfl⟩
  have hP : va_P (dC, dI) vwCl [(a 29, .inr (1, [.ref (a 30), .ref (a 31), .ref (a 32), .ref (a 33), .int (nI nd)])), (a 30, .inl (cI, 300, .inl fo)), (a 31, .inl (cI, 300, .inl fc)), (a 32, .inl (cI, 300, .inl fs)), (a 33, .inl (cI, 300, .inl fu))] H := hP
  have hD : va_D (fun _ => True) [(a 29, .inr (1, [.ref (a 30), .ref (a 31), .ref (a 32), .ref (a 33), .int (nI nd)])), (a 30, .inl (cI, 300, .inl fo)), (a 31, .inl (cI, 300, .inl fc)), (a 32, .inl (cI, 300, .inl fs)), (a 33, .inl (cI, 300, .inl fu))] := hD
  have hl : lv_has ls 4 [(0, .ref (a 29)), (1, .int p0), (2, .int p1), (3, .int (nI j))] := hl
  have hI : j ≤ nd := hI
  have ij := hI
  refine lv_iload_n hx hb dX1_firstDay_2 rfl (lv_at hl 3 rfl) ?_
  refine lv_aload_n hx hb dX1_firstDay_3 rfl (lv_at hl 0 rfl) ?_
  refine va_get (D := (dC, dI)) (ci := 1) (v := .int (nI nd)) (C := RX1) (T := TX1) (N := 5) hx hb hw zz_inX1 hown hK hP 0 rfl rfl 4 (by decide) (hw _ tw_14) (fun _ h9 => h9) rfl dX1_firstDay_4 ?_
  refine lv_icmp_ge (tgt := 33) hx hb dX1_firstDay_7 (by decide) (fun c_1 => ?_) (fun c_1 => ?_)
  · have zc_1 := c_1
    rw [Int32.le_iff_toInt_le] at zc_1
    try rw [zz_toInt j (by omega)] at zc_1
    try rw [zz_toInt nd (by omega)] at zc_1
    refine lv_iconst (v := (-1)) hx hb dX1_firstDay_33 (by decide) ?_
    exact W.iret (v := (-1)) hx hb hr (fun t ht hW => ⟨⟨(-1), (), rfl, trivial, trivial⟩, hS.F ht⟩) hS.2.2 dX1_firstDay_34
  · have zc_1 := c_1
    rw [Int32.le_iff_toInt_le] at zc_1
    try rw [zz_toInt j (by omega)] at zc_1
    try rw [zz_toInt nd (by omega)] at zc_1
    refine lv_aload_n hx hb dX1_firstDay_10 rfl (lv_at hl 0 rfl) ?_
    refine lv_iload_n hx hb dX1_firstDay_11 rfl (lv_at hl 3 rfl) ?_
    refine lv_iload_n hx hb dX1_firstDay_12 rfl (lv_at hl 1 rfl) ?_
    refine lv_iload_n hx hb dX1_firstDay_13 rfl (lv_at hl 2 rfl) ?_
    have hPc := hP.sub (ws' := [(a 29, .inr (1, [.ref (a 30), .ref (a 31), .ref (a 32), .ref (a 33), .int (nI nd)])), (a 30, .inl (cI, 300, .inl fo)), (a 31, .inl (cI, 300, .inl fc)), (a 32, .inl (cI, 300, .inl fs)), (a 33, .inl (cI, 300, .inl fu))]) [0, 1, 2, 3, 4] rfl
    have hDc := hD.sub (ws' := [(a 29, .inr (1, [.ref (a 30), .ref (a 31), .ref (a 32), .ref (a 33), .int (nI nd)])), (a 30, .inl (cI, 300, .inl fo)), (a 31, .inl (cI, 300, .inl fc)), (a 32, .inl (cI, 300, .inl fs)), (a 33, .inl (cI, 300, .inl fu))]) [0, 1, 2, 3, 4] (by decide) rfl
    have hKc := hK.sub (tys' := [(cI, .int)]) [0] rfl
    have hFc := zz_free0 hS hA
    refine va_calli (va_runV (As := [.int (nI j), .int p0, .int p1]) (rest := []) ⟨hx, hb, hml, hown, hw⟩ (k_isOf l dC dI a cI nd fo fc fs fu j p0 p1 H.size (by omega) (by omega)) ⟨callB_of 3 hw (zz_good tw_15) rfl rfl rfl (hw _ tw_16) (hw _ tw_17) (by decide +kernel) ⟨Nat.le_of_ble_eq_true rfl, Nat.le_of_ble_eq_true rfl⟩, (hw _ tw_18), (hw _ tw_19)⟩ ⟨zz_blind, va_recv hKc hPc (ci := 1) (q0 := 0) rfl rfl, zz_pre hPc hKc hDc hN⟩ rfl rfl hl.1 rfl (lv_room (Nat.le_of_ble_eq_true rfl)) dX1_firstDay_14 ⟨Nat.le_of_ble_eq_true rfl, Nat.le_of_ble_eq_true rfl⟩) hS (fun q _ h => hFc q h) hFc (fun r_2 u_2 t H1 locs ht hvm e_2 hB hz1 hk1 hS => ?_)
    try dsimp only at e_2
    have hP := zz_keep hP hk1
    clear hk1 hB ht hvm
    generalize H1 = H at hP hS ⊢
    refine lv_if_eq (tgt := 27) hx hb dX1_firstDay_17 (by decide) (fun c_3 => ?_) (fun c_3 => ?_)
    · have zc_3 := c_3
      rw [← Int32.toInt_inj] at zc_3
      try rw [show (0 : Int32).toInt = 0 from by decide] at zc_3
      refine lv_iinc (v := (nI (j + 1))) (lv' := [(3, .int (nI (j + 1))), (0, .ref (a 29)), (1, .int p0), (2, .int p1)]) hx hb dX1_firstDay_27 hl (k := 3) rfl (nI_1 _) (by decide) rfl (fun ls hl => ?_)
      refine lv_goto (tgt := 2) hx hb dX1_firstDay_30 (by decide) ?_
      exact ih_2 (j + 1) (show (j + 1) ≤ nd from by omega) (show nd - (j + 1) < nd - j from by omega) _ _ _ (hP.sub [0, 1, 2, 3, 4] rfl) (hD.sub [0, 1, 2, 3, 4] (by decide) rfl) hS (lv_sub hl [1, 2, 3, 0] rfl)
    · have zc_3 := c_3
      rw [← Int32.toInt_inj] at zc_3
      try rw [show (0 : Int32).toInt = 0 from by decide] at zc_3
      refine lv_aload_n hx hb dX1_firstDay_20 rfl (lv_at hl 0 rfl) ?_
      refine va_get (D := (dC, dI)) (ci := 1) (v := .ref (a 32)) (C := RX1) (T := TX1) (N := 5) hx hb hw zz_inX1 hown hK hP 0 rfl rfl 2 (by decide) (hw _ tw_21) (fun _ h9 => h9) rfl dX1_firstDay_21 ?_
      refine lv_iload_n hx hb dX1_firstDay_24 rfl (lv_at hl 3 rfl) ?_
      refine va_iald hx hb hK hP 3 0 rfl rfl (vp_in_iff.mpr (by rw [zz_toInt j (by omega)]; constructor <;> omega)) dX1_firstDay_25 ?_
      exact W.iret (v := (fs (Int32.toNatClampNeg (nI j)))) hx hb hr (fun t ht hW => ⟨⟨(fs (Int32.toNatClampNeg (nI j))), (), rfl, trivial, trivial⟩, hS.F ht⟩) hS.2.2 dX1_firstDay_26

set_option maxHeartbeats 4000000 in
set_option maxRecDepth 100000 in
theorem k_net (l : Launch) (dC : Nat → ClassId) (dI : Nat → Nat → Nat) (a : Nat → Nat) (cI : ClassId) (nd : Nat) (fo : Nat → Int32) (fc : Nat → Int32) (fs : Nat → Int32) (fu : Nat → Int32) (p0 : Int32) (sz : Nat) (hnd : nd ≤ 300) : Met l yX1_net (zz_w yX1_net cX1_net 4 (some .int)) ({ frames := 0, cells := 0, slots := 0, locals := 0 }) (va_Pc [.ref (a 29), .int p0] (zz_B (dC, dI) sz [(a 29, .inr (1, [.ref (a 30), .ref (a 31), .ref (a 32), .ref (a 33), .int (nI nd)])), (a 30, .inl (cI, 300, .inl fo)), (a 31, .inl (cI, 300, .inl fc)), (a 32, .inl (cI, 300, .inl fs)), (a 33, .inl (cI, 300, .inl fu))] [(cI, .int)])) (va_Qi (fun (_ : Int32) (_ : Unit) => True) (fun _ _ => True) (va_A [] sz)) 0 0 (va_A [] sz) := by
  refine Met.ofW (cc := cX1_net) (maxL := 4) (ret := (some .int)) (by decide) rfl ?_
  intro p e s m args below meth c s₁ B hml hv
  obtain ⟨rfl, hsz, hP, hK, hD0, hN⟩ := hv
  have hx := B.exec
  have hb := B.bytes
  have hr := B.returns
  have hts := atoms_spec (ws := zz_w yX1_net cX1_net 4 (some .int)) B.pre
  have hw : ∀ w ∈ zz_all, w.before _ s = true := fun w h => hts w (List.mem_cons_of_mem _ h)
  have hown : s.vm.findClass RX1 = some m.cls := findClass_of_methodNamed B.named
  have hlocks := B.notSynchronized
  subst hsz
  have hD := hD0
  generalize hAe : va_A [] s.heap.size = A
  have hA : ∀ q : Nat, s.heap.size ≤ q → A q := fun q h => by rw [← hAe]; exact Or.inr h
  have hS : va_S A s.heap s.heap [] := va_S.rf
  have hP : va_P (dC, dI) vwCl [(a 29, .inr (1, [.ref (a 30), .ref (a 31), .ref (a 32), .ref (a 33), .int (nI nd)])), (a 30, .inl (cI, 300, .inl fo)), (a 31, .inl (cI, 300, .inl fc)), (a 32, .inl (cI, 300, .inl fs)), (a 33, .inl (cI, 300, .inl fu))] s.heap := hP
  have hl := lv_entry ([.ref (a 29), .int p0]) (n := 4) (Nat.le_of_ble_eq_true rfl)
  rw [lg_entry_eq]
  generalize (lg_sl ([.ref (a 29), .int p0]) ++ List.replicate (4 - (lg_sl ([.ref (a 29), .int p0])).length) Slot.unset).toArray = ls at hl ⊢
  have hl : lv_has ls 4 [(0, .ref (a 29)), (1, .int p0)] := hl
  refine lv_iconst (v := 0) hx hb dX1_net_0 (by decide) ?_
  refine lv_istore_n (lv' := [(2, .int 0), (0, .ref (a 29)), (1, .int p0)]) hx hb dX1_net_1 rfl hl (by decide) rfl (fun ls hl => ?_)
  refine lv_iconst (v := 0) hx hb dX1_net_2 (by decide) ?_
  refine lv_istore_n (lv' := [(3, .int 0), (2, .int 0), (0, .ref (a 29)), (1, .int p0)]) hx hb dX1_net_3 rfl hl (by decide) rfl (fun ls hl => ?_)
  refine zz_loopS (fun (u : (Nat) × (Int32)) => match u with | (j, y) => [(a 29, .inr (1, [.ref (a 30), .ref (a 31), .ref (a 32), .ref (a 33), .int (nI nd)])), (a 30, .inl (cI, 300, .inl fo)), (a 31, .inl (cI, 300, .inl fc)), (a 32, .inl (cI, 300, .inl fs)), (a 33, .inl (cI, 300, .inl fu))]) (fun (u : (Nat) × (Int32)) => match u with | (j, y) => [(0, .ref (a 29)), (1, .int p0), (2, .int y), (3, .int (nI j))]) (fun (u : (Nat) × (Int32)) => match u with | (j, y) => j ≤ nd) (fun (u : (Nat) × (Int32)) => match u with | (j, y) => nd - j) (fun u hI H locs ls hP hD hS hl ih_4 => ?_) (0, 0) (show 0 ≤ nd from by omega) _ _ _ (hP.sub [0, 1, 2, 3, 4] rfl) (hD.sub [0, 1, 2, 3, 4] (by decide) rfl) hS (lv_sub hl [2, 3, 1, 0] rfl)
  obtain ⟨j, y⟩ := u
  have hP : va_P (dC, dI) vwCl [(a 29, .inr (1, [.ref (a 30), .ref (a 31), .ref (a 32), .ref (a 33), .int (nI nd)])), (a 30, .inl (cI, 300, .inl fo)), (a 31, .inl (cI, 300, .inl fc)), (a 32, .inl (cI, 300, .inl fs)), (a 33, .inl (cI, 300, .inl fu))] H := hP
  have hD : va_D (fun _ => True) [(a 29, .inr (1, [.ref (a 30), .ref (a 31), .ref (a 32), .ref (a 33), .int (nI nd)])), (a 30, .inl (cI, 300, .inl fo)), (a 31, .inl (cI, 300, .inl fc)), (a 32, .inl (cI, 300, .inl fs)), (a 33, .inl (cI, 300, .inl fu))] := hD
  have hl : lv_has ls 4 [(0, .ref (a 29)), (1, .int p0), (2, .int y), (3, .int (nI j))] := hl
  have hI : j ≤ nd := hI
  have ij := hI
  refine lv_iload_n hx hb dX1_net_4 rfl (lv_at hl 3 rfl) ?_
  refine lv_aload_n hx hb dX1_net_5 rfl (lv_at hl 0 rfl) ?_
  refine va_get (D := (dC, dI)) (ci := 1) (v := .int (nI nd)) (C := RX1) (T := TX1) (N := 5) hx hb hw zz_inX1 hown hK hP 0 rfl rfl 4 (by decide) (hw _ tw_14) (fun _ h9 => h9) rfl dX1_net_6 ?_
  refine lv_icmp_ge (tgt := 59) hx hb dX1_net_9 (by decide) (fun c_1 => ?_) (fun c_1 => ?_)
  · have zc_1 := c_1
    rw [Int32.le_iff_toInt_le] at zc_1
    try rw [zz_toInt j (by omega)] at zc_1
    try rw [zz_toInt nd (by omega)] at zc_1
    refine lv_iload_n hx hb dX1_net_59 rfl (lv_at hl 2 rfl) ?_
    exact W.iret (v := y) hx hb hr (fun t ht hW => ⟨⟨y, (), rfl, trivial, trivial⟩, hS.F ht⟩) hS.2.2 dX1_net_60
  · have zc_1 := c_1
    rw [Int32.le_iff_toInt_le] at zc_1
    try rw [zz_toInt j (by omega)] at zc_1
    try rw [zz_toInt nd (by omega)] at zc_1
    refine lv_aload_n hx hb dX1_net_12 rfl (lv_at hl 0 rfl) ?_
    refine va_get (D := (dC, dI)) (ci := 1) (v := .ref (a 31)) (C := RX1) (T := TX1) (N := 5) hx hb hw zz_inX1 hown hK hP 0 rfl rfl 1 (by decide) (hw _ tw_13) (fun _ h9 => h9) rfl dX1_net_13 ?_
    refine lv_iload_n hx hb dX1_net_16 rfl (lv_at hl 3 rfl) ?_
    refine va_iald hx hb hK hP 2 0 rfl rfl (vp_in_iff.mpr (by rw [zz_toInt j (by omega)]; constructor <;> omega)) dX1_net_17 ?_
    refine lv_iload_n hx hb dX1_net_18 rfl (lv_at hl 1 rfl) ?_
    refine lv_icmp_ne (tgt := 34) hx hb dX1_net_19 (by decide) (fun c_2 => ?_) (fun c_2 => ?_)
    · have zc_2 := c_2
      rw [← Int32.toInt_inj] at zc_2
      refine lv_aload_n hx hb dX1_net_34 rfl (lv_at hl 0 rfl) ?_
      refine va_get (D := (dC, dI)) (ci := 1) (v := .ref (a 30)) (C := RX1) (T := TX1) (N := 5) hx hb hw zz_inX1 hown hK hP 0 rfl rfl 0 (by decide) (hw _ tw_12) (fun _ h9 => h9) rfl dX1_net_35 ?_
      refine lv_iload_n hx hb dX1_net_38 rfl (lv_at hl 3 rfl) ?_
      refine va_iald hx hb hK hP 1 0 rfl rfl (vp_in_iff.mpr (by rw [zz_toInt j (by omega)]; constructor <;> omega)) dX1_net_39 ?_
      refine lv_iload_n hx hb dX1_net_40 rfl (lv_at hl 1 rfl) ?_
      refine lv_icmp_ne (tgt := 53) hx hb dX1_net_41 (by decide) (fun c_3 => ?_) (fun c_3 => ?_)
      · have zc_3 := c_3
        rw [← Int32.toInt_inj] at zc_3
        refine lv_iinc (v := (nI (j + 1))) (lv' := [(3, .int (nI (j + 1))), (0, .ref (a 29)), (1, .int p0), (2, .int y)]) hx hb dX1_net_53 hl (k := 3) rfl (nI_1 _) (by decide) rfl (fun ls hl => ?_)
        refine lv_goto (tgt := 4) hx hb dX1_net_56 (by decide) ?_
        exact ih_4 ((j + 1), y) (show (j + 1) ≤ nd from by omega) (show nd - (j + 1) < nd - j from by omega) _ _ _ (hP.sub [0, 1, 2, 3, 4] rfl) (hD.sub [0, 1, 2, 3, 4] (by decide) rfl) hS (lv_sub hl [1, 2, 3, 0] rfl)
      · have zc_3 := c_3
        rw [← Int32.toInt_inj] at zc_3
        refine lv_iload_n hx hb dX1_net_44 rfl (lv_at hl 2 rfl) ?_
        refine lv_aload_n hx hb dX1_net_45 rfl (lv_at hl 0 rfl) ?_
        refine va_get (D := (dC, dI)) (ci := 1) (v := .ref (a 33)) (C := RX1) (T := TX1) (N := 5) hx hb hw zz_inX1 hown hK hP 0 rfl rfl 3 (by decide) (hw _ tw_20) (fun _ h9 => h9) rfl dX1_net_46 ?_
        refine lv_iload_n hx hb dX1_net_49 rfl (lv_at hl 3 rfl) ?_
        refine va_iald hx hb hK hP 4 0 rfl rfl (vp_in_iff.mpr (by rw [zz_toInt j (by omega)]; constructor <;> omega)) dX1_net_50 ?_
        refine lv_isub hx hb dX1_net_51 ?_
        refine lv_istore_n (lv' := [(2, .int (y - (fu (Int32.toNatClampNeg (nI j))))), (0, .ref (a 29)), (1, .int p0), (3, .int (nI j))]) hx hb dX1_net_52 rfl hl (by decide) rfl (fun ls hl => ?_)
        refine lv_iinc (v := (nI (j + 1))) (lv' := [(3, .int (nI (j + 1))), (2, .int (y - (fu (Int32.toNatClampNeg (nI j))))), (0, .ref (a 29)), (1, .int p0)]) hx hb dX1_net_53 hl (k := 3) rfl (nI_1 _) (by decide) rfl (fun ls hl => ?_)
        refine lv_goto (tgt := 4) hx hb dX1_net_56 (by decide) ?_
        exact ih_4 ((j + 1), (y - (fu (Int32.toNatClampNeg (nI j))))) (show (j + 1) ≤ nd from by omega) (show nd - (j + 1) < nd - j from by omega) _ _ _ (hP.sub [0, 1, 2, 3, 4] rfl) (hD.sub [0, 1, 2, 3, 4] (by decide) rfl) hS (lv_sub hl [2, 3, 1, 0] rfl)
    · have zc_2 := c_2
      rw [← Int32.toInt_inj] at zc_2
      refine lv_iload_n hx hb dX1_net_22 rfl (lv_at hl 2 rfl) ?_
      refine lv_aload_n hx hb dX1_net_23 rfl (lv_at hl 0 rfl) ?_
      refine va_get (D := (dC, dI)) (ci := 1) (v := .ref (a 33)) (C := RX1) (T := TX1) (N := 5) hx hb hw zz_inX1 hown hK hP 0 rfl rfl 3 (by decide) (hw _ tw_20) (fun _ h9 => h9) rfl dX1_net_24 ?_
      refine lv_iload_n hx hb dX1_net_27 rfl (lv_at hl 3 rfl) ?_
      refine va_iald hx hb hK hP 4 0 rfl rfl (vp_in_iff.mpr (by rw [zz_toInt j (by omega)]; constructor <;> omega)) dX1_net_28 ?_
      refine lv_iadd hx hb dX1_net_29 ?_
      refine lv_istore_n (lv' := [(2, .int (y + (fu (Int32.toNatClampNeg (nI j))))), (0, .ref (a 29)), (1, .int p0), (3, .int (nI j))]) hx hb dX1_net_30 rfl hl (by decide) rfl (fun ls hl => ?_)
      refine lv_goto (tgt := 53) hx hb dX1_net_31 (by decide) ?_
      refine lv_iinc (v := (nI (j + 1))) (lv' := [(3, .int (nI (j + 1))), (2, .int (y + (fu (Int32.toNatClampNeg (nI j))))), (0, .ref (a 29)), (1, .int p0)]) hx hb dX1_net_53 hl (k := 3) rfl (nI_1 _) (by decide) rfl (fun ls hl => ?_)
      refine lv_goto (tgt := 4) hx hb dX1_net_56 (by decide) ?_
      exact ih_4 ((j + 1), (y + (fu (Int32.toNatClampNeg (nI j))))) (show (j + 1) ≤ nd from by omega) (show nd - (j + 1) < nd - j from by omega) _ _ _ (hP.sub [0, 1, 2, 3, 4] rfl) (hD.sub [0, 1, 2, 3, 4] (by decide) rfl) hS (lv_sub hl [2, 3, 1, 0] rfl)

set_option maxHeartbeats 4000000 in
set_option maxRecDepth 100000 in
theorem k_dropEmpty (l : Launch) (dC : Nat → ClassId) (dI : Nat → Nat → Nat) (a : Nat → Nat) (cI : ClassId) (nd : Nat) (fo : Nat → Int32) (fc : Nat → Int32) (fs : Nat → Int32) (fu : Nat → Int32) (sz : Nat) (hnd : nd ≤ 300) : Met l yX1_dropEmpty (zz_w yX1_dropEmpty cX1_dropEmpty 3 none) ({ frames := 0, cells := 0, slots := 0, locals := 0 }) (va_Pc [.ref (a 29)] (zz_B (dC, dI) sz [(a 29, .inr (1, [.ref (a 30), .ref (a 31), .ref (a 32), .ref (a 33), .int (nI nd)])), (a 30, .inl (cI, 300, .inl fo)), (a 31, .inl (cI, 300, .inl fc)), (a 32, .inl (cI, 300, .inl fs)), (a 33, .inl (cI, 300, .inl fu))] [(cI, .int)])) (va_Qv (fun (u : Nat × (Nat → Int32) × (Nat → Int32) × (Nat → Int32) × (Nat → Int32)) => match u with | (nd2, _, _, _, _) => nd2 ≤ nd) (fun (u : Nat × (Nat → Int32) × (Nat → Int32) × (Nat → Int32) × (Nat → Int32)) (t : State) => match u with | (u0, u1, u2, u3, u4) => va_P (dC, dI) vwCl [(a 29, .inr (1, [.ref (a 30), .ref (a 31), .ref (a 32), .ref (a 33), .int (nI u0)])), (a 30, .inl (cI, 300, .inl u1)), (a 31, .inl (cI, 300, .inl u2)), (a 32, .inl (cI, 300, .inl u3)), (a 33, .inl (cI, 300, .inl u4))] t.heap ∧ va_K (dC, dI) vwCl [(cI, .int)] t ∧ va_D (va_A [(a 29, .inr (1, [.ref (a 30), .ref (a 31), .ref (a 32), .ref (a 33), .int (nI nd)])), (a 30, .inl (cI, 300, .inl fo)), (a 31, .inl (cI, 300, .inl fc)), (a 32, .inl (cI, 300, .inl fs)), (a 33, .inl (cI, 300, .inl fu))] sz) [(a 29, .inr (1, [.ref (a 30), .ref (a 31), .ref (a 32), .ref (a 33), .int (nI u0)])), (a 30, .inl (cI, 300, .inl u1)), (a 31, .inl (cI, 300, .inl u2)), (a 32, .inl (cI, 300, .inl u3)), (a 33, .inl (cI, 300, .inl u4))]) (va_A [(a 29, .inr (1, [.ref (a 30), .ref (a 31), .ref (a 32), .ref (a 33), .int (nI nd)])), (a 30, .inl (cI, 300, .inl fo)), (a 31, .inl (cI, 300, .inl fc)), (a 32, .inl (cI, 300, .inl fs)), (a 33, .inl (cI, 300, .inl fu))] sz)) 0 0 (va_A [(a 29, .inr (1, [.ref (a 30), .ref (a 31), .ref (a 32), .ref (a 33), .int (nI nd)])), (a 30, .inl (cI, 300, .inl fo)), (a 31, .inl (cI, 300, .inl fc)), (a 32, .inl (cI, 300, .inl fs)), (a 33, .inl (cI, 300, .inl fu))] sz) := by
  refine Met.ofW (cc := cX1_dropEmpty) (maxL := 3) (ret := none) (by decide) rfl ?_
  intro p e s m args below meth c s₁ B hml hv
  obtain ⟨rfl, hsz, hP, hK, hD0, hN⟩ := hv
  have hx := B.exec
  have hb := B.bytes
  have hr := B.returns
  have hts := atoms_spec (ws := zz_w yX1_dropEmpty cX1_dropEmpty 3 none) B.pre
  have hw : ∀ w ∈ zz_all, w.before _ s = true := fun w h => hts w (List.mem_cons_of_mem _ h)
  have hown : s.vm.findClass RX1 = some m.cls := findClass_of_methodNamed B.named
  have hlocks := B.notSynchronized
  subst hsz
  have hD := hD0.self (sz := s.heap.size)
  generalize hAe : va_A [(a 29, .inr (1, [.ref (a 30), .ref (a 31), .ref (a 32), .ref (a 33), .int (nI nd)])), (a 30, .inl (cI, 300, .inl fo)), (a 31, .inl (cI, 300, .inl fc)), (a 32, .inl (cI, 300, .inl fs)), (a 33, .inl (cI, 300, .inl fu))] s.heap.size = A at hD ⊢
  have hA : ∀ q : Nat, s.heap.size ≤ q → A q := fun q h => by rw [← hAe]; exact Or.inr h
  have hS : va_S A s.heap s.heap [] := va_S.rf
  have hP : va_P (dC, dI) vwCl [(a 29, .inr (1, [.ref (a 30), .ref (a 31), .ref (a 32), .ref (a 33), .int (nI nd)])), (a 30, .inl (cI, 300, .inl fo)), (a 31, .inl (cI, 300, .inl fc)), (a 32, .inl (cI, 300, .inl fs)), (a 33, .inl (cI, 300, .inl fu))] s.heap := hP
  have hl := lv_entry ([.ref (a 29)]) (n := 3) (Nat.le_of_ble_eq_true rfl)
  rw [lg_entry_eq]
  generalize (lg_sl ([.ref (a 29)]) ++ List.replicate (3 - (lg_sl ([.ref (a 29)])).length) Slot.unset).toArray = ls at hl ⊢
  have hl : lv_has ls 3 [(0, .ref (a 29))] := hl
  refine lv_iconst (v := 0) hx hb dX1_dropEmpty_0 (by decide) ?_
  refine lv_istore_n (lv' := [(1, .int 0), (0, .ref (a 29))]) hx hb dX1_dropEmpty_1 rfl hl (by decide) rfl (fun ls hl => ?_)
  refine lv_iconst (v := 0) hx hb dX1_dropEmpty_2 (by decide) ?_
  refine lv_istore_n (lv' := [(2, .int 0), (1, .int 0), (0, .ref (a 29))]) hx hb dX1_dropEmpty_3 rfl hl (by decide) rfl (fun ls hl => ?_)
  refine zz_loopS (fun (u : (Nat) × (Nat) × (Nat → Int32) × (Nat → Int32) × (Nat → Int32) × (Nat → Int32)) => match u with | (j, k, go, gc, gs, gu) => [(a 29, .inr (1, [.ref (a 30), .ref (a 31), .ref (a 32), .ref (a 33), .int (nI nd)])), (a 30, .inl (cI, 300, .inl go)), (a 31, .inl (cI, 300, .inl gc)), (a 32, .inl (cI, 300, .inl gs)), (a 33, .inl (cI, 300, .inl gu))]) (fun (u : (Nat) × (Nat) × (Nat → Int32) × (Nat → Int32) × (Nat → Int32) × (Nat → Int32)) => match u with | (j, k, go, gc, gs, gu) => [(0, .ref (a 29)), (1, .int (nI k)), (2, .int (nI j))]) (fun (u : (Nat) × (Nat) × (Nat → Int32) × (Nat → Int32) × (Nat → Int32) × (Nat → Int32)) => match u with | (j, k, go, gc, gs, gu) => j ≤ nd ∧ k ≤ j) (fun (u : (Nat) × (Nat) × (Nat → Int32) × (Nat → Int32) × (Nat → Int32) × (Nat → Int32)) => match u with | (j, k, go, gc, gs, gu) => nd - j) (fun u hI H locs ls hP hD hS hl ih_4 => ?_) (0, 0, fo, fc, fs, fu) (show 0 ≤ nd ∧ 0 ≤ 0 from (by refine ⟨?_, ?_⟩ <;> omega)) _ _ _ (hP.sub [0, 1, 2, 3, 4] rfl) (hD.sub [0, 1, 2, 3, 4] (by decide) rfl) hS (lv_sub hl [2, 1, 0] rfl)
  obtain ⟨j, k, go, gc, gs, gu⟩ := u
  have hP : va_P (dC, dI) vwCl [(a 29, .inr (1, [.ref (a 30), .ref (a 31), .ref (a 32), .ref (a 33), .int (nI nd)])), (a 30, .inl (cI, 300, .inl go)), (a 31, .inl (cI, 300, .inl gc)), (a 32, .inl (cI, 300, .inl gs)), (a 33, .inl (cI, 300, .inl gu))] H := hP
  have hD : va_D A [(a 29, .inr (1, [.ref (a 30), .ref (a 31), .ref (a 32), .ref (a 33), .int (nI nd)])), (a 30, .inl (cI, 300, .inl go)), (a 31, .inl (cI, 300, .inl gc)), (a 32, .inl (cI, 300, .inl gs)), (a 33, .inl (cI, 300, .inl gu))] := hD
  have hl : lv_has ls 3 [(0, .ref (a 29)), (1, .int (nI k)), (2, .int (nI j))] := hl
  have hI : j ≤ nd ∧ k ≤ j := hI
  obtain ⟨ij, ik⟩ := hI
  refine lv_iload_n hx hb dX1_dropEmpty_4 rfl (lv_at hl 2 rfl) ?_
  refine lv_aload_n hx hb dX1_dropEmpty_5 rfl (lv_at hl 0 rfl) ?_
  refine va_get (D := (dC, dI)) (ci := 1) (v := .int (nI nd)) (C := RX1) (T := TX1) (N := 5) hx hb hw zz_inX1 hown hK hP 0 rfl rfl 4 (by decide) (hw _ tw_14) (fun _ h9 => h9) rfl dX1_dropEmpty_6 ?_
  refine lv_icmp_ge (tgt := 78) hx hb dX1_dropEmpty_9 (by decide) (fun c_1 => ?_) (fun c_1 => ?_)
  · have zc_1 := c_1
    rw [Int32.le_iff_toInt_le] at zc_1
    try rw [zz_toInt j (by omega)] at zc_1
    try rw [zz_toInt nd (by omega)] at zc_1
    refine lv_aload_n hx hb dX1_dropEmpty_78 rfl (lv_at hl 0 rfl) ?_
    refine lv_iload_n hx hb dX1_dropEmpty_79 rfl (lv_at hl 1 rfl) ?_
    refine va_put (D := (dC, dI)) (ci := 1) (v := .int (nI k)) (ty := .int) (C := RX1) (T := TX1) (N := 5) hx hb hw zz_inX1 tyX1 tyX1_ok nmX1 hown hK hP hD hS 0 rfl rfl 4 (by decide) (hw _ tw_14) (fun _ h9 => h9) rfl (by decide +kernel) rfl rfl (Nat.le_of_ble_eq_true rfl) dX1_dropEmpty_80 (fun H locs hP hD hS => ?_)
    have hP : va_P (dC, dI) vwCl [(a 29, .inr (1, [.ref (a 30), .ref (a 31), .ref (a 32), .ref (a 33), .int (nI k)])), (a 30, .inl (cI, 300, .inl go)), (a 31, .inl (cI, 300, .inl gc)), (a 32, .inl (cI, 300, .inl gs)), (a 33, .inl (cI, 300, .inl gu))] H := hP
    have hD : va_D A [(a 29, .inr (1, [.ref (a 30), .ref (a 31), .ref (a 32), .ref (a 33), .int (nI k)])), (a 30, .inl (cI, 300, .inl go)), (a 31, .inl (cI, 300, .inl gc)), (a 32, .inl (cI, 300, .inl gs)), (a 33, .inl (cI, 300, .inl gu))] := hD
    have hP9 := hP.sub (ws' := [(a 29, .inr (1, [.ref (a 30), .ref (a 31), .ref (a 32), .ref (a 33), .int (nI k)])), (a 30, .inl (cI, 300, .inl go)), (a 31, .inl (cI, 300, .inl gc)), (a 32, .inl (cI, 300, .inl gs)), (a 33, .inl (cI, 300, .inl gu))]) [0, 1, 2, 3, 4] rfl
    have hD9 := hD.sub (ws' := [(a 29, .inr (1, [.ref (a 30), .ref (a 31), .ref (a 32), .ref (a 33), .int (nI k)])), (a 30, .inl (cI, 300, .inl go)), (a 31, .inl (cI, 300, .inl gc)), (a 32, .inl (cI, 300, .inl gs)), (a 33, .inl (cI, 300, .inl gu))]) [0, 1, 2, 3, 4] (by decide) rfl
    have hK9 := hK.sub (tys' := [(cI, .int)]) [0] rfl
    exact W.vret hx hb hr (fun t ht hW => ⟨⟨(k, go, gc, gs, gu), rfl, (by show _ ≤ _; omega), by rw [ht]; exact hP9, va_K.moved hW.alike hK9, hD9⟩, hS.F ht⟩) hS.2.2 dX1_dropEmpty_83
  · have zc_1 := c_1
    rw [Int32.le_iff_toInt_le] at zc_1
    try rw [zz_toInt j (by omega)] at zc_1
    try rw [zz_toInt nd (by omega)] at zc_1
    refine lv_aload_n hx hb dX1_dropEmpty_12 rfl (lv_at hl 0 rfl) ?_
    refine va_get (D := (dC, dI)) (ci := 1) (v := .ref (a 33)) (C := RX1) (T := TX1) (N := 5) hx hb hw zz_inX1 hown hK hP 0 rfl rfl 3 (by decide) (hw _ tw_20) (fun _ h9 => h9) rfl dX1_dropEmpty_13 ?_
    refine lv_iload_n hx hb dX1_dropEmpty_16 rfl (lv_at hl 2 rfl) ?_
    refine va_iald hx hb hK hP 4 0 rfl rfl (vp_in_iff.mpr (by rw [zz_toInt j (by omega)]; constructor <;> omega)) dX1_dropEmpty_17 ?_
    refine lv_if_le (tgt := 72) hx hb dX1_dropEmpty_18 (by decide) (fun c_2 => ?_) (fun c_2 => ?_)
    · have zc_2 := c_2
      rw [Int32.le_iff_toInt_le] at zc_2
      try rw [show (0 : Int32).toInt = 0 from by decide] at zc_2
      refine lv_iinc (v := (nI (j + 1))) (lv' := [(2, .int (nI (j + 1))), (0, .ref (a 29)), (1, .int (nI k))]) hx hb dX1_dropEmpty_72 hl (k := 2) rfl (nI_1 _) (by decide) rfl (fun ls hl => ?_)
      refine lv_goto (tgt := 4) hx hb dX1_dropEmpty_75 (by decide) ?_
      exact ih_4 ((j + 1), k, go, gc, gs, gu) (show (j + 1) ≤ nd ∧ k ≤ (j + 1) from (by refine ⟨?_, ?_⟩ <;> omega)) (show nd - (j + 1) < nd - j from by omega) _ _ _ (hP.sub [0, 1, 2, 3, 4] rfl) (hD.sub [0, 1, 2, 3, 4] (by decide) rfl) hS (lv_sub hl [1, 2, 0] rfl)
    · have zc_2 := c_2
      rw [Int32.le_iff_toInt_le] at zc_2
      try rw [show (0 : Int32).toInt = 0 from by decide] at zc_2
      refine lv_aload_n hx hb dX1_dropEmpty_21 rfl (lv_at hl 0 rfl) ?_
      refine va_get (D := (dC, dI)) (ci := 1) (v := .ref (a 30)) (C := RX1) (T := TX1) (N := 5) hx hb hw zz_inX1 hown hK hP 0 rfl rfl 0 (by decide) (hw _ tw_12) (fun _ h9 => h9) rfl dX1_dropEmpty_22 ?_
      refine lv_iload_n hx hb dX1_dropEmpty_25 rfl (lv_at hl 1 rfl) ?_
      refine lv_aload_n hx hb dX1_dropEmpty_26 rfl (lv_at hl 0 rfl) ?_
      refine va_get (D := (dC, dI)) (ci := 1) (v := .ref (a 30)) (C := RX1) (T := TX1) (N := 5) hx hb hw zz_inX1 hown hK hP 0 rfl rfl 0 (by decide) (hw _ tw_12) (fun _ h9 => h9) rfl dX1_dropEmpty_27 ?_
      refine lv_iload_n hx hb dX1_dropEmpty_30 rfl (lv_at hl 2 rfl) ?_
      refine va_iald hx hb hK hP 1 0 rfl rfl (vp_in_iff.mpr (by rw [zz_toInt j (by omega)]; constructor <;> omega)) dX1_dropEmpty_31 ?_
      refine va_iast hx hb hK hP hD hS 1 0 rfl rfl (vp_in_iff.mpr (by rw [zz_toInt k (by omega)]; constructor <;> omega)) dX1_dropEmpty_32 (fun H locs hP hD hS => ?_)
      have hP : va_P (dC, dI) vwCl [(a 29, .inr (1, [.ref (a 30), .ref (a 31), .ref (a 32), .ref (a 33), .int (nI nd)])), (a 30, .inl (cI, 300, .inl (upd go (Int32.toNatClampNeg (nI k)) (go (Int32.toNatClampNeg (nI j)))))), (a 31, .inl (cI, 300, .inl gc)), (a 32, .inl (cI, 300, .inl gs)), (a 33, .inl (cI, 300, .inl gu))] H := hP
      have hD : va_D A [(a 29, .inr (1, [.ref (a 30), .ref (a 31), .ref (a 32), .ref (a 33), .int (nI nd)])), (a 30, .inl (cI, 300, .inl (upd go (Int32.toNatClampNeg (nI k)) (go (Int32.toNatClampNeg (nI j)))))), (a 31, .inl (cI, 300, .inl gc)), (a 32, .inl (cI, 300, .inl gs)), (a 33, .inl (cI, 300, .inl gu))] := hD
      refine lv_aload_n hx hb dX1_dropEmpty_33 rfl (lv_at hl 0 rfl) ?_
      refine va_get (D := (dC, dI)) (ci := 1) (v := .ref (a 31)) (C := RX1) (T := TX1) (N := 5) hx hb hw zz_inX1 hown hK hP 0 rfl rfl 1 (by decide) (hw _ tw_13) (fun _ h9 => h9) rfl dX1_dropEmpty_34 ?_
      refine lv_iload_n hx hb dX1_dropEmpty_37 rfl (lv_at hl 1 rfl) ?_
      refine lv_aload_n hx hb dX1_dropEmpty_38 rfl (lv_at hl 0 rfl) ?_
      refine va_get (D := (dC, dI)) (ci := 1) (v := .ref (a 31)) (C := RX1) (T := TX1) (N := 5) hx hb hw zz_inX1 hown hK hP 0 rfl rfl 1 (by decide) (hw _ tw_13) (fun _ h9 => h9) rfl dX1_dropEmpty_39 ?_
      refine lv_iload_n hx hb dX1_dropEmpty_42 rfl (lv_at hl 2 rfl) ?_
      refine va_iald hx hb hK hP 2 0 rfl rfl (vp_in_iff.mpr (by rw [zz_toInt j (by omega)]; constructor <;> omega)) dX1_dropEmpty_43 ?_
      refine va_iast hx hb hK hP hD hS 2 0 rfl rfl (vp_in_iff.mpr (by rw [zz_toInt k (by omega)]; constructor <;> omega)) dX1_dropEmpty_44 (fun H locs hP hD hS => ?_)
      have hP : va_P (dC, dI) vwCl [(a 29, .inr (1, [.ref (a 30), .ref (a 31), .ref (a 32), .ref (a 33), .int (nI nd)])), (a 30, .inl (cI, 300, .inl (upd go (Int32.toNatClampNeg (nI k)) (go (Int32.toNatClampNeg (nI j)))))), (a 31, .inl (cI, 300, .inl (upd gc (Int32.toNatClampNeg (nI k)) (gc (Int32.toNatClampNeg (nI j)))))), (a 32, .inl (cI, 300, .inl gs)), (a 33, .inl (cI, 300, .inl gu))] H := hP
      have hD : va_D A [(a 29, .inr (1, [.ref (a 30), .ref (a 31), .ref (a 32), .ref (a 33), .int (nI nd)])), (a 30, .inl (cI, 300, .inl (upd go (Int32.toNatClampNeg (nI k)) (go (Int32.toNatClampNeg (nI j)))))), (a 31, .inl (cI, 300, .inl (upd gc (Int32.toNatClampNeg (nI k)) (gc (Int32.toNatClampNeg (nI j)))))), (a 32, .inl (cI, 300, .inl gs)), (a 33, .inl (cI, 300, .inl gu))] := hD
      refine lv_aload_n hx hb dX1_dropEmpty_45 rfl (lv_at hl 0 rfl) ?_
      refine va_get (D := (dC, dI)) (ci := 1) (v := .ref (a 32)) (C := RX1) (T := TX1) (N := 5) hx hb hw zz_inX1 hown hK hP 0 rfl rfl 2 (by decide) (hw _ tw_21) (fun _ h9 => h9) rfl dX1_dropEmpty_46 ?_
      refine lv_iload_n hx hb dX1_dropEmpty_49 rfl (lv_at hl 1 rfl) ?_
      refine lv_aload_n hx hb dX1_dropEmpty_50 rfl (lv_at hl 0 rfl) ?_
      refine va_get (D := (dC, dI)) (ci := 1) (v := .ref (a 32)) (C := RX1) (T := TX1) (N := 5) hx hb hw zz_inX1 hown hK hP 0 rfl rfl 2 (by decide) (hw _ tw_21) (fun _ h9 => h9) rfl dX1_dropEmpty_51 ?_
      refine lv_iload_n hx hb dX1_dropEmpty_54 rfl (lv_at hl 2 rfl) ?_
      refine va_iald hx hb hK hP 3 0 rfl rfl (vp_in_iff.mpr (by rw [zz_toInt j (by omega)]; constructor <;> omega)) dX1_dropEmpty_55 ?_
      refine va_iast hx hb hK hP hD hS 3 0 rfl rfl (vp_in_iff.mpr (by rw [zz_toInt k (by omega)]; constructor <;> omega)) dX1_dropEmpty_56 (fun H locs hP hD hS => ?_)
      have hP : va_P (dC, dI) vwCl [(a 29, .inr (1, [.ref (a 30), .ref (a 31), .ref (a 32), .ref (a 33), .int (nI nd)])), (a 30, .inl (cI, 300, .inl (upd go (Int32.toNatClampNeg (nI k)) (go (Int32.toNatClampNeg (nI j)))))), (a 31, .inl (cI, 300, .inl (upd gc (Int32.toNatClampNeg (nI k)) (gc (Int32.toNatClampNeg (nI j)))))), (a 32, .inl (cI, 300, .inl (upd gs (Int32.toNatClampNeg (nI k)) (gs (Int32.toNatClampNeg (nI j)))))), (a 33, .inl (cI, 300, .inl gu))] H := hP
      have hD : va_D A [(a 29, .inr (1, [.ref (a 30), .ref (a 31), .ref (a 32), .ref (a 33), .int (nI nd)])), (a 30, .inl (cI, 300, .inl (upd go (Int32.toNatClampNeg (nI k)) (go (Int32.toNatClampNeg (nI j)))))), (a 31, .inl (cI, 300, .inl (upd gc (Int32.toNatClampNeg (nI k)) (gc (Int32.toNatClampNeg (nI j)))))), (a 32, .inl (cI, 300, .inl (upd gs (Int32.toNatClampNeg (nI k)) (gs (Int32.toNatClampNeg (nI j)))))), (a 33, .inl (cI, 300, .inl gu))] := hD
      refine lv_aload_n hx hb dX1_dropEmpty_57 rfl (lv_at hl 0 rfl) ?_
      refine va_get (D := (dC, dI)) (ci := 1) (v := .ref (a 33)) (C := RX1) (T := TX1) (N := 5) hx hb hw zz_inX1 hown hK hP 0 rfl rfl 3 (by decide) (hw _ tw_20) (fun _ h9 => h9) rfl dX1_dropEmpty_58 ?_
      refine lv_iload_n hx hb dX1_dropEmpty_61 rfl (lv_at hl 1 rfl) ?_
      refine lv_aload_n hx hb dX1_dropEmpty_62 rfl (lv_at hl 0 rfl) ?_
      refine va_get (D := (dC, dI)) (ci := 1) (v := .ref (a 33)) (C := RX1) (T := TX1) (N := 5) hx hb hw zz_inX1 hown hK hP 0 rfl rfl 3 (by decide) (hw _ tw_20) (fun _ h9 => h9) rfl dX1_dropEmpty_63 ?_
      refine lv_iload_n hx hb dX1_dropEmpty_66 rfl (lv_at hl 2 rfl) ?_
      refine va_iald hx hb hK hP 4 0 rfl rfl (vp_in_iff.mpr (by rw [zz_toInt j (by omega)]; constructor <;> omega)) dX1_dropEmpty_67 ?_
      refine va_iast hx hb hK hP hD hS 4 0 rfl rfl (vp_in_iff.mpr (by rw [zz_toInt k (by omega)]; constructor <;> omega)) dX1_dropEmpty_68 (fun H locs hP hD hS => ?_)
      have hP : va_P (dC, dI) vwCl [(a 29, .inr (1, [.ref (a 30), .ref (a 31), .ref (a 32), .ref (a 33), .int (nI nd)])), (a 30, .inl (cI, 300, .inl (upd go (Int32.toNatClampNeg (nI k)) (go (Int32.toNatClampNeg (nI j)))))), (a 31, .inl (cI, 300, .inl (upd gc (Int32.toNatClampNeg (nI k)) (gc (Int32.toNatClampNeg (nI j)))))), (a 32, .inl (cI, 300, .inl (upd gs (Int32.toNatClampNeg (nI k)) (gs (Int32.toNatClampNeg (nI j)))))), (a 33, .inl (cI, 300, .inl (upd gu (Int32.toNatClampNeg (nI k)) (gu (Int32.toNatClampNeg (nI j))))))] H := hP
      have hD : va_D A [(a 29, .inr (1, [.ref (a 30), .ref (a 31), .ref (a 32), .ref (a 33), .int (nI nd)])), (a 30, .inl (cI, 300, .inl (upd go (Int32.toNatClampNeg (nI k)) (go (Int32.toNatClampNeg (nI j)))))), (a 31, .inl (cI, 300, .inl (upd gc (Int32.toNatClampNeg (nI k)) (gc (Int32.toNatClampNeg (nI j)))))), (a 32, .inl (cI, 300, .inl (upd gs (Int32.toNatClampNeg (nI k)) (gs (Int32.toNatClampNeg (nI j)))))), (a 33, .inl (cI, 300, .inl (upd gu (Int32.toNatClampNeg (nI k)) (gu (Int32.toNatClampNeg (nI j))))))] := hD
      refine lv_iinc (v := (nI (k + 1))) (lv' := [(1, .int (nI (k + 1))), (0, .ref (a 29)), (2, .int (nI j))]) hx hb dX1_dropEmpty_69 hl (k := 1) rfl (nI_1 _) (by decide) rfl (fun ls hl => ?_)
      refine lv_iinc (v := (nI (j + 1))) (lv' := [(2, .int (nI (j + 1))), (1, .int (nI (k + 1))), (0, .ref (a 29))]) hx hb dX1_dropEmpty_72 hl (k := 2) rfl (nI_1 _) (by decide) rfl (fun ls hl => ?_)
      refine lv_goto (tgt := 4) hx hb dX1_dropEmpty_75 (by decide) ?_
      exact ih_4 ((j + 1), (k + 1), (upd go (Int32.toNatClampNeg (nI k)) (go (Int32.toNatClampNeg (nI j)))), (upd gc (Int32.toNatClampNeg (nI k)) (gc (Int32.toNatClampNeg (nI j)))), (upd gs (Int32.toNatClampNeg (nI k)) (gs (Int32.toNatClampNeg (nI j)))), (upd gu (Int32.toNatClampNeg (nI k)) (gu (Int32.toNatClampNeg (nI j))))) (show (j + 1) ≤ nd ∧ (k + 1) ≤ (j + 1) from (by refine ⟨?_, ?_⟩ <;> omega)) (show nd - (j + 1) < nd - j from by omega) _ _ _ (hP.sub [0, 1, 2, 3, 4] rfl) (hD.sub [0, 1, 2, 3, 4] (by decide) rfl) hS (lv_sub hl [2, 1, 0] rfl)

set_option maxHeartbeats 4000000 in
set_option maxRecDepth 100000 in
theorem k_lessen (l : Launch) (dC : Nat → ClassId) (dI : Nat → Nat → Nat) (a : Nat → Nat) (cI : ClassId) (nd : Nat) (fo : Nat → Int32) (fc : Nat → Int32) (fs : Nat → Int32) (fu : Nat → Int32) (p0 : Int32) (p1 : Int32) (p2 : Int32) (sz : Nat) (hnd : nd ≤ 300) : Met l yX1_lessen (zz_w yX1_lessen cX1_lessen 7 (some .int)) ({ frames := 1, cells := 0, slots := 0, locals := 23 }) (va_Pc [.ref (a 29), .int p0, .int p1, .int p2] (zz_B (dC, dI) sz [(a 29, .inr (1, [.ref (a 30), .ref (a 31), .ref (a 32), .ref (a 33), .int (nI nd)])), (a 30, .inl (cI, 300, .inl fo)), (a 31, .inl (cI, 300, .inl fc)), (a 32, .inl (cI, 300, .inl fs)), (a 33, .inl (cI, 300, .inl fu))] [(cI, .int)])) (va_Qi (fun (r : Int32) (u : Nat × (Nat → Int32) × (Nat → Int32) × (Nat → Int32) × (Nat → Int32)) => match u with | (nd2, _, _, _, _) => nd2 ≤ nd) (fun (u : Nat × (Nat → Int32) × (Nat → Int32) × (Nat → Int32) × (Nat → Int32)) (t : State) => match u with | (u0, u1, u2, u3, u4) => va_P (dC, dI) vwCl [(a 29, .inr (1, [.ref (a 30), .ref (a 31), .ref (a 32), .ref (a 33), .int (nI u0)])), (a 30, .inl (cI, 300, .inl u1)), (a 31, .inl (cI, 300, .inl u2)), (a 32, .inl (cI, 300, .inl u3)), (a 33, .inl (cI, 300, .inl u4))] t.heap ∧ va_K (dC, dI) vwCl [(cI, .int)] t ∧ va_D (va_A [(a 29, .inr (1, [.ref (a 30), .ref (a 31), .ref (a 32), .ref (a 33), .int (nI nd)])), (a 30, .inl (cI, 300, .inl fo)), (a 31, .inl (cI, 300, .inl fc)), (a 32, .inl (cI, 300, .inl fs)), (a 33, .inl (cI, 300, .inl fu))] sz) [(a 29, .inr (1, [.ref (a 30), .ref (a 31), .ref (a 32), .ref (a 33), .int (nI u0)])), (a 30, .inl (cI, 300, .inl u1)), (a 31, .inl (cI, 300, .inl u2)), (a 32, .inl (cI, 300, .inl u3)), (a 33, .inl (cI, 300, .inl u4))]) (va_A [(a 29, .inr (1, [.ref (a 30), .ref (a 31), .ref (a 32), .ref (a 33), .int (nI nd)])), (a 30, .inl (cI, 300, .inl fo)), (a 31, .inl (cI, 300, .inl fc)), (a 32, .inl (cI, 300, .inl fs)), (a 33, .inl (cI, 300, .inl fu))] sz)) 0 0 (va_A [(a 29, .inr (1, [.ref (a 30), .ref (a 31), .ref (a 32), .ref (a 33), .int (nI nd)])), (a 30, .inl (cI, 300, .inl fo)), (a 31, .inl (cI, 300, .inl fc)), (a 32, .inl (cI, 300, .inl fs)), (a 33, .inl (cI, 300, .inl fu))] sz) := by
  refine Met.ofW (cc := cX1_lessen) (maxL := 7) (ret := (some .int)) (by decide) rfl ?_
  intro p e s m args below meth c s₁ B hml hv
  obtain ⟨rfl, hsz, hP, hK, hD0, hN⟩ := hv
  have hx := B.exec
  have hb := B.bytes
  have hr := B.returns
  have hts := atoms_spec (ws := zz_w yX1_lessen cX1_lessen 7 (some .int)) B.pre
  have hw : ∀ w ∈ zz_all, w.before _ s = true := fun w h => hts w (List.mem_cons_of_mem _ h)
  have hown : s.vm.findClass RX1 = some m.cls := findClass_of_methodNamed B.named
  have hlocks := B.notSynchronized
  subst hsz
  have hD := hD0.self (sz := s.heap.size)
  generalize hAe : va_A [(a 29, .inr (1, [.ref (a 30), .ref (a 31), .ref (a 32), .ref (a 33), .int (nI nd)])), (a 30, .inl (cI, 300, .inl fo)), (a 31, .inl (cI, 300, .inl fc)), (a 32, .inl (cI, 300, .inl fs)), (a 33, .inl (cI, 300, .inl fu))] s.heap.size = A at hD ⊢
  have hA : ∀ q : Nat, s.heap.size ≤ q → A q := fun q h => by rw [← hAe]; exact Or.inr h
  have hS : va_S A s.heap s.heap [] := va_S.rf
  have hP : va_P (dC, dI) vwCl [(a 29, .inr (1, [.ref (a 30), .ref (a 31), .ref (a 32), .ref (a 33), .int (nI nd)])), (a 30, .inl (cI, 300, .inl fo)), (a 31, .inl (cI, 300, .inl fc)), (a 32, .inl (cI, 300, .inl fs)), (a 33, .inl (cI, 300, .inl fu))] s.heap := hP
  have hl := lv_entry ([.ref (a 29), .int p0, .int p1, .int p2]) (n := 7) (Nat.le_of_ble_eq_true rfl)
  rw [lg_entry_eq]
  generalize (lg_sl ([.ref (a 29), .int p0, .int p1, .int p2]) ++ List.replicate (7 - (lg_sl ([.ref (a 29), .int p0, .int p1, .int p2])).length) Slot.unset).toArray = ls at hl ⊢
  have hl : lv_has ls 7 [(0, .ref (a 29)), (1, .int p0), (2, .int p1), (3, .int p2)] := hl
  refine lv_iload_n hx hb dX1_lessen_0 rfl (lv_at hl 3 rfl) ?_
  refine lv_istore (lv' := [(4, .int p2), (0, .ref (a 29)), (1, .int p0), (2, .int p1), (3, .int p2)]) hx hb dX1_lessen_1 hl (by decide) rfl (fun ls hl => ?_)
  refine lv_iconst (v := 0) hx hb dX1_lessen_3 (by decide) ?_
  refine lv_istore (lv' := [(5, .int 0), (4, .int p2), (0, .ref (a 29)), (1, .int p0), (2, .int p1), (3, .int p2)]) hx hb dX1_lessen_4 hl (by decide) rfl (fun ls hl => ?_)
  refine zz_loopS (fun (u : (Nat) × (Int32) × (Nat → Int32)) => match u with | (j, y, gu) => [(a 29, .inr (1, [.ref (a 30), .ref (a 31), .ref (a 32), .ref (a 33), .int (nI nd)])), (a 30, .inl (cI, 300, .inl fo)), (a 31, .inl (cI, 300, .inl fc)), (a 32, .inl (cI, 300, .inl fs)), (a 33, .inl (cI, 300, .inl gu))]) (fun (u : (Nat) × (Int32) × (Nat → Int32)) => match u with | (j, y, gu) => [(0, .ref (a 29)), (1, .int p0), (2, .int p1), (3, .int p2), (4, .int y), (5, .int (nI j))]) (fun (u : (Nat) × (Int32) × (Nat → Int32)) => match u with | (j, y, gu) => j ≤ nd) (fun (u : (Nat) × (Int32) × (Nat → Int32)) => match u with | (j, y, gu) => nd - j) (fun u hI H locs ls hP hD hS hl ih_6 => ?_) (0, p2, fu) (show 0 ≤ nd from by omega) _ _ _ (hP.sub [0, 1, 2, 3, 4] rfl) (hD.sub [0, 1, 2, 3, 4] (by decide) rfl) hS (lv_sub hl [2, 3, 4, 5, 1, 0] rfl)
  obtain ⟨j, y, gu⟩ := u
  have hP : va_P (dC, dI) vwCl [(a 29, .inr (1, [.ref (a 30), .ref (a 31), .ref (a 32), .ref (a 33), .int (nI nd)])), (a 30, .inl (cI, 300, .inl fo)), (a 31, .inl (cI, 300, .inl fc)), (a 32, .inl (cI, 300, .inl fs)), (a 33, .inl (cI, 300, .inl gu))] H := hP
  have hD : va_D A [(a 29, .inr (1, [.ref (a 30), .ref (a 31), .ref (a 32), .ref (a 33), .int (nI nd)])), (a 30, .inl (cI, 300, .inl fo)), (a 31, .inl (cI, 300, .inl fc)), (a 32, .inl (cI, 300, .inl fs)), (a 33, .inl (cI, 300, .inl gu))] := hD
  have hl : lv_has ls 7 [(0, .ref (a 29)), (1, .int p0), (2, .int p1), (3, .int p2), (4, .int y), (5, .int (nI j))] := hl
  have hI : j ≤ nd := hI
  have ij := hI
  refine lv_iload hx hb dX1_lessen_6 (lv_at hl 5 rfl) ?_
  refine lv_aload_n hx hb dX1_lessen_8 rfl (lv_at hl 0 rfl) ?_
  refine va_get (D := (dC, dI)) (ci := 1) (v := .int (nI nd)) (C := RX1) (T := TX1) (N := 5) hx hb hw zz_inX1 hown hK hP 0 rfl rfl 4 (by decide) (hw _ tw_14) (fun _ h9 => h9) rfl dX1_lessen_9 ?_
  refine lv_icmp_ge (tgt := 70) hx hb dX1_lessen_12 (by decide) (fun c_1 => ?_) (fun c_1 => ?_)
  · have zc_1 := c_1
    rw [Int32.le_iff_toInt_le] at zc_1
    try rw [zz_toInt j (by omega)] at zc_1
    try rw [zz_toInt nd (by omega)] at zc_1
    refine lv_aload_n hx hb dX1_lessen_70 rfl (lv_at hl 0 rfl) ?_
    have hPc := hP.sub (ws' := [(a 29, .inr (1, [.ref (a 30), .ref (a 31), .ref (a 32), .ref (a 33), .int (nI nd)])), (a 30, .inl (cI, 300, .inl fo)), (a 31, .inl (cI, 300, .inl fc)), (a 32, .inl (cI, 300, .inl fs)), (a 33, .inl (cI, 300, .inl gu))]) [0, 1, 2, 3, 4] rfl
    have hDc := hD.sub (ws' := [(a 29, .inr (1, [.ref (a 30), .ref (a 31), .ref (a 32), .ref (a 33), .int (nI nd)])), (a 30, .inl (cI, 300, .inl fo)), (a 31, .inl (cI, 300, .inl fc)), (a 32, .inl (cI, 300, .inl fs)), (a 33, .inl (cI, 300, .inl gu))]) [0, 1, 2, 3, 4] (by decide) rfl
    have hKc := hK.sub (tys' := [(cI, .int)]) [0] rfl
    have hFc := va_free (wc := [(a 29, .inr (1, [.ref (a 30), .ref (a 31), .ref (a 32), .ref (a 33), .int (nI nd)])), (a 30, .inl (cI, 300, .inl fo)), (a 31, .inl (cI, 300, .inl fc)), (a 32, .inl (cI, 300, .inl fs)), (a 33, .inl (cI, 300, .inl gu))]) hD hS hA [0, 1, 2, 3, 4] rfl
    refine va_callv (va_runV (As := []) (rest := []) ⟨hx, hb, hml, hown, hw⟩ (k_dropEmpty l dC dI a cI nd fo fc fs gu H.size (by omega)) ⟨callB_of 0 hw (zz_good tw_22) rfl rfl rfl (hw _ tw_16) (hw _ tw_23) (by decide +kernel) ⟨Nat.le_of_ble_eq_true rfl, Nat.le_of_ble_eq_true rfl⟩, (hw _ tw_24), (hw _ tw_25)⟩ ⟨zz_blind, va_recv hKc hPc (ci := 1) (q0 := 0) rfl rfl, zz_pre hPc hKc hDc hN⟩ rfl rfl hl.1 rfl (lv_room (Nat.le_of_ble_eq_true rfl)) dX1_lessen_71 ⟨Nat.le_of_ble_eq_true rfl, Nat.le_of_ble_eq_true rfl⟩) hS (fun q _ h => hFc q h) hFc (fun u_2 t H1 locs ht hvm e_2 hB hz1 hk1 hS => ?_)
    try dsimp only at e_2
    obtain ⟨v_2_0, v_2_1, v_2_2, v_2_3, v_2_4⟩ := u_2
    obtain ⟨hP1, hK1, hD1⟩ := hB
    rw [ht] at hP1
    have hK1 := va_K.moved hvm.symm hK1
    try dsimp only at e_2
    obtain ⟨hP, hD⟩ := va_join (wr := []) (w1 := [(a 29, .inr (1, [.ref (a 30), .ref (a 31), .ref (a 32), .ref (a 33), .int (nI v_2_0)])), (a 30, .inl (cI, 300, .inl v_2_1)), (a 31, .inl (cI, 300, .inl v_2_2)), (a 32, .inl (cI, 300, .inl v_2_3)), (a 33, .inl (cI, 300, .inl v_2_4))]) hP hD [0, 1, 2, 3, 4] [] rfl rfl (by decide) (by decide) hk1 hFc hP1 hD1
    clear hk1 ht hvm
    generalize H1 = H at hP hS ⊢
    have hP : va_P (dC, dI) vwCl [(a 29, .inr (1, [.ref (a 30), .ref (a 31), .ref (a 32), .ref (a 33), .int (nI v_2_0)])), (a 30, .inl (cI, 300, .inl v_2_1)), (a 31, .inl (cI, 300, .inl v_2_2)), (a 32, .inl (cI, 300, .inl v_2_3)), (a 33, .inl (cI, 300, .inl v_2_4))] H := hP
    have hD : va_D A [(a 29, .inr (1, [.ref (a 30), .ref (a 31), .ref (a 32), .ref (a 33), .int (nI v_2_0)])), (a 30, .inl (cI, 300, .inl v_2_1)), (a 31, .inl (cI, 300, .inl v_2_2)), (a 32, .inl (cI, 300, .inl v_2_3)), (a 33, .inl (cI, 300, .inl v_2_4))] := hD
    refine lv_iload hx hb dX1_lessen_74 (lv_at hl 4 rfl) ?_
    have hP9 := hP.sub (ws' := [(a 29, .inr (1, [.ref (a 30), .ref (a 31), .ref (a 32), .ref (a 33), .int (nI v_2_0)])), (a 30, .inl (cI, 300, .inl v_2_1)), (a 31, .inl (cI, 300, .inl v_2_2)), (a 32, .inl (cI, 300, .inl v_2_3)), (a 33, .inl (cI, 300, .inl v_2_4))]) [0, 1, 2, 3, 4] rfl
    have hD9 := hD.sub (ws' := [(a 29, .inr (1, [.ref (a 30), .ref (a 31), .ref (a 32), .ref (a 33), .int (nI v_2_0)])), (a 30, .inl (cI, 300, .inl v_2_1)), (a 31, .inl (cI, 300, .inl v_2_2)), (a 32, .inl (cI, 300, .inl v_2_3)), (a 33, .inl (cI, 300, .inl v_2_4))]) [0, 1, 2, 3, 4] (by decide) rfl
    have hK9 := hK.sub (tys' := [(cI, .int)]) [0] rfl
    exact W.iret (v := y) hx hb hr (fun t ht hW => ⟨⟨y, (v_2_0, v_2_1, v_2_2, v_2_3, v_2_4), rfl, (by show _ ≤ _; omega), by rw [ht]; exact hP9, va_K.moved hW.alike hK9, hD9⟩, hS.F ht⟩) hS.2.2 dX1_lessen_76
  · have zc_1 := c_1
    rw [Int32.le_iff_toInt_le] at zc_1
    try rw [zz_toInt j (by omega)] at zc_1
    try rw [zz_toInt nd (by omega)] at zc_1
    refine lv_iload hx hb dX1_lessen_15 (lv_at hl 4 rfl) ?_
    refine lv_if_le (tgt := 70) hx hb dX1_lessen_17 (by decide) (fun c_3 => ?_) (fun c_3 => ?_)
    · have zc_3 := c_3
      rw [Int32.le_iff_toInt_le] at zc_3
      try rw [show (0 : Int32).toInt = 0 from by decide] at zc_3
      refine lv_aload_n hx hb dX1_lessen_70 rfl (lv_at hl 0 rfl) ?_
      have hPc := hP.sub (ws' := [(a 29, .inr (1, [.ref (a 30), .ref (a 31), .ref (a 32), .ref (a 33), .int (nI nd)])), (a 30, .inl (cI, 300, .inl fo)), (a 31, .inl (cI, 300, .inl fc)), (a 32, .inl (cI, 300, .inl fs)), (a 33, .inl (cI, 300, .inl gu))]) [0, 1, 2, 3, 4] rfl
      have hDc := hD.sub (ws' := [(a 29, .inr (1, [.ref (a 30), .ref (a 31), .ref (a 32), .ref (a 33), .int (nI nd)])), (a 30, .inl (cI, 300, .inl fo)), (a 31, .inl (cI, 300, .inl fc)), (a 32, .inl (cI, 300, .inl fs)), (a 33, .inl (cI, 300, .inl gu))]) [0, 1, 2, 3, 4] (by decide) rfl
      have hKc := hK.sub (tys' := [(cI, .int)]) [0] rfl
      have hFc := va_free (wc := [(a 29, .inr (1, [.ref (a 30), .ref (a 31), .ref (a 32), .ref (a 33), .int (nI nd)])), (a 30, .inl (cI, 300, .inl fo)), (a 31, .inl (cI, 300, .inl fc)), (a 32, .inl (cI, 300, .inl fs)), (a 33, .inl (cI, 300, .inl gu))]) hD hS hA [0, 1, 2, 3, 4] rfl
      refine va_callv (va_runV (As := []) (rest := []) ⟨hx, hb, hml, hown, hw⟩ (k_dropEmpty l dC dI a cI nd fo fc fs gu H.size (by omega)) ⟨callB_of 0 hw (zz_good tw_22) rfl rfl rfl (hw _ tw_16) (hw _ tw_23) (by decide +kernel) ⟨Nat.le_of_ble_eq_true rfl, Nat.le_of_ble_eq_true rfl⟩, (hw _ tw_24), (hw _ tw_25)⟩ ⟨zz_blind, va_recv hKc hPc (ci := 1) (q0 := 0) rfl rfl, zz_pre hPc hKc hDc hN⟩ rfl rfl hl.1 rfl (lv_room (Nat.le_of_ble_eq_true rfl)) dX1_lessen_71 ⟨Nat.le_of_ble_eq_true rfl, Nat.le_of_ble_eq_true rfl⟩) hS (fun q _ h => hFc q h) hFc (fun u_4 t H1 locs ht hvm e_4 hB hz1 hk1 hS => ?_)
      try dsimp only at e_4
      obtain ⟨v_4_0, v_4_1, v_4_2, v_4_3, v_4_4⟩ := u_4
      obtain ⟨hP1, hK1, hD1⟩ := hB
      rw [ht] at hP1
      have hK1 := va_K.moved hvm.symm hK1
      try dsimp only at e_4
      obtain ⟨hP, hD⟩ := va_join (wr := []) (w1 := [(a 29, .inr (1, [.ref (a 30), .ref (a 31), .ref (a 32), .ref (a 33), .int (nI v_4_0)])), (a 30, .inl (cI, 300, .inl v_4_1)), (a 31, .inl (cI, 300, .inl v_4_2)), (a 32, .inl (cI, 300, .inl v_4_3)), (a 33, .inl (cI, 300, .inl v_4_4))]) hP hD [0, 1, 2, 3, 4] [] rfl rfl (by decide) (by decide) hk1 hFc hP1 hD1
      clear hk1 ht hvm
      generalize H1 = H at hP hS ⊢
      have hP : va_P (dC, dI) vwCl [(a 29, .inr (1, [.ref (a 30), .ref (a 31), .ref (a 32), .ref (a 33), .int (nI v_4_0)])), (a 30, .inl (cI, 300, .inl v_4_1)), (a 31, .inl (cI, 300, .inl v_4_2)), (a 32, .inl (cI, 300, .inl v_4_3)), (a 33, .inl (cI, 300, .inl v_4_4))] H := hP
      have hD : va_D A [(a 29, .inr (1, [.ref (a 30), .ref (a 31), .ref (a 32), .ref (a 33), .int (nI v_4_0)])), (a 30, .inl (cI, 300, .inl v_4_1)), (a 31, .inl (cI, 300, .inl v_4_2)), (a 32, .inl (cI, 300, .inl v_4_3)), (a 33, .inl (cI, 300, .inl v_4_4))] := hD
      refine lv_iload hx hb dX1_lessen_74 (lv_at hl 4 rfl) ?_
      have hP9 := hP.sub (ws' := [(a 29, .inr (1, [.ref (a 30), .ref (a 31), .ref (a 32), .ref (a 33), .int (nI v_4_0)])), (a 30, .inl (cI, 300, .inl v_4_1)), (a 31, .inl (cI, 300, .inl v_4_2)), (a 32, .inl (cI, 300, .inl v_4_3)), (a 33, .inl (cI, 300, .inl v_4_4))]) [0, 1, 2, 3, 4] rfl
      have hD9 := hD.sub (ws' := [(a 29, .inr (1, [.ref (a 30), .ref (a 31), .ref (a 32), .ref (a 33), .int (nI v_4_0)])), (a 30, .inl (cI, 300, .inl v_4_1)), (a 31, .inl (cI, 300, .inl v_4_2)), (a 32, .inl (cI, 300, .inl v_4_3)), (a 33, .inl (cI, 300, .inl v_4_4))]) [0, 1, 2, 3, 4] (by decide) rfl
      have hK9 := hK.sub (tys' := [(cI, .int)]) [0] rfl
      exact W.iret (v := y) hx hb hr (fun t ht hW => ⟨⟨y, (v_4_0, v_4_1, v_4_2, v_4_3, v_4_4), rfl, (by show _ ≤ _; omega), by rw [ht]; exact hP9, va_K.moved hW.alike hK9, hD9⟩, hS.F ht⟩) hS.2.2 dX1_lessen_76
    · have zc_3 := c_3
      rw [Int32.le_iff_toInt_le] at zc_3
      try rw [show (0 : Int32).toInt = 0 from by decide] at zc_3
      refine lv_aload_n hx hb dX1_lessen_20 rfl (lv_at hl 0 rfl) ?_
      refine lv_iload hx hb dX1_lessen_21 (lv_at hl 5 rfl) ?_
      refine lv_iload_n hx hb dX1_lessen_23 rfl (lv_at hl 1 rfl) ?_
      refine lv_iload_n hx hb dX1_lessen_24 rfl (lv_at hl 2 rfl) ?_
      have hPc := hP.sub (ws' := [(a 29, .inr (1, [.ref (a 30), .ref (a 31), .ref (a 32), .ref (a 33), .int (nI nd)])), (a 30, .inl (cI, 300, .inl fo)), (a 31, .inl (cI, 300, .inl fc)), (a 32, .inl (cI, 300, .inl fs)), (a 33, .inl (cI, 300, .inl gu))]) [0, 1, 2, 3, 4] rfl
      have hDc := hD.sub (ws' := [(a 29, .inr (1, [.ref (a 30), .ref (a 31), .ref (a 32), .ref (a 33), .int (nI nd)])), (a 30, .inl (cI, 300, .inl fo)), (a 31, .inl (cI, 300, .inl fc)), (a 32, .inl (cI, 300, .inl fs)), (a 33, .inl (cI, 300, .inl gu))]) [0, 1, 2, 3, 4] (by decide) rfl
      have hKc := hK.sub (tys' := [(cI, .int)]) [0] rfl
      have hFc := zz_free0 hS hA
      refine va_calli (va_runV (As := [.int (nI j), .int p0, .int p1]) (rest := []) ⟨hx, hb, hml, hown, hw⟩ (k_isOf l dC dI a cI nd fo fc fs gu j p0 p1 H.size (by omega) (by omega)) ⟨callB_of 3 hw (zz_good tw_15) rfl rfl rfl (hw _ tw_16) (hw _ tw_17) (by decide +kernel) ⟨Nat.le_of_ble_eq_true rfl, Nat.le_of_ble_eq_true rfl⟩, (hw _ tw_18), (hw _ tw_19)⟩ ⟨zz_blind, va_recv hKc hPc (ci := 1) (q0 := 0) rfl rfl, zz_pre hPc hKc hDc hN⟩ rfl rfl hl.1 rfl (lv_room (Nat.le_of_ble_eq_true rfl)) dX1_lessen_25 ⟨Nat.le_of_ble_eq_true rfl, Nat.le_of_ble_eq_true rfl⟩) hS (fun q _ h => hFc q h) hFc (fun r_5 u_5 t H1 locs ht hvm e_5 hB hz1 hk1 hS => ?_)
      try dsimp only at e_5
      have hP := zz_keep hP hk1
      clear hk1 hB ht hvm
      generalize H1 = H at hP hS ⊢
      refine lv_if_eq (tgt := 64) hx hb dX1_lessen_28 (by decide) (fun c_6 => ?_) (fun c_6 => ?_)
      · have zc_6 := c_6
        rw [← Int32.toInt_inj] at zc_6
        try rw [show (0 : Int32).toInt = 0 from by decide] at zc_6
        refine lv_iinc (v := (nI (j + 1))) (lv' := [(5, .int (nI (j + 1))), (0, .ref (a 29)), (1, .int p0), (2, .int p1), (3, .int p2), (4, .int y)]) hx hb dX1_lessen_64 hl (k := 5) rfl (nI_1 _) (by decide) rfl (fun ls hl => ?_)
        refine lv_goto (tgt := 6) hx hb dX1_lessen_67 (by decide) ?_
        exact ih_6 ((j + 1), y, gu) (show (j + 1) ≤ nd from by omega) (show nd - (j + 1) < nd - j from by omega) _ _ _ (hP.sub [0, 1, 2, 3, 4] rfl) (hD.sub [0, 1, 2, 3, 4] (by decide) rfl) hS (lv_sub hl [1, 2, 3, 4, 5, 0] rfl)
      · have zc_6 := c_6
        rw [← Int32.toInt_inj] at zc_6
        try rw [show (0 : Int32).toInt = 0 from by decide] at zc_6
        refine lv_iload hx hb dX1_lessen_31 (lv_at hl 4 rfl) ?_
        refine lv_aload_n hx hb dX1_lessen_33 rfl (lv_at hl 0 rfl) ?_
        refine va_get (D := (dC, dI)) (ci := 1) (v := .ref (a 33)) (C := RX1) (T := TX1) (N := 5) hx hb hw zz_inX1 hown hK hP 0 rfl rfl 3 (by decide) (hw _ tw_20) (fun _ h9 => h9) rfl dX1_lessen_34 ?_
        refine lv_iload hx hb dX1_lessen_37 (lv_at hl 5 rfl) ?_
        refine va_iald hx hb hK hP 4 0 rfl rfl (vp_in_iff.mpr (by rw [zz_toInt j (by omega)]; constructor <;> omega)) dX1_lessen_39 ?_
        refine va_mmin hx hb (by rw [hml]; exact hl.1.symm) hown (hw _ tw_26) (hw _ tw_27) (hw _ tw_28) (hw _ tw_29) (Nat.le_of_ble_eq_true rfl) (Nat.le_of_ble_eq_true rfl) (Nat.le_of_ble_eq_true rfl) (Nat.le_of_ble_eq_true rfl) dX1_lessen_40 ?_
        refine lv_istore (lv' := [(6, .int (if (gu (Int32.toNatClampNeg (nI j))) < y then (gu (Int32.toNatClampNeg (nI j))) else y)), (0, .ref (a 29)), (1, .int p0), (2, .int p1), (3, .int p2), (4, .int y), (5, .int (nI j))]) hx hb dX1_lessen_43 hl (by decide) rfl (fun ls hl => ?_)
        refine lv_aload_n hx hb dX1_lessen_45 rfl (lv_at hl 1 rfl) ?_
        refine va_get (D := (dC, dI)) (ci := 1) (v := .ref (a 33)) (C := RX1) (T := TX1) (N := 5) hx hb hw zz_inX1 hown hK hP 0 rfl rfl 3 (by decide) (hw _ tw_20) (fun _ h9 => h9) rfl dX1_lessen_46 ?_
        refine lv_iload hx hb dX1_lessen_49 (lv_at hl 6 rfl) ?_
        refine lv_dup2_11 hx hb dX1_lessen_51 rfl rfl ?_
        refine va_iald hx hb hK hP 4 0 rfl rfl (vp_in_iff.mpr (by rw [zz_toInt j (by omega)]; constructor <;> omega)) dX1_lessen_52 ?_
        refine lv_iload hx hb dX1_lessen_53 (lv_at hl 0 rfl) ?_
        refine lv_isub hx hb dX1_lessen_55 ?_
        refine va_iast hx hb hK hP hD hS 4 0 rfl rfl (vp_in_iff.mpr (by rw [zz_toInt j (by omega)]; constructor <;> omega)) dX1_lessen_56 (fun H locs hP hD hS => ?_)
        have hP : va_P (dC, dI) vwCl [(a 29, .inr (1, [.ref (a 30), .ref (a 31), .ref (a 32), .ref (a 33), .int (nI nd)])), (a 30, .inl (cI, 300, .inl fo)), (a 31, .inl (cI, 300, .inl fc)), (a 32, .inl (cI, 300, .inl fs)), (a 33, .inl (cI, 300, .inl (upd gu (Int32.toNatClampNeg (nI j)) ((gu (Int32.toNatClampNeg (nI j))) - (if (gu (Int32.toNatClampNeg (nI j))) < y then (gu (Int32.toNatClampNeg (nI j))) else y)))))] H := hP
        have hD : va_D A [(a 29, .inr (1, [.ref (a 30), .ref (a 31), .ref (a 32), .ref (a 33), .int (nI nd)])), (a 30, .inl (cI, 300, .inl fo)), (a 31, .inl (cI, 300, .inl fc)), (a 32, .inl (cI, 300, .inl fs)), (a 33, .inl (cI, 300, .inl (upd gu (Int32.toNatClampNeg (nI j)) ((gu (Int32.toNatClampNeg (nI j))) - (if (gu (Int32.toNatClampNeg (nI j))) < y then (gu (Int32.toNatClampNeg (nI j))) else y)))))] := hD
        refine lv_iload hx hb dX1_lessen_57 (lv_at hl 5 rfl) ?_
        refine lv_iload hx hb dX1_lessen_59 (lv_at hl 0 rfl) ?_
        refine lv_isub hx hb dX1_lessen_61 ?_
        refine lv_istore (lv' := [(4, .int (y - (if (gu (Int32.toNatClampNeg (nI j))) < y then (gu (Int32.toNatClampNeg (nI j))) else y))), (6, .int (if (gu (Int32.toNatClampNeg (nI j))) < y then (gu (Int32.toNatClampNeg (nI j))) else y)), (0, .ref (a 29)), (1, .int p0), (2, .int p1), (3, .int p2), (5, .int (nI j))]) hx hb dX1_lessen_62 hl (by decide) rfl (fun ls hl => ?_)
        refine lv_iinc (v := (nI (j + 1))) (lv' := [(5, .int (nI (j + 1))), (4, .int (y - (if (gu (Int32.toNatClampNeg (nI j))) < y then (gu (Int32.toNatClampNeg (nI j))) else y))), (6, .int (if (gu (Int32.toNatClampNeg (nI j))) < y then (gu (Int32.toNatClampNeg (nI j))) else y)), (0, .ref (a 29)), (1, .int p0), (2, .int p1), (3, .int p2)]) hx hb dX1_lessen_64 hl (k := 6) rfl (nI_1 _) (by decide) rfl (fun ls hl => ?_)
        refine lv_goto (tgt := 6) hx hb dX1_lessen_67 (by decide) ?_
        exact ih_6 ((j + 1), (y - (if (gu (Int32.toNatClampNeg (nI j))) < y then (gu (Int32.toNatClampNeg (nI j))) else y)), (upd gu (Int32.toNatClampNeg (nI j)) ((gu (Int32.toNatClampNeg (nI j))) - (if (gu (Int32.toNatClampNeg (nI j))) < y then (gu (Int32.toNatClampNeg (nI j))) else y)))) (show (j + 1) ≤ nd from by omega) (show nd - (j + 1) < nd - j from by omega) _ _ _ (hP.sub [0, 1, 2, 3, 4] rfl) (hD.sub [0, 1, 2, 3, 4] (by decide) rfl) hS (lv_sub hl [3, 4, 5, 6, 1, 0] rfl)

set_option maxHeartbeats 4000000 in
set_option maxRecDepth 100000 in
theorem k_put (l : Launch) (dC : Nat → ClassId) (dI : Nat → Nat → Nat) (a : Nat → Nat) (cI : ClassId) (nd : Nat) (fo : Nat → Int32) (fc : Nat → Int32) (fs : Nat → Int32) (fu : Nat → Int32) (p0 : Int32) (p1 : Int32) (p2 : Int32) (p3 : Int32) (sz : Nat) (hnd : nd ≤ 300) : Met l yX1_put (zz_w yX1_put cX1_put 6 none) ({ frames := 1, cells := 0, slots := 0, locals := 23 }) (va_Pc [.ref (a 29), .int p0, .int p1, .int p2, .int p3] (zz_B (dC, dI) sz [(a 29, .inr (1, [.ref (a 30), .ref (a 31), .ref (a 32), .ref (a 33), .int (nI nd)])), (a 30, .inl (cI, 300, .inl fo)), (a 31, .inl (cI, 300, .inl fc)), (a 32, .inl (cI, 300, .inl fs)), (a 33, .inl (cI, 300, .inl fu))] [(cI, .int)])) (va_Qv (fun (u : Nat × (Nat → Int32) × (Nat → Int32) × (Nat → Int32) × (Nat → Int32)) => match u with | (nd2, _, _, _, _) => nd2 ≤ 300) (fun (u : Nat × (Nat → Int32) × (Nat → Int32) × (Nat → Int32) × (Nat → Int32)) (t : State) => match u with | (u0, u1, u2, u3, u4) => va_P (dC, dI) vwCl [(a 29, .inr (1, [.ref (a 30), .ref (a 31), .ref (a 32), .ref (a 33), .int (nI u0)])), (a 30, .inl (cI, 300, .inl u1)), (a 31, .inl (cI, 300, .inl u2)), (a 32, .inl (cI, 300, .inl u3)), (a 33, .inl (cI, 300, .inl u4))] t.heap ∧ va_K (dC, dI) vwCl [(cI, .int)] t ∧ va_D (va_A [(a 29, .inr (1, [.ref (a 30), .ref (a 31), .ref (a 32), .ref (a 33), .int (nI nd)])), (a 30, .inl (cI, 300, .inl fo)), (a 31, .inl (cI, 300, .inl fc)), (a 32, .inl (cI, 300, .inl fs)), (a 33, .inl (cI, 300, .inl fu))] sz) [(a 29, .inr (1, [.ref (a 30), .ref (a 31), .ref (a 32), .ref (a 33), .int (nI u0)])), (a 30, .inl (cI, 300, .inl u1)), (a 31, .inl (cI, 300, .inl u2)), (a 32, .inl (cI, 300, .inl u3)), (a 33, .inl (cI, 300, .inl u4))]) (va_A [(a 29, .inr (1, [.ref (a 30), .ref (a 31), .ref (a 32), .ref (a 33), .int (nI nd)])), (a 30, .inl (cI, 300, .inl fo)), (a 31, .inl (cI, 300, .inl fc)), (a 32, .inl (cI, 300, .inl fs)), (a 33, .inl (cI, 300, .inl fu))] sz)) 0 0 (va_A [(a 29, .inr (1, [.ref (a 30), .ref (a 31), .ref (a 32), .ref (a 33), .int (nI nd)])), (a 30, .inl (cI, 300, .inl fo)), (a 31, .inl (cI, 300, .inl fc)), (a 32, .inl (cI, 300, .inl fs)), (a 33, .inl (cI, 300, .inl fu))] sz) := by
  refine Met.ofW (cc := cX1_put) (maxL := 6) (ret := none) (by decide) rfl ?_
  intro p e s m args below meth c s₁ B hml hv
  obtain ⟨rfl, hsz, hP, hK, hD0, hN⟩ := hv
  have hx := B.exec
  have hb := B.bytes
  have hr := B.returns
  have hts := atoms_spec (ws := zz_w yX1_put cX1_put 6 none) B.pre
  have hw : ∀ w ∈ zz_all, w.before _ s = true := fun w h => hts w (List.mem_cons_of_mem _ h)
  have hown : s.vm.findClass RX1 = some m.cls := findClass_of_methodNamed B.named
  have hlocks := B.notSynchronized
  subst hsz
  have hD := hD0.self (sz := s.heap.size)
  generalize hAe : va_A [(a 29, .inr (1, [.ref (a 30), .ref (a 31), .ref (a 32), .ref (a 33), .int (nI nd)])), (a 30, .inl (cI, 300, .inl fo)), (a 31, .inl (cI, 300, .inl fc)), (a 32, .inl (cI, 300, .inl fs)), (a 33, .inl (cI, 300, .inl fu))] s.heap.size = A at hD ⊢
  have hA : ∀ q : Nat, s.heap.size ≤ q → A q := fun q h => by rw [← hAe]; exact Or.inr h
  have hS : va_S A s.heap s.heap [] := va_S.rf
  have hP : va_P (dC, dI) vwCl [(a 29, .inr (1, [.ref (a 30), .ref (a 31), .ref (a 32), .ref (a 33), .int (nI nd)])), (a 30, .inl (cI, 300, .inl fo)), (a 31, .inl (cI, 300, .inl fc)), (a 32, .inl (cI, 300, .inl fs)), (a 33, .inl (cI, 300, .inl fu))] s.heap := hP
  have hl := lv_entry ([.ref (a 29), .int p0, .int p1, .int p2, .int p3]) (n := 6) (Nat.le_of_ble_eq_true rfl)
  rw [lg_entry_eq]
  generalize (lg_sl ([.ref (a 29), .int p0, .int p1, .int p2, .int p3]) ++ List.replicate (6 - (lg_sl ([.ref (a 29), .int p0, .int p1, .int p2, .int p3])).length) Slot.unset).toArray = ls at hl ⊢
  have hl : lv_has ls 6 [(0, .ref (a 29)), (1, .int p0), (2, .int p1), (3, .int p2), (4, .int p3)] := hl
  refine lv_iload hx hb dX1_put_0 (lv_at hl 4 rfl) ?_
  refine lv_if_gt (tgt := 6) hx hb dX1_put_2 (by decide) (fun c_1 => ?_) (fun c_1 => ?_)
  · have zc_1 := c_1
    rw [Int32.lt_iff_toInt_lt] at zc_1
    try rw [show (0 : Int32).toInt = 0 from by decide] at zc_1
    refine lv_iconst (v := 0) hx hb dX1_put_6 (by decide) ?_
    refine lv_istore (lv' := [(5, .int 0), (0, .ref (a 29)), (1, .int p0), (2, .int p1), (3, .int p2), (4, .int p3)]) hx hb dX1_put_7 hl (by decide) rfl (fun ls hl => ?_)
    refine zz_loopS (fun (j : (Nat)) => [(a 29, .inr (1, [.ref (a 30), .ref (a 31), .ref (a 32), .ref (a 33), .int (nI nd)])), (a 30, .inl (cI, 300, .inl fo)), (a 31, .inl (cI, 300, .inl fc)), (a 32, .inl (cI, 300, .inl fs)), (a 33, .inl (cI, 300, .inl fu))]) (fun (j : (Nat)) => [(0, .ref (a 29)), (1, .int p0), (2, .int p1), (3, .int p2), (4, .int p3), (5, .int (nI j))]) (fun (j : (Nat)) => j ≤ nd) (fun (j : (Nat)) => nd - j) (fun u hI H locs ls hP hD hS hl ih_9 => ?_) 0 (show 0 ≤ nd from by omega) _ _ _ (hP.sub [0, 1, 2, 3, 4] rfl) (hD.sub [0, 1, 2, 3, 4] (by decide) rfl) hS (lv_sub hl [1, 2, 3, 4, 5, 0] rfl)
    obtain ⟨j, rfl⟩ : ∃ z, z = u := ⟨_, rfl⟩
    have hP : va_P (dC, dI) vwCl [(a 29, .inr (1, [.ref (a 30), .ref (a 31), .ref (a 32), .ref (a 33), .int (nI nd)])), (a 30, .inl (cI, 300, .inl fo)), (a 31, .inl (cI, 300, .inl fc)), (a 32, .inl (cI, 300, .inl fs)), (a 33, .inl (cI, 300, .inl fu))] H := hP
    have hD : va_D A [(a 29, .inr (1, [.ref (a 30), .ref (a 31), .ref (a 32), .ref (a 33), .int (nI nd)])), (a 30, .inl (cI, 300, .inl fo)), (a 31, .inl (cI, 300, .inl fc)), (a 32, .inl (cI, 300, .inl fs)), (a 33, .inl (cI, 300, .inl fu))] := hD
    have hl : lv_has ls 6 [(0, .ref (a 29)), (1, .int p0), (2, .int p1), (3, .int p2), (4, .int p3), (5, .int (nI j))] := hl
    have hI : j ≤ nd := hI
    have ij := hI
    refine lv_iload hx hb dX1_put_9 (lv_at hl 5 rfl) ?_
    refine lv_aload_n hx hb dX1_put_11 rfl (lv_at hl 0 rfl) ?_
    refine va_get (D := (dC, dI)) (ci := 1) (v := .int (nI nd)) (C := RX1) (T := TX1) (N := 5) hx hb hw zz_inX1 hown hK hP 0 rfl rfl 4 (by decide) (hw _ tw_14) (fun _ h9 => h9) rfl dX1_put_12 ?_
    refine lv_icmp_ge (tgt := 59) hx hb dX1_put_15 (by decide) (fun c_2 => ?_) (fun c_2 => ?_)
    · have zc_2 := c_2
      rw [Int32.le_iff_toInt_le] at zc_2
      try rw [zz_toInt j (by omega)] at zc_2
      try rw [zz_toInt nd (by omega)] at zc_2
      refine lv_aload_n hx hb dX1_put_59 rfl (lv_at hl 0 rfl) ?_
      refine va_get (D := (dC, dI)) (ci := 1) (v := .int (nI nd)) (C := RX1) (T := TX1) (N := 5) hx hb hw zz_inX1 hown hK hP 0 rfl rfl 4 (by decide) (hw _ tw_14) (fun _ h9 => h9) rfl dX1_put_60 ?_
      refine lv_sipush (v := 300) hx hb dX1_put_63 (by decide) ?_
      refine lv_icmp_ge (tgt := 120) hx hb dX1_put_66 (by decide) (fun c_3 => ?_) (fun c_3 => ?_)
      · have zc_3 := c_3
        rw [Int32.le_iff_toInt_le] at zc_3
        try rw [zz_toInt nd (by omega)] at zc_3
        try rw [show (300 : Int32).toInt = 300 from by decide] at zc_3
        have hP9 := hP.sub (ws' := [(a 29, .inr (1, [.ref (a 30), .ref (a 31), .ref (a 32), .ref (a 33), .int (nI nd)])), (a 30, .inl (cI, 300, .inl fo)), (a 31, .inl (cI, 300, .inl fc)), (a 32, .inl (cI, 300, .inl fs)), (a 33, .inl (cI, 300, .inl fu))]) [0, 1, 2, 3, 4] rfl
        have hD9 := hD.sub (ws' := [(a 29, .inr (1, [.ref (a 30), .ref (a 31), .ref (a 32), .ref (a 33), .int (nI nd)])), (a 30, .inl (cI, 300, .inl fo)), (a 31, .inl (cI, 300, .inl fc)), (a 32, .inl (cI, 300, .inl fs)), (a 33, .inl (cI, 300, .inl fu))]) [0, 1, 2, 3, 4] (by decide) rfl
        have hK9 := hK.sub (tys' := [(cI, .int)]) [0] rfl
        exact W.vret hx hb hr (fun t ht hW => ⟨⟨(nd, fo, fc, fs, fu), rfl, (by show _ ≤ _; omega), by rw [ht]; exact hP9, va_K.moved hW.alike hK9, hD9⟩, hS.F ht⟩) hS.2.2 dX1_put_120
      · have zc_3 := c_3
        rw [Int32.le_iff_toInt_le] at zc_3
        try rw [zz_toInt nd (by omega)] at zc_3
        try rw [show (300 : Int32).toInt = 300 from by decide] at zc_3
        refine lv_aload_n hx hb dX1_put_69 rfl (lv_at hl 0 rfl) ?_
        refine va_get (D := (dC, dI)) (ci := 1) (v := .ref (a 30)) (C := RX1) (T := TX1) (N := 5) hx hb hw zz_inX1 hown hK hP 0 rfl rfl 0 (by decide) (hw _ tw_12) (fun _ h9 => h9) rfl dX1_put_70 ?_
        refine lv_aload_n hx hb dX1_put_73 rfl (lv_at hl 0 rfl) ?_
        refine va_get (D := (dC, dI)) (ci := 1) (v := .int (nI nd)) (C := RX1) (T := TX1) (N := 5) hx hb hw zz_inX1 hown hK hP 0 rfl rfl 4 (by decide) (hw _ tw_14) (fun _ h9 => h9) rfl dX1_put_74 ?_
        refine lv_iload_n hx hb dX1_put_77 rfl (lv_at hl 1 rfl) ?_
        refine va_iast hx hb hK hP hD hS 1 0 rfl rfl (vp_in_iff.mpr (by rw [zz_toInt nd (by omega)]; constructor <;> omega)) dX1_put_78 (fun H locs hP hD hS => ?_)
        have hP : va_P (dC, dI) vwCl [(a 29, .inr (1, [.ref (a 30), .ref (a 31), .ref (a 32), .ref (a 33), .int (nI nd)])), (a 30, .inl (cI, 300, .inl (upd fo (Int32.toNatClampNeg (nI nd)) p0))), (a 31, .inl (cI, 300, .inl fc)), (a 32, .inl (cI, 300, .inl fs)), (a 33, .inl (cI, 300, .inl fu))] H := hP
        have hD : va_D A [(a 29, .inr (1, [.ref (a 30), .ref (a 31), .ref (a 32), .ref (a 33), .int (nI nd)])), (a 30, .inl (cI, 300, .inl (upd fo (Int32.toNatClampNeg (nI nd)) p0))), (a 31, .inl (cI, 300, .inl fc)), (a 32, .inl (cI, 300, .inl fs)), (a 33, .inl (cI, 300, .inl fu))] := hD
        refine lv_aload_n hx hb dX1_put_79 rfl (lv_at hl 0 rfl) ?_
        refine va_get (D := (dC, dI)) (ci := 1) (v := .ref (a 31)) (C := RX1) (T := TX1) (N := 5) hx hb hw zz_inX1 hown hK hP 0 rfl rfl 1 (by decide) (hw _ tw_13) (fun _ h9 => h9) rfl dX1_put_80 ?_
        refine lv_aload_n hx hb dX1_put_83 rfl (lv_at hl 0 rfl) ?_
        refine va_get (D := (dC, dI)) (ci := 1) (v := .int (nI nd)) (C := RX1) (T := TX1) (N := 5) hx hb hw zz_inX1 hown hK hP 0 rfl rfl 4 (by decide) (hw _ tw_14) (fun _ h9 => h9) rfl dX1_put_84 ?_
        refine lv_iload_n hx hb dX1_put_87 rfl (lv_at hl 2 rfl) ?_
        refine va_iast hx hb hK hP hD hS 2 0 rfl rfl (vp_in_iff.mpr (by rw [zz_toInt nd (by omega)]; constructor <;> omega)) dX1_put_88 (fun H locs hP hD hS => ?_)
        have hP : va_P (dC, dI) vwCl [(a 29, .inr (1, [.ref (a 30), .ref (a 31), .ref (a 32), .ref (a 33), .int (nI nd)])), (a 30, .inl (cI, 300, .inl (upd fo (Int32.toNatClampNeg (nI nd)) p0))), (a 31, .inl (cI, 300, .inl (upd fc (Int32.toNatClampNeg (nI nd)) p1))), (a 32, .inl (cI, 300, .inl fs)), (a 33, .inl (cI, 300, .inl fu))] H := hP
        have hD : va_D A [(a 29, .inr (1, [.ref (a 30), .ref (a 31), .ref (a 32), .ref (a 33), .int (nI nd)])), (a 30, .inl (cI, 300, .inl (upd fo (Int32.toNatClampNeg (nI nd)) p0))), (a 31, .inl (cI, 300, .inl (upd fc (Int32.toNatClampNeg (nI nd)) p1))), (a 32, .inl (cI, 300, .inl fs)), (a 33, .inl (cI, 300, .inl fu))] := hD
        refine lv_aload_n hx hb dX1_put_89 rfl (lv_at hl 0 rfl) ?_
        refine va_get (D := (dC, dI)) (ci := 1) (v := .ref (a 32)) (C := RX1) (T := TX1) (N := 5) hx hb hw zz_inX1 hown hK hP 0 rfl rfl 2 (by decide) (hw _ tw_21) (fun _ h9 => h9) rfl dX1_put_90 ?_
        refine lv_aload_n hx hb dX1_put_93 rfl (lv_at hl 0 rfl) ?_
        refine va_get (D := (dC, dI)) (ci := 1) (v := .int (nI nd)) (C := RX1) (T := TX1) (N := 5) hx hb hw zz_inX1 hown hK hP 0 rfl rfl 4 (by decide) (hw _ tw_14) (fun _ h9 => h9) rfl dX1_put_94 ?_
        refine lv_iload_n hx hb dX1_put_97 rfl (lv_at hl 3 rfl) ?_
        refine va_iast hx hb hK hP hD hS 3 0 rfl rfl (vp_in_iff.mpr (by rw [zz_toInt nd (by omega)]; constructor <;> omega)) dX1_put_98 (fun H locs hP hD hS => ?_)
        have hP : va_P (dC, dI) vwCl [(a 29, .inr (1, [.ref (a 30), .ref (a 31), .ref (a 32), .ref (a 33), .int (nI nd)])), (a 30, .inl (cI, 300, .inl (upd fo (Int32.toNatClampNeg (nI nd)) p0))), (a 31, .inl (cI, 300, .inl (upd fc (Int32.toNatClampNeg (nI nd)) p1))), (a 32, .inl (cI, 300, .inl (upd fs (Int32.toNatClampNeg (nI nd)) p2))), (a 33, .inl (cI, 300, .inl fu))] H := hP
        have hD : va_D A [(a 29, .inr (1, [.ref (a 30), .ref (a 31), .ref (a 32), .ref (a 33), .int (nI nd)])), (a 30, .inl (cI, 300, .inl (upd fo (Int32.toNatClampNeg (nI nd)) p0))), (a 31, .inl (cI, 300, .inl (upd fc (Int32.toNatClampNeg (nI nd)) p1))), (a 32, .inl (cI, 300, .inl (upd fs (Int32.toNatClampNeg (nI nd)) p2))), (a 33, .inl (cI, 300, .inl fu))] := hD
        refine lv_aload_n hx hb dX1_put_99 rfl (lv_at hl 0 rfl) ?_
        refine va_get (D := (dC, dI)) (ci := 1) (v := .ref (a 33)) (C := RX1) (T := TX1) (N := 5) hx hb hw zz_inX1 hown hK hP 0 rfl rfl 3 (by decide) (hw _ tw_20) (fun _ h9 => h9) rfl dX1_put_100 ?_
        refine lv_aload_n hx hb dX1_put_103 rfl (lv_at hl 0 rfl) ?_
        refine va_get (D := (dC, dI)) (ci := 1) (v := .int (nI nd)) (C := RX1) (T := TX1) (N := 5) hx hb hw zz_inX1 hown hK hP 0 rfl rfl 4 (by decide) (hw _ tw_14) (fun _ h9 => h9) rfl dX1_put_104 ?_
        refine lv_iload hx hb dX1_put_107 (lv_at hl 4 rfl) ?_
        refine va_iast hx hb hK hP hD hS 4 0 rfl rfl (vp_in_iff.mpr (by rw [zz_toInt nd (by omega)]; constructor <;> omega)) dX1_put_109 (fun H locs hP hD hS => ?_)
        have hP : va_P (dC, dI) vwCl [(a 29, .inr (1, [.ref (a 30), .ref (a 31), .ref (a 32), .ref (a 33), .int (nI nd)])), (a 30, .inl (cI, 300, .inl (upd fo (Int32.toNatClampNeg (nI nd)) p0))), (a 31, .inl (cI, 300, .inl (upd fc (Int32.toNatClampNeg (nI nd)) p1))), (a 32, .inl (cI, 300, .inl (upd fs (Int32.toNatClampNeg (nI nd)) p2))), (a 33, .inl (cI, 300, .inl (upd fu (Int32.toNatClampNeg (nI nd)) p3)))] H := hP
        have hD : va_D A [(a 29, .inr (1, [.ref (a 30), .ref (a 31), .ref (a 32), .ref (a 33), .int (nI nd)])), (a 30, .inl (cI, 300, .inl (upd fo (Int32.toNatClampNeg (nI nd)) p0))), (a 31, .inl (cI, 300, .inl (upd fc (Int32.toNatClampNeg (nI nd)) p1))), (a 32, .inl (cI, 300, .inl (upd fs (Int32.toNatClampNeg (nI nd)) p2))), (a 33, .inl (cI, 300, .inl (upd fu (Int32.toNatClampNeg (nI nd)) p3)))] := hD
        refine lv_aload_n hx hb dX1_put_110 rfl (lv_at hl 0 rfl) ?_
        refine lv_dup hx hb dX1_put_111 rfl ?_
        refine va_get (D := (dC, dI)) (ci := 1) (v := .int (nI nd)) (C := RX1) (T := TX1) (N := 5) hx hb hw zz_inX1 hown hK hP 0 rfl rfl 4 (by decide) (hw _ tw_14) (fun _ h9 => h9) rfl dX1_put_112 ?_
        refine lv_iconst (v := 1) hx hb dX1_put_115 (by decide) ?_
        refine lv_iadd hx hb dX1_put_116 ?_
        refine zz_seti (nI (nd + 1)) (nI_1 _) ?_
        refine va_put (D := (dC, dI)) (ci := 1) (v := .int (nI (nd + 1))) (ty := .int) (C := RX1) (T := TX1) (N := 5) hx hb hw zz_inX1 tyX1 tyX1_ok nmX1 hown hK hP hD hS 0 rfl rfl 4 (by decide) (hw _ tw_14) (fun _ h9 => h9) rfl (by decide +kernel) rfl rfl (Nat.le_of_ble_eq_true rfl) dX1_put_117 (fun H locs hP hD hS => ?_)
        have hP : va_P (dC, dI) vwCl [(a 29, .inr (1, [.ref (a 30), .ref (a 31), .ref (a 32), .ref (a 33), .int (nI (nd + 1))])), (a 30, .inl (cI, 300, .inl (upd fo (Int32.toNatClampNeg (nI nd)) p0))), (a 31, .inl (cI, 300, .inl (upd fc (Int32.toNatClampNeg (nI nd)) p1))), (a 32, .inl (cI, 300, .inl (upd fs (Int32.toNatClampNeg (nI nd)) p2))), (a 33, .inl (cI, 300, .inl (upd fu (Int32.toNatClampNeg (nI nd)) p3)))] H := hP
        have hD : va_D A [(a 29, .inr (1, [.ref (a 30), .ref (a 31), .ref (a 32), .ref (a 33), .int (nI (nd + 1))])), (a 30, .inl (cI, 300, .inl (upd fo (Int32.toNatClampNeg (nI nd)) p0))), (a 31, .inl (cI, 300, .inl (upd fc (Int32.toNatClampNeg (nI nd)) p1))), (a 32, .inl (cI, 300, .inl (upd fs (Int32.toNatClampNeg (nI nd)) p2))), (a 33, .inl (cI, 300, .inl (upd fu (Int32.toNatClampNeg (nI nd)) p3)))] := hD
        have hP9 := hP.sub (ws' := [(a 29, .inr (1, [.ref (a 30), .ref (a 31), .ref (a 32), .ref (a 33), .int (nI (nd + 1))])), (a 30, .inl (cI, 300, .inl (upd fo (Int32.toNatClampNeg (nI nd)) p0))), (a 31, .inl (cI, 300, .inl (upd fc (Int32.toNatClampNeg (nI nd)) p1))), (a 32, .inl (cI, 300, .inl (upd fs (Int32.toNatClampNeg (nI nd)) p2))), (a 33, .inl (cI, 300, .inl (upd fu (Int32.toNatClampNeg (nI nd)) p3)))]) [0, 1, 2, 3, 4] rfl
        have hD9 := hD.sub (ws' := [(a 29, .inr (1, [.ref (a 30), .ref (a 31), .ref (a 32), .ref (a 33), .int (nI (nd + 1))])), (a 30, .inl (cI, 300, .inl (upd fo (Int32.toNatClampNeg (nI nd)) p0))), (a 31, .inl (cI, 300, .inl (upd fc (Int32.toNatClampNeg (nI nd)) p1))), (a 32, .inl (cI, 300, .inl (upd fs (Int32.toNatClampNeg (nI nd)) p2))), (a 33, .inl (cI, 300, .inl (upd fu (Int32.toNatClampNeg (nI nd)) p3)))]) [0, 1, 2, 3, 4] (by decide) rfl
        have hK9 := hK.sub (tys' := [(cI, .int)]) [0] rfl
        exact W.vret hx hb hr (fun t ht hW => ⟨⟨((nd + 1), (upd fo (Int32.toNatClampNeg (nI nd)) p0), (upd fc (Int32.toNatClampNeg (nI nd)) p1), (upd fs (Int32.toNatClampNeg (nI nd)) p2), (upd fu (Int32.toNatClampNeg (nI nd)) p3)), rfl, (by show _ ≤ _; omega), by rw [ht]; exact hP9, va_K.moved hW.alike hK9, hD9⟩, hS.F ht⟩) hS.2.2 dX1_put_120
    · have zc_2 := c_2
      rw [Int32.le_iff_toInt_le] at zc_2
      try rw [zz_toInt j (by omega)] at zc_2
      try rw [zz_toInt nd (by omega)] at zc_2
      refine lv_aload_n hx hb dX1_put_18 rfl (lv_at hl 0 rfl) ?_
      refine lv_iload hx hb dX1_put_19 (lv_at hl 5 rfl) ?_
      refine lv_iload_n hx hb dX1_put_21 rfl (lv_at hl 1 rfl) ?_
      refine lv_iload_n hx hb dX1_put_22 rfl (lv_at hl 2 rfl) ?_
      have hPc := hP.sub (ws' := [(a 29, .inr (1, [.ref (a 30), .ref (a 31), .ref (a 32), .ref (a 33), .int (nI nd)])), (a 30, .inl (cI, 300, .inl fo)), (a 31, .inl (cI, 300, .inl fc)), (a 32, .inl (cI, 300, .inl fs)), (a 33, .inl (cI, 300, .inl fu))]) [0, 1, 2, 3, 4] rfl
      have hDc := hD.sub (ws' := [(a 29, .inr (1, [.ref (a 30), .ref (a 31), .ref (a 32), .ref (a 33), .int (nI nd)])), (a 30, .inl (cI, 300, .inl fo)), (a 31, .inl (cI, 300, .inl fc)), (a 32, .inl (cI, 300, .inl fs)), (a 33, .inl (cI, 300, .inl fu))]) [0, 1, 2, 3, 4] (by decide) rfl
      have hKc := hK.sub (tys' := [(cI, .int)]) [0] rfl
      have hFc := zz_free0 hS hA
      refine va_calli (va_runV (As := [.int (nI j), .int p0, .int p1]) (rest := []) ⟨hx, hb, hml, hown, hw⟩ (k_isOf l dC dI a cI nd fo fc fs fu j p0 p1 H.size (by omega) (by omega)) ⟨callB_of 3 hw (zz_good tw_15) rfl rfl rfl (hw _ tw_16) (hw _ tw_17) (by decide +kernel) ⟨Nat.le_of_ble_eq_true rfl, Nat.le_of_ble_eq_true rfl⟩, (hw _ tw_18), (hw _ tw_19)⟩ ⟨zz_blind, va_recv hKc hPc (ci := 1) (q0 := 0) rfl rfl, zz_pre hPc hKc hDc hN⟩ rfl rfl hl.1 rfl (lv_room (Nat.le_of_ble_eq_true rfl)) dX1_put_23 ⟨Nat.le_of_ble_eq_true rfl, Nat.le_of_ble_eq_true rfl⟩) hS (fun q _ h => hFc q h) hFc (fun r_4 u_4 t H1 locs ht hvm e_4 hB hz1 hk1 hS => ?_)
      try dsimp only at e_4
      have hP := zz_keep hP hk1
      clear hk1 hB ht hvm
      generalize H1 = H at hP hS ⊢
      refine lv_if_eq (tgt := 53) hx hb dX1_put_26 (by decide) (fun c_5 => ?_) (fun c_5 => ?_)
      · have zc_5 := c_5
        rw [← Int32.toInt_inj] at zc_5
        try rw [show (0 : Int32).toInt = 0 from by decide] at zc_5
        refine lv_iinc (v := (nI (j + 1))) (lv' := [(5, .int (nI (j + 1))), (0, .ref (a 29)), (1, .int p0), (2, .int p1), (3, .int p2), (4, .int p3)]) hx hb dX1_put_53 hl (k := 5) rfl (nI_1 _) (by decide) rfl (fun ls hl => ?_)
        refine lv_goto (tgt := 9) hx hb dX1_put_56 (by decide) ?_
        exact ih_9 (j + 1) (show (j + 1) ≤ nd from by omega) (show nd - (j + 1) < nd - j from by omega) _ _ _ (hP.sub [0, 1, 2, 3, 4] rfl) (hD.sub [0, 1, 2, 3, 4] (by decide) rfl) hS (lv_sub hl [1, 2, 3, 4, 5, 0] rfl)
      · have zc_5 := c_5
        rw [← Int32.toInt_inj] at zc_5
        try rw [show (0 : Int32).toInt = 0 from by decide] at zc_5
        refine lv_aload_n hx hb dX1_put_29 rfl (lv_at hl 0 rfl) ?_
        refine va_get (D := (dC, dI)) (ci := 1) (v := .ref (a 32)) (C := RX1) (T := TX1) (N := 5) hx hb hw zz_inX1 hown hK hP 0 rfl rfl 2 (by decide) (hw _ tw_21) (fun _ h9 => h9) rfl dX1_put_30 ?_
        refine lv_iload hx hb dX1_put_33 (lv_at hl 5 rfl) ?_
        refine va_iald hx hb hK hP 3 0 rfl rfl (vp_in_iff.mpr (by rw [zz_toInt j (by omega)]; constructor <;> omega)) dX1_put_35 ?_
        refine lv_iload_n hx hb dX1_put_36 rfl (lv_at hl 3 rfl) ?_
        refine lv_icmp_ne (tgt := 53) hx hb dX1_put_37 (by decide) (fun c_6 => ?_) (fun c_6 => ?_)
        · have zc_6 := c_6
          rw [← Int32.toInt_inj] at zc_6
          refine lv_iinc (v := (nI (j + 1))) (lv' := [(5, .int (nI (j + 1))), (0, .ref (a 29)), (1, .int p0), (2, .int p1), (3, .int p2), (4, .int p3)]) hx hb dX1_put_53 hl (k := 5) rfl (nI_1 _) (by decide) rfl (fun ls hl => ?_)
          refine lv_goto (tgt := 9) hx hb dX1_put_56 (by decide) ?_
          exact ih_9 (j + 1) (show (j + 1) ≤ nd from by omega) (show nd - (j + 1) < nd - j from by omega) _ _ _ (hP.sub [0, 1, 2, 3, 4] rfl) (hD.sub [0, 1, 2, 3, 4] (by decide) rfl) hS (lv_sub hl [1, 2, 3, 4, 5, 0] rfl)
        · have zc_6 := c_6
          rw [← Int32.toInt_inj] at zc_6
          refine lv_aload_n hx hb dX1_put_40 rfl (lv_at hl 0 rfl) ?_
          refine va_get (D := (dC, dI)) (ci := 1) (v := .ref (a 33)) (C := RX1) (T := TX1) (N := 5) hx hb hw zz_inX1 hown hK hP 0 rfl rfl 3 (by decide) (hw _ tw_20) (fun _ h9 => h9) rfl dX1_put_41 ?_
          refine lv_iload hx hb dX1_put_44 (lv_at hl 5 rfl) ?_
          refine lv_dup2_11 hx hb dX1_put_46 rfl rfl ?_
          refine va_iald hx hb hK hP 4 0 rfl rfl (vp_in_iff.mpr (by rw [zz_toInt j (by omega)]; constructor <;> omega)) dX1_put_47 ?_
          refine lv_iload hx hb dX1_put_48 (lv_at hl 4 rfl) ?_
          refine lv_iadd hx hb dX1_put_50 ?_
          refine va_iast hx hb hK hP hD hS 4 0 rfl rfl (vp_in_iff.mpr (by rw [zz_toInt j (by omega)]; constructor <;> omega)) dX1_put_51 (fun H locs hP hD hS => ?_)
          have hP : va_P (dC, dI) vwCl [(a 29, .inr (1, [.ref (a 30), .ref (a 31), .ref (a 32), .ref (a 33), .int (nI nd)])), (a 30, .inl (cI, 300, .inl fo)), (a 31, .inl (cI, 300, .inl fc)), (a 32, .inl (cI, 300, .inl fs)), (a 33, .inl (cI, 300, .inl (upd fu (Int32.toNatClampNeg (nI j)) ((fu (Int32.toNatClampNeg (nI j))) + p3))))] H := hP
          have hD : va_D A [(a 29, .inr (1, [.ref (a 30), .ref (a 31), .ref (a 32), .ref (a 33), .int (nI nd)])), (a 30, .inl (cI, 300, .inl fo)), (a 31, .inl (cI, 300, .inl fc)), (a 32, .inl (cI, 300, .inl fs)), (a 33, .inl (cI, 300, .inl (upd fu (Int32.toNatClampNeg (nI j)) ((fu (Int32.toNatClampNeg (nI j))) + p3))))] := hD
          have hP9 := hP.sub (ws' := [(a 29, .inr (1, [.ref (a 30), .ref (a 31), .ref (a 32), .ref (a 33), .int (nI nd)])), (a 30, .inl (cI, 300, .inl fo)), (a 31, .inl (cI, 300, .inl fc)), (a 32, .inl (cI, 300, .inl fs)), (a 33, .inl (cI, 300, .inl (upd fu (Int32.toNatClampNeg (nI j)) ((fu (Int32.toNatClampNeg (nI j))) + p3))))]) [0, 1, 2, 3, 4] rfl
          have hD9 := hD.sub (ws' := [(a 29, .inr (1, [.ref (a 30), .ref (a 31), .ref (a 32), .ref (a 33), .int (nI nd)])), (a 30, .inl (cI, 300, .inl fo)), (a 31, .inl (cI, 300, .inl fc)), (a 32, .inl (cI, 300, .inl fs)), (a 33, .inl (cI, 300, .inl (upd fu (Int32.toNatClampNeg (nI j)) ((fu (Int32.toNatClampNeg (nI j))) + p3))))]) [0, 1, 2, 3, 4] (by decide) rfl
          have hK9 := hK.sub (tys' := [(cI, .int)]) [0] rfl
          exact W.vret hx hb hr (fun t ht hW => ⟨⟨(nd, fo, fc, fs, (upd fu (Int32.toNatClampNeg (nI j)) ((fu (Int32.toNatClampNeg (nI j))) + p3))), rfl, (by show _ ≤ _; omega), by rw [ht]; exact hP9, va_K.moved hW.alike hK9, hD9⟩, hS.F ht⟩) hS.2.2 dX1_put_52
  · have zc_1 := c_1
    rw [Int32.lt_iff_toInt_lt] at zc_1
    try rw [show (0 : Int32).toInt = 0 from by decide] at zc_1
    have hP9 := hP.sub (ws' := [(a 29, .inr (1, [.ref (a 30), .ref (a 31), .ref (a 32), .ref (a 33), .int (nI nd)])), (a 30, .inl (cI, 300, .inl fo)), (a 31, .inl (cI, 300, .inl fc)), (a 32, .inl (cI, 300, .inl fs)), (a 33, .inl (cI, 300, .inl fu))]) [0, 1, 2, 3, 4] rfl
    have hD9 := hD.sub (ws' := [(a 29, .inr (1, [.ref (a 30), .ref (a 31), .ref (a 32), .ref (a 33), .int (nI nd)])), (a 30, .inl (cI, 300, .inl fo)), (a 31, .inl (cI, 300, .inl fc)), (a 32, .inl (cI, 300, .inl fs)), (a 33, .inl (cI, 300, .inl fu))]) [0, 1, 2, 3, 4] (by decide) rfl
    have hK9 := hK.sub (tys' := [(cI, .int)]) [0] rfl
    exact W.vret hx hb hr (fun t ht hW => ⟨⟨(nd, fo, fc, fs, fu), rfl, (by show _ ≤ _; omega), by rw [ht]; exact hP9, va_K.moved hW.alike hK9, hD9⟩, hS.F ht⟩) hS.2.2 dX1_put_5
