theorem tw_30 : Cond.fieldLink RX3 18 "HandsReturned$Field" "ready" "I" ∈ zz_all := zz_m1 74 rfl rfl
theorem tw_31 : Cond.fieldLink RX3 21 "HandsReturned$Field" "lacks" "I" ∈ zz_all := zz_m1 71 rfl rfl
theorem tw_32 : Cond.fieldLink RX4 7 "HandsReturned$House" "daysIll" "I" ∈ zz_all := zz_m1 34 rfl rfl
theorem tw_33 : Cond.fieldLink RX4 13 "HandsReturned$House" "hands" "I" ∈ zz_all := zz_m1 31 rfl rfl
theorem tw_34 : Cond.fieldLink RX4 16 "HandsReturned$House" "busy" "I" ∈ zz_all := zz_m1 36 rfl rfl
theorem tw_35 : Cond.methodLink RX7 226 Lib.Math.min.name ∈ zz_all := zz_m3 20 rfl rfl
theorem tw_36 : Cond.methodLink RX7 231 Lib.Math.max.name ∈ zz_all := zz_m3 21 rfl rfl
theorem tw_37 : Cond.static Lib.Math.max.name ∈ zz_all := zz_m3 22 rfl rfl
theorem tw_38 : Cond.code Lib.Math.max.name Lib.Math.max.code 2 (some .int) ∈ zz_all := zz_m3 23 rfl rfl
theorem tw_39 : Cond.fieldLink RX7 129 "HandsReturned" "clock" "I" ∈ zz_all := zz_m2 36 rfl rfl
theorem tw_40 : Cond.fieldLink RX7 23 "HandsReturned" "losses" "[I" ∈ zz_all := zz_m2 28 rfl rfl
theorem tw_41 : Cond.code yX7_proceedsOf cX7_proceedsOf 5 (some .int) ∈ zz_all := zz_m3 19 rfl rfl
theorem tw_42 : Cond.methodLink RX7 242 yX7_proceedsOf ∈ zz_all := zz_m3 17 rfl rfl
theorem tw_43 : Cond.static yX7_proceedsOf ∈ zz_all := zz_m3 18 rfl rfl
theorem tw_44 : Cond.fieldLink RX7 44 "HandsReturned" "debts" "LHandsReturned$Debts;" ∈ zz_all := zz_m2 31 rfl rfl
theorem tw_45 : Cond.fieldLink RX7 37 "HandsReturned" "customs" "LHandsReturned$Custom;" ∈ zz_all := zz_m2 30 rfl rfl
theorem tw_46 : Cond.code yX1_lessen cX1_lessen 7 (some .int) ∈ zz_all := zz_m2 239 rfl rfl
theorem tw_47 : Cond.instanceMethod yX1_lessen ∈ zz_all := zz_m2 238 rfl rfl
theorem tw_48 : Cond.selects RX1 yX1_lessen yX1_lessen ∈ zz_all := zz_ms 12 rfl rfl
theorem tw_49 : Cond.code yX1_put cX1_put 6 none ∈ zz_all := zz_m3 12 rfl rfl
theorem tw_50 : Cond.instanceMethod yX1_put ∈ zz_all := zz_m3 11 rfl rfl
theorem tw_51 : Cond.selects RX1 yX1_put yX1_put ∈ zz_all := zz_ms 15 rfl rfl
theorem zy_b07work_0 : decode cX3_takes 0 = .ok (.iload_n 2, 1) ∧ decode cX3_takes 1 = .ok (.aload_n 0, 1) ∧ decode cX3_takes 2 = .ok (.getfield 18, 3) ∧ decode cX3_takes 5 = .ok (.if_icmp .lt 20, 3) ∧ decode cX3_takes 8 = .ok (.iload_n 1, 1) ∧ decode cX3_takes 9 = .ok (.iconst 1, 1) ∧ decode cX3_takes 10 = .ok (.if_icmp .lt 15, 3) ∧ decode cX3_takes 13 = .ok (.iload_n 1, 1) := by decide +kernel
theorem dX3_takes_0 : decode cX3_takes 0 = .ok (.iload_n 2, 1) := zy_b07work_0.1
theorem dX3_takes_1 : decode cX3_takes 1 = .ok (.aload_n 0, 1) := zy_b07work_0.2.1
theorem dX3_takes_2 : decode cX3_takes 2 = .ok (.getfield 18, 3) := zy_b07work_0.2.2.1
theorem dX3_takes_5 : decode cX3_takes 5 = .ok (.if_icmp .lt 20, 3) := zy_b07work_0.2.2.2.1
theorem dX3_takes_8 : decode cX3_takes 8 = .ok (.iload_n 1, 1) := zy_b07work_0.2.2.2.2.1
theorem dX3_takes_9 : decode cX3_takes 9 = .ok (.iconst 1, 1) := zy_b07work_0.2.2.2.2.2.1
theorem dX3_takes_10 : decode cX3_takes 10 = .ok (.if_icmp .lt 15, 3) := zy_b07work_0.2.2.2.2.2.2.1
theorem dX3_takes_13 : decode cX3_takes 13 = .ok (.iload_n 1, 1) := zy_b07work_0.2.2.2.2.2.2.2
theorem zy_b07work_1 : decode cX3_takes 14 = .ok (.aload_n 0, 1) ∧ decode cX3_takes 15 = .ok (.getfield 21, 3) ∧ decode cX3_takes 18 = .ok (.if_icmp .gt 7, 3) ∧ decode cX3_takes 21 = .ok (.iconst 1, 1) ∧ decode cX3_takes 22 = .ok (.goto 4, 3) ∧ decode cX3_takes 25 = .ok (.iconst 0, 1) ∧ decode cX3_takes 26 = .ok (.ireturn, 1) := by decide +kernel
theorem dX3_takes_14 : decode cX3_takes 14 = .ok (.aload_n 0, 1) := zy_b07work_1.1
theorem dX3_takes_15 : decode cX3_takes 15 = .ok (.getfield 21, 3) := zy_b07work_1.2.1
theorem dX3_takes_18 : decode cX3_takes 18 = .ok (.if_icmp .gt 7, 3) := zy_b07work_1.2.2.1
theorem dX3_takes_21 : decode cX3_takes 21 = .ok (.iconst 1, 1) := zy_b07work_1.2.2.2.1
theorem dX3_takes_22 : decode cX3_takes 22 = .ok (.goto 4, 3) := zy_b07work_1.2.2.2.2.1
theorem dX3_takes_25 : decode cX3_takes 25 = .ok (.iconst 0, 1) := zy_b07work_1.2.2.2.2.2.1
theorem dX3_takes_26 : decode cX3_takes 26 = .ok (.ireturn, 1) := zy_b07work_1.2.2.2.2.2.2
theorem zy_b07work_2 : decode cX4_freeHands 0 = .ok (.aload_n 0, 1) ∧ decode cX4_freeHands 1 = .ok (.getfield 7, 3) ∧ decode cX4_freeHands 4 = .ok (.ifCond .le 7, 3) ∧ decode cX4_freeHands 7 = .ok (.iconst 0, 1) ∧ decode cX4_freeHands 8 = .ok (.goto 12, 3) ∧ decode cX4_freeHands 11 = .ok (.aload_n 0, 1) ∧ decode cX4_freeHands 12 = .ok (.getfield 13, 3) ∧ decode cX4_freeHands 15 = .ok (.aload_n 0, 1) := by decide +kernel
theorem dX4_freeHands_0 : decode cX4_freeHands 0 = .ok (.aload_n 0, 1) := zy_b07work_2.1
theorem dX4_freeHands_1 : decode cX4_freeHands 1 = .ok (.getfield 7, 3) := zy_b07work_2.2.1
theorem dX4_freeHands_4 : decode cX4_freeHands 4 = .ok (.ifCond .le 7, 3) := zy_b07work_2.2.2.1
theorem dX4_freeHands_7 : decode cX4_freeHands 7 = .ok (.iconst 0, 1) := zy_b07work_2.2.2.2.1
theorem dX4_freeHands_8 : decode cX4_freeHands 8 = .ok (.goto 12, 3) := zy_b07work_2.2.2.2.2.1
theorem dX4_freeHands_11 : decode cX4_freeHands 11 = .ok (.aload_n 0, 1) := zy_b07work_2.2.2.2.2.2.1
theorem dX4_freeHands_12 : decode cX4_freeHands 12 = .ok (.getfield 13, 3) := zy_b07work_2.2.2.2.2.2.2.1
theorem dX4_freeHands_15 : decode cX4_freeHands 15 = .ok (.aload_n 0, 1) := zy_b07work_2.2.2.2.2.2.2.2
theorem zy_b07work_3 : decode cX4_freeHands 16 = .ok (.getfield 16, 3) ∧ decode cX4_freeHands 19 = .ok (.isub, 1) ∧ decode cX4_freeHands 20 = .ok (.ireturn, 1) := by decide +kernel
theorem dX4_freeHands_16 : decode cX4_freeHands 16 = .ok (.getfield 16, 3) := zy_b07work_3.1
theorem dX4_freeHands_19 : decode cX4_freeHands 19 = .ok (.isub, 1) := zy_b07work_3.2.1
theorem dX4_freeHands_20 : decode cX4_freeHands 20 = .ok (.ireturn, 1) := zy_b07work_3.2.2
theorem zy_b07work_4 : decode cX7_proceedsOf 0 = .ok (.iconst 0, 1) ∧ decode cX7_proceedsOf 1 = .ok (.iload_n 1, 1) ∧ decode cX7_proceedsOf 2 = .ok (.bipush 9, 2) ∧ decode cX7_proceedsOf 4 = .ok (.invokestatic 226, 3) ∧ decode cX7_proceedsOf 7 = .ok (.invokestatic 231, 3) ∧ decode cX7_proceedsOf 10 = .ok (.istore_n 3, 1) ∧ decode cX7_proceedsOf 11 = .ok (.iload_n 3, 1) ∧ decode cX7_proceedsOf 12 = .ok (.aload_n 2, 1) := by decide +kernel
theorem dX7_proceedsOf_0 : decode cX7_proceedsOf 0 = .ok (.iconst 0, 1) := zy_b07work_4.1
theorem dX7_proceedsOf_1 : decode cX7_proceedsOf 1 = .ok (.iload_n 1, 1) := zy_b07work_4.2.1
theorem dX7_proceedsOf_2 : decode cX7_proceedsOf 2 = .ok (.bipush 9, 2) := zy_b07work_4.2.2.1
theorem dX7_proceedsOf_4 : decode cX7_proceedsOf 4 = .ok (.invokestatic 226, 3) := zy_b07work_4.2.2.2.1
theorem dX7_proceedsOf_7 : decode cX7_proceedsOf 7 = .ok (.invokestatic 231, 3) := zy_b07work_4.2.2.2.2.1
theorem dX7_proceedsOf_10 : decode cX7_proceedsOf 10 = .ok (.istore_n 3, 1) := zy_b07work_4.2.2.2.2.2.1
theorem dX7_proceedsOf_11 : decode cX7_proceedsOf 11 = .ok (.iload_n 3, 1) := zy_b07work_4.2.2.2.2.2.2.1
theorem dX7_proceedsOf_12 : decode cX7_proceedsOf 12 = .ok (.aload_n 2, 1) := zy_b07work_4.2.2.2.2.2.2.2
theorem zy_b07work_5 : decode cX7_proceedsOf 13 = .ok (.arraylength, 1) ∧ decode cX7_proceedsOf 14 = .ok (.if_icmp .ge 9, 3) ∧ decode cX7_proceedsOf 17 = .ok (.aload_n 2, 1) ∧ decode cX7_proceedsOf 18 = .ok (.iload_n 3, 1) ∧ decode cX7_proceedsOf 19 = .ok (.iaload, 1) ∧ decode cX7_proceedsOf 20 = .ok (.goto 4, 3) ∧ decode cX7_proceedsOf 23 = .ok (.iconst 0, 1) ∧ decode cX7_proceedsOf 24 = .ok (.istore 4, 2) := by decide +kernel
theorem dX7_proceedsOf_13 : decode cX7_proceedsOf 13 = .ok (.arraylength, 1) := zy_b07work_5.1
theorem dX7_proceedsOf_14 : decode cX7_proceedsOf 14 = .ok (.if_icmp .ge 9, 3) := zy_b07work_5.2.1
theorem dX7_proceedsOf_17 : decode cX7_proceedsOf 17 = .ok (.aload_n 2, 1) := zy_b07work_5.2.2.1
theorem dX7_proceedsOf_18 : decode cX7_proceedsOf 18 = .ok (.iload_n 3, 1) := zy_b07work_5.2.2.2.1
theorem dX7_proceedsOf_19 : decode cX7_proceedsOf 19 = .ok (.iaload, 1) := zy_b07work_5.2.2.2.2.1
theorem dX7_proceedsOf_20 : decode cX7_proceedsOf 20 = .ok (.goto 4, 3) := zy_b07work_5.2.2.2.2.2.1
theorem dX7_proceedsOf_23 : decode cX7_proceedsOf 23 = .ok (.iconst 0, 1) := zy_b07work_5.2.2.2.2.2.2.1
theorem dX7_proceedsOf_24 : decode cX7_proceedsOf 24 = .ok (.istore 4, 2) := zy_b07work_5.2.2.2.2.2.2.2
theorem zy_b07work_6 : decode cX7_proceedsOf 26 = .ok (.iload_n 0, 1) ∧ decode cX7_proceedsOf 27 = .ok (.bipush 100, 2) ∧ decode cX7_proceedsOf 29 = .ok (.iload 4, 2) ∧ decode cX7_proceedsOf 31 = .ok (.isub, 1) ∧ decode cX7_proceedsOf 32 = .ok (.imul, 1) ∧ decode cX7_proceedsOf 33 = .ok (.bipush 100, 2) ∧ decode cX7_proceedsOf 35 = .ok (.idiv, 1) ∧ decode cX7_proceedsOf 36 = .ok (.ireturn, 1) := by decide +kernel
theorem dX7_proceedsOf_26 : decode cX7_proceedsOf 26 = .ok (.iload_n 0, 1) := zy_b07work_6.1
theorem dX7_proceedsOf_27 : decode cX7_proceedsOf 27 = .ok (.bipush 100, 2) := zy_b07work_6.2.1
theorem dX7_proceedsOf_29 : decode cX7_proceedsOf 29 = .ok (.iload 4, 2) := zy_b07work_6.2.2.1
theorem dX7_proceedsOf_31 : decode cX7_proceedsOf 31 = .ok (.isub, 1) := zy_b07work_6.2.2.2.1
theorem dX7_proceedsOf_32 : decode cX7_proceedsOf 32 = .ok (.imul, 1) := zy_b07work_6.2.2.2.2.1
theorem dX7_proceedsOf_33 : decode cX7_proceedsOf 33 = .ok (.bipush 100, 2) := zy_b07work_6.2.2.2.2.2.1
theorem dX7_proceedsOf_35 : decode cX7_proceedsOf 35 = .ok (.idiv, 1) := zy_b07work_6.2.2.2.2.2.2.1
theorem dX7_proceedsOf_36 : decode cX7_proceedsOf 36 = .ok (.ireturn, 1) := zy_b07work_6.2.2.2.2.2.2.2
theorem zy_b07work_7 : decode cX7_field 0 = .ok (.aload_n 0, 1) ∧ decode cX7_field 1 = .ok (.iload_n 1, 1) ∧ decode cX7_field 2 = .ok (.invokevirtual 73, 3) ∧ decode cX7_field 5 = .ok (.ifnull 12, 3) ∧ decode cX7_field 8 = .ok (.aload_n 0, 1) ∧ decode cX7_field 9 = .ok (.getfield 77, 3) ∧ decode cX7_field 12 = .ok (.bipush 12, 2) ∧ decode cX7_field 14 = .ok (.if_icmp .lt 5, 3) := by decide +kernel
theorem dX7_field_0 : decode cX7_field 0 = .ok (.aload_n 0, 1) := zy_b07work_7.1
theorem dX7_field_1 : decode cX7_field 1 = .ok (.iload_n 1, 1) := zy_b07work_7.2.1
theorem dX7_field_2 : decode cX7_field 2 = .ok (.invokevirtual 73, 3) := zy_b07work_7.2.2.1
theorem dX7_field_5 : decode cX7_field 5 = .ok (.ifnull 12, 3) := zy_b07work_7.2.2.2.1
theorem dX7_field_8 : decode cX7_field 8 = .ok (.aload_n 0, 1) := zy_b07work_7.2.2.2.2.1
theorem dX7_field_9 : decode cX7_field 9 = .ok (.getfield 77, 3) := zy_b07work_7.2.2.2.2.2.1
theorem dX7_field_12 : decode cX7_field 12 = .ok (.bipush 12, 2) := zy_b07work_7.2.2.2.2.2.2.1
theorem dX7_field_14 : decode cX7_field 14 = .ok (.if_icmp .lt 5, 3) := zy_b07work_7.2.2.2.2.2.2.2
theorem zy_b07work_8 : decode cX7_field 17 = .ok (.iconst (-1), 1) ∧ decode cX7_field 18 = .ok (.ireturn, 1) ∧ decode cX7_field 19 = .ok (.iload_n 2, 1) ∧ decode cX7_field 20 = .ok (.iconst 0, 1) ∧ decode cX7_field 21 = .ok (.iconst 2, 1) ∧ decode cX7_field 22 = .ok (.invokestatic 80, 3) ∧ decode cX7_field 25 = .ok (.ifCond .eq 37, 3) ∧ decode cX7_field 28 = .ok (.iload_n 3, 1) := by decide +kernel
theorem dX7_field_17 : decode cX7_field 17 = .ok (.iconst (-1), 1) := zy_b07work_8.1
theorem dX7_field_18 : decode cX7_field 18 = .ok (.ireturn, 1) := zy_b07work_8.2.1
theorem dX7_field_19 : decode cX7_field 19 = .ok (.iload_n 2, 1) := zy_b07work_8.2.2.1
theorem dX7_field_20 : decode cX7_field 20 = .ok (.iconst 0, 1) := zy_b07work_8.2.2.2.1
theorem dX7_field_21 : decode cX7_field 21 = .ok (.iconst 2, 1) := zy_b07work_8.2.2.2.2.1
theorem dX7_field_22 : decode cX7_field 22 = .ok (.invokestatic 80, 3) := zy_b07work_8.2.2.2.2.2.1
theorem dX7_field_25 : decode cX7_field 25 = .ok (.ifCond .eq 37, 3) := zy_b07work_8.2.2.2.2.2.2.1
theorem dX7_field_28 : decode cX7_field 28 = .ok (.iload_n 3, 1) := zy_b07work_8.2.2.2.2.2.2.2
theorem zy_b07work_9 : decode cX7_field 29 = .ok (.iconst 1, 1) ∧ decode cX7_field 30 = .ok (.bipush 60, 2) ∧ decode cX7_field 32 = .ok (.invokestatic 80, 3) ∧ decode cX7_field 35 = .ok (.ifCond .eq 27, 3) ∧ decode cX7_field 38 = .ok (.iload 4, 2) ∧ decode cX7_field 40 = .ok (.iconst 0, 1) ∧ decode cX7_field 41 = .ok (.sipush 400, 3) ∧ decode cX7_field 44 = .ok (.invokestatic 80, 3) := by decide +kernel
theorem dX7_field_29 : decode cX7_field 29 = .ok (.iconst 1, 1) := zy_b07work_9.1
theorem dX7_field_30 : decode cX7_field 30 = .ok (.bipush 60, 2) := zy_b07work_9.2.1
theorem dX7_field_32 : decode cX7_field 32 = .ok (.invokestatic 80, 3) := zy_b07work_9.2.2.1
theorem dX7_field_35 : decode cX7_field 35 = .ok (.ifCond .eq 27, 3) := zy_b07work_9.2.2.2.1
theorem dX7_field_38 : decode cX7_field 38 = .ok (.iload 4, 2) := zy_b07work_9.2.2.2.2.1
theorem dX7_field_40 : decode cX7_field 40 = .ok (.iconst 0, 1) := zy_b07work_9.2.2.2.2.2.1
theorem dX7_field_41 : decode cX7_field 41 = .ok (.sipush 400, 3) := zy_b07work_9.2.2.2.2.2.2.1
theorem dX7_field_44 : decode cX7_field 44 = .ok (.invokestatic 80, 3) := zy_b07work_9.2.2.2.2.2.2.2
theorem zy_b07work_10 : decode cX7_field 47 = .ok (.ifCond .eq 15, 3) ∧ decode cX7_field 50 = .ok (.iload 5, 2) ∧ decode cX7_field 52 = .ok (.iconst 0, 1) ∧ decode cX7_field 53 = .ok (.sipush 10000, 3) ∧ decode cX7_field 56 = .ok (.invokestatic 80, 3) ∧ decode cX7_field 59 = .ok (.ifCond .ne 5, 3) ∧ decode cX7_field 62 = .ok (.iconst (-1), 1) ∧ decode cX7_field 63 = .ok (.ireturn, 1) := by decide +kernel
theorem dX7_field_47 : decode cX7_field 47 = .ok (.ifCond .eq 15, 3) := zy_b07work_10.1
theorem dX7_field_50 : decode cX7_field 50 = .ok (.iload 5, 2) := zy_b07work_10.2.1
theorem dX7_field_52 : decode cX7_field 52 = .ok (.iconst 0, 1) := zy_b07work_10.2.2.1
theorem dX7_field_53 : decode cX7_field 53 = .ok (.sipush 10000, 3) := zy_b07work_10.2.2.2.1
theorem dX7_field_56 : decode cX7_field 56 = .ok (.invokestatic 80, 3) := zy_b07work_10.2.2.2.2.1
theorem dX7_field_59 : decode cX7_field 59 = .ok (.ifCond .ne 5, 3) := zy_b07work_10.2.2.2.2.2.1
theorem dX7_field_62 : decode cX7_field 62 = .ok (.iconst (-1), 1) := zy_b07work_10.2.2.2.2.2.2.1
theorem dX7_field_63 : decode cX7_field 63 = .ok (.ireturn, 1) := zy_b07work_10.2.2.2.2.2.2.2
theorem zy_b07work_11 : decode cX7_field 64 = .ok (.aload_n 0, 1) ∧ decode cX7_field 65 = .ok (.getfield 18, 3) ∧ decode cX7_field 68 = .ok (.aload_n 0, 1) ∧ decode cX7_field 69 = .ok (.getfield 77, 3) ∧ decode cX7_field 72 = .ok (.aaload, 1) ∧ decode cX7_field 73 = .ok (.astore 6, 2) ∧ decode cX7_field 75 = .ok (.aload 6, 2) ∧ decode cX7_field 77 = .ok (.iload_n 1, 1) := by decide +kernel
theorem dX7_field_64 : decode cX7_field 64 = .ok (.aload_n 0, 1) := zy_b07work_11.1
theorem dX7_field_65 : decode cX7_field 65 = .ok (.getfield 18, 3) := zy_b07work_11.2.1
theorem dX7_field_68 : decode cX7_field 68 = .ok (.aload_n 0, 1) := zy_b07work_11.2.2.1
theorem dX7_field_69 : decode cX7_field 69 = .ok (.getfield 77, 3) := zy_b07work_11.2.2.2.1
theorem dX7_field_72 : decode cX7_field 72 = .ok (.aaload, 1) := zy_b07work_11.2.2.2.2.1
theorem dX7_field_73 : decode cX7_field 73 = .ok (.astore 6, 2) := zy_b07work_11.2.2.2.2.2.1
theorem dX7_field_75 : decode cX7_field 75 = .ok (.aload 6, 2) := zy_b07work_11.2.2.2.2.2.2.1
theorem dX7_field_77 : decode cX7_field 77 = .ok (.iload_n 1, 1) := zy_b07work_11.2.2.2.2.2.2.2
theorem zy_b07work_12 : decode cX7_field 78 = .ok (.putfield 84, 3) ∧ decode cX7_field 81 = .ok (.aload 6, 2) ∧ decode cX7_field 83 = .ok (.iload_n 2, 1) ∧ decode cX7_field 84 = .ok (.putfield 87, 3) ∧ decode cX7_field 87 = .ok (.aload 6, 2) ∧ decode cX7_field 89 = .ok (.iload_n 3, 1) ∧ decode cX7_field 90 = .ok (.putfield 90, 3) ∧ decode cX7_field 93 = .ok (.aload 6, 2) := by decide +kernel
theorem dX7_field_78 : decode cX7_field 78 = .ok (.putfield 84, 3) := zy_b07work_12.1
theorem dX7_field_81 : decode cX7_field 81 = .ok (.aload 6, 2) := zy_b07work_12.2.1
theorem dX7_field_83 : decode cX7_field 83 = .ok (.iload_n 2, 1) := zy_b07work_12.2.2.1
theorem dX7_field_84 : decode cX7_field 84 = .ok (.putfield 87, 3) := zy_b07work_12.2.2.2.1
theorem dX7_field_87 : decode cX7_field 87 = .ok (.aload 6, 2) := zy_b07work_12.2.2.2.2.1
theorem dX7_field_89 : decode cX7_field 89 = .ok (.iload_n 3, 1) := zy_b07work_12.2.2.2.2.2.1
theorem dX7_field_90 : decode cX7_field 90 = .ok (.putfield 90, 3) := zy_b07work_12.2.2.2.2.2.2.1
theorem dX7_field_93 : decode cX7_field 93 = .ok (.aload 6, 2) := zy_b07work_12.2.2.2.2.2.2.2
theorem zy_b07work_13 : decode cX7_field 95 = .ok (.iload 4, 2) ∧ decode cX7_field 97 = .ok (.putfield 93, 3) ∧ decode cX7_field 100 = .ok (.aload 6, 2) ∧ decode cX7_field 102 = .ok (.iload 5, 2) ∧ decode cX7_field 104 = .ok (.putfield 96, 3) ∧ decode cX7_field 107 = .ok (.aload_n 0, 1) ∧ decode cX7_field 108 = .ok (.dup, 1) ∧ decode cX7_field 109 = .ok (.getfield 77, 3) := by decide +kernel
theorem dX7_field_95 : decode cX7_field 95 = .ok (.iload 4, 2) := zy_b07work_13.1
theorem dX7_field_97 : decode cX7_field 97 = .ok (.putfield 93, 3) := zy_b07work_13.2.1
theorem dX7_field_100 : decode cX7_field 100 = .ok (.aload 6, 2) := zy_b07work_13.2.2.1
theorem dX7_field_102 : decode cX7_field 102 = .ok (.iload 5, 2) := zy_b07work_13.2.2.2.1
theorem dX7_field_104 : decode cX7_field 104 = .ok (.putfield 96, 3) := zy_b07work_13.2.2.2.2.1
theorem dX7_field_107 : decode cX7_field 107 = .ok (.aload_n 0, 1) := zy_b07work_13.2.2.2.2.2.1
theorem dX7_field_108 : decode cX7_field 108 = .ok (.dup, 1) := zy_b07work_13.2.2.2.2.2.2.1
theorem dX7_field_109 : decode cX7_field 109 = .ok (.getfield 77, 3) := zy_b07work_13.2.2.2.2.2.2.2
theorem zy_b07work_14 : decode cX7_field 112 = .ok (.iconst 1, 1) ∧ decode cX7_field 113 = .ok (.iadd, 1) ∧ decode cX7_field 114 = .ok (.putfield 77, 3) ∧ decode cX7_field 117 = .ok (.aload_n 0, 1) ∧ decode cX7_field 118 = .ok (.getfield 77, 3) ∧ decode cX7_field 121 = .ok (.iconst 1, 1) ∧ decode cX7_field 122 = .ok (.isub, 1) ∧ decode cX7_field 123 = .ok (.ireturn, 1) := by decide +kernel
theorem dX7_field_112 : decode cX7_field 112 = .ok (.iconst 1, 1) := zy_b07work_14.1
theorem dX7_field_113 : decode cX7_field 113 = .ok (.iadd, 1) := zy_b07work_14.2.1
theorem dX7_field_114 : decode cX7_field 114 = .ok (.putfield 77, 3) := zy_b07work_14.2.2.1
theorem dX7_field_117 : decode cX7_field 117 = .ok (.aload_n 0, 1) := zy_b07work_14.2.2.2.1
theorem dX7_field_118 : decode cX7_field 118 = .ok (.getfield 77, 3) := zy_b07work_14.2.2.2.2.1
theorem dX7_field_121 : decode cX7_field 121 = .ok (.iconst 1, 1) := zy_b07work_14.2.2.2.2.2.1
theorem dX7_field_122 : decode cX7_field 122 = .ok (.isub, 1) := zy_b07work_14.2.2.2.2.2.2.1
theorem dX7_field_123 : decode cX7_field 123 = .ok (.ireturn, 1) := zy_b07work_14.2.2.2.2.2.2.2
theorem zy_b07work_15 : decode cX7_workDone 0 = .ok (.aload_n 1, 1) ∧ decode cX7_workDone 1 = .ok (.dup, 1) ∧ decode cX7_workDone 2 = .ok (.getfield 90, 3) ∧ decode cX7_workDone 5 = .ok (.iload_n 2, 1) ∧ decode cX7_workDone 6 = .ok (.isub, 1) ∧ decode cX7_workDone 7 = .ok (.putfield 90, 3) ∧ decode cX7_workDone 10 = .ok (.aload_n 1, 1) ∧ decode cX7_workDone 11 = .ok (.getfield 90, 3) := by decide +kernel
theorem dX7_workDone_0 : decode cX7_workDone 0 = .ok (.aload_n 1, 1) := zy_b07work_15.1
theorem dX7_workDone_1 : decode cX7_workDone 1 = .ok (.dup, 1) := zy_b07work_15.2.1
theorem dX7_workDone_2 : decode cX7_workDone 2 = .ok (.getfield 90, 3) := zy_b07work_15.2.2.1
theorem dX7_workDone_5 : decode cX7_workDone 5 = .ok (.iload_n 2, 1) := zy_b07work_15.2.2.2.1
theorem dX7_workDone_6 : decode cX7_workDone 6 = .ok (.isub, 1) := zy_b07work_15.2.2.2.2.1
theorem dX7_workDone_7 : decode cX7_workDone 7 = .ok (.putfield 90, 3) := zy_b07work_15.2.2.2.2.2.1
theorem dX7_workDone_10 : decode cX7_workDone 10 = .ok (.aload_n 1, 1) := zy_b07work_15.2.2.2.2.2.2.1
theorem dX7_workDone_11 : decode cX7_workDone 11 = .ok (.getfield 90, 3) := zy_b07work_15.2.2.2.2.2.2.2
theorem zy_b07work_16 : decode cX7_workDone 14 = .ok (.ifCond .ne 61, 3) ∧ decode cX7_workDone 17 = .ok (.aload_n 1, 1) ∧ decode cX7_workDone 18 = .ok (.aload_n 0, 1) ∧ decode cX7_workDone 19 = .ok (.getfield 129, 3) ∧ decode cX7_workDone 22 = .ok (.putfield 177, 3) ∧ decode cX7_workDone 25 = .ok (.aload_n 1, 1) ∧ decode cX7_workDone 26 = .ok (.aload_n 1, 1) ∧ decode cX7_workDone 27 = .ok (.getfield 96, 3) := by decide +kernel
theorem dX7_workDone_14 : decode cX7_workDone 14 = .ok (.ifCond .ne 61, 3) := zy_b07work_16.1
theorem dX7_workDone_17 : decode cX7_workDone 17 = .ok (.aload_n 1, 1) := zy_b07work_16.2.1
theorem dX7_workDone_18 : decode cX7_workDone 18 = .ok (.aload_n 0, 1) := zy_b07work_16.2.2.1
theorem dX7_workDone_19 : decode cX7_workDone 19 = .ok (.getfield 129, 3) := zy_b07work_16.2.2.2.1
theorem dX7_workDone_22 : decode cX7_workDone 22 = .ok (.putfield 177, 3) := zy_b07work_16.2.2.2.2.1
theorem dX7_workDone_25 : decode cX7_workDone 25 = .ok (.aload_n 1, 1) := zy_b07work_16.2.2.2.2.2.1
theorem dX7_workDone_26 : decode cX7_workDone 26 = .ok (.aload_n 1, 1) := zy_b07work_16.2.2.2.2.2.2.1
theorem dX7_workDone_27 : decode cX7_workDone 27 = .ok (.getfield 96, 3) := zy_b07work_16.2.2.2.2.2.2.2
theorem zy_b07work_17 : decode cX7_workDone 30 = .ok (.aload_n 0, 1) ∧ decode cX7_workDone 31 = .ok (.getfield 129, 3) ∧ decode cX7_workDone 34 = .ok (.aload_n 1, 1) ∧ decode cX7_workDone 35 = .ok (.getfield 93, 3) ∧ decode cX7_workDone 38 = .ok (.isub, 1) ∧ decode cX7_workDone 39 = .ok (.aload_n 0, 1) ∧ decode cX7_workDone 40 = .ok (.getfield 23, 3) ∧ decode cX7_workDone 43 = .ok (.invokestatic 242, 3) := by decide +kernel
theorem dX7_workDone_30 : decode cX7_workDone 30 = .ok (.aload_n 0, 1) := zy_b07work_17.1
theorem dX7_workDone_31 : decode cX7_workDone 31 = .ok (.getfield 129, 3) := zy_b07work_17.2.1
theorem dX7_workDone_34 : decode cX7_workDone 34 = .ok (.aload_n 1, 1) := zy_b07work_17.2.2.1
theorem dX7_workDone_35 : decode cX7_workDone 35 = .ok (.getfield 93, 3) := zy_b07work_17.2.2.2.1
theorem dX7_workDone_38 : decode cX7_workDone 38 = .ok (.isub, 1) := zy_b07work_17.2.2.2.2.1
theorem dX7_workDone_39 : decode cX7_workDone 39 = .ok (.aload_n 0, 1) := zy_b07work_17.2.2.2.2.2.1
theorem dX7_workDone_40 : decode cX7_workDone 40 = .ok (.getfield 23, 3) := zy_b07work_17.2.2.2.2.2.2.1
theorem dX7_workDone_43 : decode cX7_workDone 43 = .ok (.invokestatic 242, 3) := zy_b07work_17.2.2.2.2.2.2.2
theorem zy_b07work_18 : decode cX7_workDone 46 = .ok (.putfield 180, 3) ∧ decode cX7_workDone 49 = .ok (.aload_n 0, 1) ∧ decode cX7_workDone 50 = .ok (.aload_n 1, 1) ∧ decode cX7_workDone 51 = .ok (.getfield 84, 3) ∧ decode cX7_workDone 54 = .ok (.invokevirtual 73, 3) ∧ decode cX7_workDone 57 = .ok (.astore_n 3, 1) ∧ decode cX7_workDone 58 = .ok (.aload_n 3, 1) ∧ decode cX7_workDone 59 = .ok (.ifnull 16, 3) := by decide +kernel
theorem dX7_workDone_46 : decode cX7_workDone 46 = .ok (.putfield 180, 3) := zy_b07work_18.1
theorem dX7_workDone_49 : decode cX7_workDone 49 = .ok (.aload_n 0, 1) := zy_b07work_18.2.1
theorem dX7_workDone_50 : decode cX7_workDone 50 = .ok (.aload_n 1, 1) := zy_b07work_18.2.2.1
theorem dX7_workDone_51 : decode cX7_workDone 51 = .ok (.getfield 84, 3) := zy_b07work_18.2.2.2.1
theorem dX7_workDone_54 : decode cX7_workDone 54 = .ok (.invokevirtual 73, 3) := zy_b07work_18.2.2.2.2.1
theorem dX7_workDone_57 : decode cX7_workDone 57 = .ok (.astore_n 3, 1) := zy_b07work_18.2.2.2.2.2.1
theorem dX7_workDone_58 : decode cX7_workDone 58 = .ok (.aload_n 3, 1) := zy_b07work_18.2.2.2.2.2.2.1
theorem dX7_workDone_59 : decode cX7_workDone 59 = .ok (.ifnull 16, 3) := zy_b07work_18.2.2.2.2.2.2.2
theorem zy_b07work_19 : decode cX7_workDone 62 = .ok (.aload_n 3, 1) ∧ decode cX7_workDone 63 = .ok (.dup, 1) ∧ decode cX7_workDone 64 = .ok (.getfield 174, 3) ∧ decode cX7_workDone 67 = .ok (.aload_n 1, 1) ∧ decode cX7_workDone 68 = .ok (.getfield 180, 3) ∧ decode cX7_workDone 71 = .ok (.iadd, 1) ∧ decode cX7_workDone 72 = .ok (.putfield 174, 3) ∧ decode cX7_workDone 75 = .ok (.aload_n 1, 1) := by decide +kernel
theorem dX7_workDone_62 : decode cX7_workDone 62 = .ok (.aload_n 3, 1) := zy_b07work_19.1
theorem dX7_workDone_63 : decode cX7_workDone 63 = .ok (.dup, 1) := zy_b07work_19.2.1
theorem dX7_workDone_64 : decode cX7_workDone 64 = .ok (.getfield 174, 3) := zy_b07work_19.2.2.1
theorem dX7_workDone_67 : decode cX7_workDone 67 = .ok (.aload_n 1, 1) := zy_b07work_19.2.2.2.1
theorem dX7_workDone_68 : decode cX7_workDone 68 = .ok (.getfield 180, 3) := zy_b07work_19.2.2.2.2.1
theorem dX7_workDone_71 : decode cX7_workDone 71 = .ok (.iadd, 1) := zy_b07work_19.2.2.2.2.2.1
theorem dX7_workDone_72 : decode cX7_workDone 72 = .ok (.putfield 174, 3) := zy_b07work_19.2.2.2.2.2.2.1
theorem dX7_workDone_75 : decode cX7_workDone 75 = .ok (.aload_n 1, 1) := zy_b07work_19.2.2.2.2.2.2.2
theorem dX7_workDone_76 : decode cX7_workDone 76 = .ok (.getfield 90, 3) := by decide +kernel
theorem dX7_workDone_79 : decode cX7_workDone 79 = .ok (.ireturn, 1) := by decide +kernel
theorem zy_b07work_20 : decode cX7_oweForWork 0 = .ok (.aload_n 0, 1) ∧ decode cX7_oweForWork 1 = .ok (.iload_n 1, 1) ∧ decode cX7_oweForWork 2 = .ok (.invokevirtual 73, 3) ∧ decode cX7_oweForWork 5 = .ok (.astore 4, 2) ∧ decode cX7_oweForWork 7 = .ok (.aload_n 0, 1) ∧ decode cX7_oweForWork 8 = .ok (.aload_n 2, 1) ∧ decode cX7_oweForWork 9 = .ok (.getfield 84, 3) ∧ decode cX7_oweForWork 12 = .ok (.invokevirtual 73, 3) := by decide +kernel
theorem dX7_oweForWork_0 : decode cX7_oweForWork 0 = .ok (.aload_n 0, 1) := zy_b07work_20.1
theorem dX7_oweForWork_1 : decode cX7_oweForWork 1 = .ok (.iload_n 1, 1) := zy_b07work_20.2.1
theorem dX7_oweForWork_2 : decode cX7_oweForWork 2 = .ok (.invokevirtual 73, 3) := zy_b07work_20.2.2.1
theorem dX7_oweForWork_5 : decode cX7_oweForWork 5 = .ok (.astore 4, 2) := zy_b07work_20.2.2.2.1
theorem dX7_oweForWork_7 : decode cX7_oweForWork 7 = .ok (.aload_n 0, 1) := zy_b07work_20.2.2.2.2.1
theorem dX7_oweForWork_8 : decode cX7_oweForWork 8 = .ok (.aload_n 2, 1) := zy_b07work_20.2.2.2.2.2.1
theorem dX7_oweForWork_9 : decode cX7_oweForWork 9 = .ok (.getfield 84, 3) := zy_b07work_20.2.2.2.2.2.2.1
theorem dX7_oweForWork_12 : decode cX7_oweForWork 12 = .ok (.invokevirtual 73, 3) := zy_b07work_20.2.2.2.2.2.2.2
theorem zy_b07work_21 : decode cX7_oweForWork 15 = .ok (.astore 5, 2) ∧ decode cX7_oweForWork 17 = .ok (.aload 4, 2) ∧ decode cX7_oweForWork 19 = .ok (.ifnull 20, 3) ∧ decode cX7_oweForWork 22 = .ok (.aload 5, 2) ∧ decode cX7_oweForWork 24 = .ok (.ifnull 15, 3) ∧ decode cX7_oweForWork 27 = .ok (.aload_n 2, 1) ∧ decode cX7_oweForWork 28 = .ok (.getfield 87, 3) ∧ decode cX7_oweForWork 31 = .ok (.iconst 0, 1) := by decide +kernel
theorem dX7_oweForWork_15 : decode cX7_oweForWork 15 = .ok (.astore 5, 2) := zy_b07work_21.1
theorem dX7_oweForWork_17 : decode cX7_oweForWork 17 = .ok (.aload 4, 2) := zy_b07work_21.2.1
theorem dX7_oweForWork_19 : decode cX7_oweForWork 19 = .ok (.ifnull 20, 3) := zy_b07work_21.2.2.1
theorem dX7_oweForWork_22 : decode cX7_oweForWork 22 = .ok (.aload 5, 2) := zy_b07work_21.2.2.2.1
theorem dX7_oweForWork_24 : decode cX7_oweForWork 24 = .ok (.ifnull 15, 3) := zy_b07work_21.2.2.2.2.1
theorem dX7_oweForWork_27 : decode cX7_oweForWork 27 = .ok (.aload_n 2, 1) := zy_b07work_21.2.2.2.2.2.1
theorem dX7_oweForWork_28 : decode cX7_oweForWork 28 = .ok (.getfield 87, 3) := zy_b07work_21.2.2.2.2.2.2.1
theorem dX7_oweForWork_31 : decode cX7_oweForWork 31 = .ok (.iconst 0, 1) := zy_b07work_21.2.2.2.2.2.2.2
theorem zy_b07work_22 : decode cX7_oweForWork 32 = .ok (.iconst 2, 1) ∧ decode cX7_oweForWork 33 = .ok (.invokestatic 80, 3) ∧ decode cX7_oweForWork 36 = .ok (.ifCond .ne 4, 3) ∧ decode cX7_oweForWork 39 = .ok (.return_, 1) ∧ decode cX7_oweForWork 40 = .ok (.aload_n 0, 1) ∧ decode cX7_oweForWork 41 = .ok (.getfield 44, 3) ∧ decode cX7_oweForWork 44 = .ok (.iload_n 1, 1) ∧ decode cX7_oweForWork 45 = .ok (.aload_n 2, 1) := by decide +kernel
theorem dX7_oweForWork_32 : decode cX7_oweForWork 32 = .ok (.iconst 2, 1) := zy_b07work_22.1
theorem dX7_oweForWork_33 : decode cX7_oweForWork 33 = .ok (.invokestatic 80, 3) := zy_b07work_22.2.1
theorem dX7_oweForWork_36 : decode cX7_oweForWork 36 = .ok (.ifCond .ne 4, 3) := zy_b07work_22.2.2.1
theorem dX7_oweForWork_39 : decode cX7_oweForWork 39 = .ok (.return_, 1) := zy_b07work_22.2.2.2.1
theorem dX7_oweForWork_40 : decode cX7_oweForWork 40 = .ok (.aload_n 0, 1) := zy_b07work_22.2.2.2.2.1
theorem dX7_oweForWork_41 : decode cX7_oweForWork 41 = .ok (.getfield 44, 3) := zy_b07work_22.2.2.2.2.2.1
theorem dX7_oweForWork_44 : decode cX7_oweForWork 44 = .ok (.iload_n 1, 1) := zy_b07work_22.2.2.2.2.2.2.1
theorem dX7_oweForWork_45 : decode cX7_oweForWork 45 = .ok (.aload_n 2, 1) := zy_b07work_22.2.2.2.2.2.2.2
theorem zy_b07work_23 : decode cX7_oweForWork 46 = .ok (.getfield 84, 3) ∧ decode cX7_oweForWork 49 = .ok (.iload_n 3, 1) ∧ decode cX7_oweForWork 50 = .ok (.aload_n 0, 1) ∧ decode cX7_oweForWork 51 = .ok (.getfield 37, 3) ∧ decode cX7_oweForWork 54 = .ok (.getfield 116, 3) ∧ decode cX7_oweForWork 57 = .ok (.aload_n 2, 1) ∧ decode cX7_oweForWork 58 = .ok (.getfield 87, 3) ∧ decode cX7_oweForWork 61 = .ok (.iaload, 1) := by decide +kernel
theorem dX7_oweForWork_46 : decode cX7_oweForWork 46 = .ok (.getfield 84, 3) := zy_b07work_23.1
theorem dX7_oweForWork_49 : decode cX7_oweForWork 49 = .ok (.iload_n 3, 1) := zy_b07work_23.2.1
theorem dX7_oweForWork_50 : decode cX7_oweForWork 50 = .ok (.aload_n 0, 1) := zy_b07work_23.2.2.1
theorem dX7_oweForWork_51 : decode cX7_oweForWork 51 = .ok (.getfield 37, 3) := zy_b07work_23.2.2.2.1
theorem dX7_oweForWork_54 : decode cX7_oweForWork 54 = .ok (.getfield 116, 3) := zy_b07work_23.2.2.2.2.1
theorem dX7_oweForWork_57 : decode cX7_oweForWork 57 = .ok (.aload_n 2, 1) := zy_b07work_23.2.2.2.2.2.1
theorem dX7_oweForWork_58 : decode cX7_oweForWork 58 = .ok (.getfield 87, 3) := zy_b07work_23.2.2.2.2.2.2.1
theorem dX7_oweForWork_61 : decode cX7_oweForWork 61 = .ok (.iaload, 1) := zy_b07work_23.2.2.2.2.2.2.2
theorem zy_b07work_24 : decode cX7_oweForWork 62 = .ok (.imul, 1) ∧ decode cX7_oweForWork 63 = .ok (.invokevirtual 234, 3) ∧ decode cX7_oweForWork 66 = .ok (.istore 6, 2) ∧ decode cX7_oweForWork 68 = .ok (.aload_n 0, 1) ∧ decode cX7_oweForWork 69 = .ok (.getfield 44, 3) ∧ decode cX7_oweForWork 72 = .ok (.aload_n 2, 1) ∧ decode cX7_oweForWork 73 = .ok (.getfield 84, 3) ∧ decode cX7_oweForWork 76 = .ok (.iload_n 1, 1) := by decide +kernel
theorem dX7_oweForWork_62 : decode cX7_oweForWork 62 = .ok (.imul, 1) := zy_b07work_24.1
theorem dX7_oweForWork_63 : decode cX7_oweForWork 63 = .ok (.invokevirtual 234, 3) := zy_b07work_24.2.1
theorem dX7_oweForWork_66 : decode cX7_oweForWork 66 = .ok (.istore 6, 2) := zy_b07work_24.2.2.1
theorem dX7_oweForWork_68 : decode cX7_oweForWork 68 = .ok (.aload_n 0, 1) := zy_b07work_24.2.2.2.1
theorem dX7_oweForWork_69 : decode cX7_oweForWork 69 = .ok (.getfield 44, 3) := zy_b07work_24.2.2.2.2.1
theorem dX7_oweForWork_72 : decode cX7_oweForWork 72 = .ok (.aload_n 2, 1) := zy_b07work_24.2.2.2.2.2.1
theorem dX7_oweForWork_73 : decode cX7_oweForWork 73 = .ok (.getfield 84, 3) := zy_b07work_24.2.2.2.2.2.2.1
theorem dX7_oweForWork_76 : decode cX7_oweForWork 76 = .ok (.iload_n 1, 1) := zy_b07work_24.2.2.2.2.2.2.2
theorem zy_b07work_25 : decode cX7_oweForWork 77 = .ok (.aload_n 0, 1) ∧ decode cX7_oweForWork 78 = .ok (.getfield 129, 3) ∧ decode cX7_oweForWork 81 = .ok (.iload 6, 2) ∧ decode cX7_oweForWork 83 = .ok (.invokevirtual 238, 3) ∧ decode cX7_oweForWork 86 = .ok (.iload_n 3, 1) ∧ decode cX7_oweForWork 87 = .ok (.aload_n 0, 1) ∧ decode cX7_oweForWork 88 = .ok (.getfield 37, 3) ∧ decode cX7_oweForWork 91 = .ok (.getfield 116, 3) := by decide +kernel
theorem dX7_oweForWork_77 : decode cX7_oweForWork 77 = .ok (.aload_n 0, 1) := zy_b07work_25.1
theorem dX7_oweForWork_78 : decode cX7_oweForWork 78 = .ok (.getfield 129, 3) := zy_b07work_25.2.1
theorem dX7_oweForWork_81 : decode cX7_oweForWork 81 = .ok (.iload 6, 2) := zy_b07work_25.2.2.1
theorem dX7_oweForWork_83 : decode cX7_oweForWork 83 = .ok (.invokevirtual 238, 3) := zy_b07work_25.2.2.2.1
theorem dX7_oweForWork_86 : decode cX7_oweForWork 86 = .ok (.iload_n 3, 1) := zy_b07work_25.2.2.2.2.1
theorem dX7_oweForWork_87 : decode cX7_oweForWork 87 = .ok (.aload_n 0, 1) := zy_b07work_25.2.2.2.2.2.1
theorem dX7_oweForWork_88 : decode cX7_oweForWork 88 = .ok (.getfield 37, 3) := zy_b07work_25.2.2.2.2.2.2.1
theorem dX7_oweForWork_91 : decode cX7_oweForWork 91 = .ok (.getfield 116, 3) := zy_b07work_25.2.2.2.2.2.2.2
theorem zy_b07work_26 : decode cX7_oweForWork 94 = .ok (.iconst 5, 1) ∧ decode cX7_oweForWork 95 = .ok (.iaload, 1) ∧ decode cX7_oweForWork 96 = .ok (.imul, 1) ∧ decode cX7_oweForWork 97 = .ok (.istore 7, 2) ∧ decode cX7_oweForWork 99 = .ok (.aload 4, 2) ∧ decode cX7_oweForWork 101 = .ok (.dup, 1) ∧ decode cX7_oweForWork 102 = .ok (.getfield 165, 3) ∧ decode cX7_oweForWork 105 = .ok (.iload 7, 2) := by decide +kernel
theorem dX7_oweForWork_94 : decode cX7_oweForWork 94 = .ok (.iconst 5, 1) := zy_b07work_26.1
theorem dX7_oweForWork_95 : decode cX7_oweForWork 95 = .ok (.iaload, 1) := zy_b07work_26.2.1
theorem dX7_oweForWork_96 : decode cX7_oweForWork 96 = .ok (.imul, 1) := zy_b07work_26.2.2.1
theorem dX7_oweForWork_97 : decode cX7_oweForWork 97 = .ok (.istore 7, 2) := zy_b07work_26.2.2.2.1
theorem dX7_oweForWork_99 : decode cX7_oweForWork 99 = .ok (.aload 4, 2) := zy_b07work_26.2.2.2.2.1
theorem dX7_oweForWork_101 : decode cX7_oweForWork 101 = .ok (.dup, 1) := zy_b07work_26.2.2.2.2.2.1
theorem dX7_oweForWork_102 : decode cX7_oweForWork 102 = .ok (.getfield 165, 3) := zy_b07work_26.2.2.2.2.2.2.1
theorem dX7_oweForWork_105 : decode cX7_oweForWork 105 = .ok (.iload 7, 2) := zy_b07work_26.2.2.2.2.2.2.2
theorem zy_b07work_27 : decode cX7_oweForWork 107 = .ok (.iadd, 1) ∧ decode cX7_oweForWork 108 = .ok (.putfield 165, 3) ∧ decode cX7_oweForWork 111 = .ok (.aload 5, 2) ∧ decode cX7_oweForWork 113 = .ok (.dup, 1) ∧ decode cX7_oweForWork 114 = .ok (.getfield 168, 3) ∧ decode cX7_oweForWork 117 = .ok (.iload 7, 2) ∧ decode cX7_oweForWork 119 = .ok (.iadd, 1) ∧ decode cX7_oweForWork 120 = .ok (.putfield 168, 3) := by decide +kernel
theorem dX7_oweForWork_107 : decode cX7_oweForWork 107 = .ok (.iadd, 1) := zy_b07work_27.1
theorem dX7_oweForWork_108 : decode cX7_oweForWork 108 = .ok (.putfield 165, 3) := zy_b07work_27.2.1
theorem dX7_oweForWork_111 : decode cX7_oweForWork 111 = .ok (.aload 5, 2) := zy_b07work_27.2.2.1
theorem dX7_oweForWork_113 : decode cX7_oweForWork 113 = .ok (.dup, 1) := zy_b07work_27.2.2.2.1
theorem dX7_oweForWork_114 : decode cX7_oweForWork 114 = .ok (.getfield 168, 3) := zy_b07work_27.2.2.2.2.1
theorem dX7_oweForWork_117 : decode cX7_oweForWork 117 = .ok (.iload 7, 2) := zy_b07work_27.2.2.2.2.2.1
theorem dX7_oweForWork_119 : decode cX7_oweForWork 119 = .ok (.iadd, 1) := zy_b07work_27.2.2.2.2.2.2.1
theorem dX7_oweForWork_120 : decode cX7_oweForWork 120 = .ok (.putfield 168, 3) := zy_b07work_27.2.2.2.2.2.2.2
theorem dX7_oweForWork_123 : decode cX7_oweForWork 123 = .ok (.return_, 1) := by decide +kernel
