theorem tw_168 : Cond.code yX7_waitingFields cX7_waitingFields 3 (some .int) ∈ zz_all := zz_m3 124 rfl rfl
theorem tw_169 : Cond.methodLink RX7 205 yX7_waitingFields ∈ zz_all := zz_m3 121 rfl rfl
theorem tw_170 : Cond.instanceMethod yX7_waitingFields ∈ zz_all := zz_m3 123 rfl rfl
theorem tw_171 : Cond.selects RX7 yX7_waitingFields yX7_waitingFields ∈ zz_all := zz_ms 30 rfl rfl
theorem tw_172 : Cond.fieldLink RX7 58 "HandsReturned" "order" "LHandsReturned$Plan;" ∈ zz_all := zz_m2 33 rfl rfl
theorem tw_173 : Cond.code yX5_begin cX5_begin 3 none ∈ zz_all := zz_m3 128 rfl rfl
theorem tw_174 : Cond.instanceMethod yX5_begin ∈ zz_all := zz_m3 127 rfl rfl
theorem tw_175 : Cond.selects RX5 yX5_begin yX5_begin ∈ zz_all := zz_ms 31 rfl rfl
theorem tw_176 : Cond.code yX5_choose cX5_choose 6 (some .int) ∈ zz_all := zz_m3 141 rfl rfl
theorem tw_177 : Cond.instanceMethod yX5_choose ∈ zz_all := zz_m3 140 rfl rfl
theorem tw_178 : Cond.selects RX5 yX5_choose yX5_choose ∈ zz_all := zz_ms 34 rfl rfl
theorem tw_179 : Cond.code yX5_take cX5_take 6 none ∈ zz_all := zz_m3 133 rfl rfl
theorem tw_180 : Cond.instanceMethod yX5_take ∈ zz_all := zz_m3 132 rfl rfl
theorem tw_181 : Cond.selects RX5 yX5_take yX5_take ∈ zz_all := zz_ms 32 rfl rfl
theorem zy_b14plan3_0 : decode cX7_waitingFields 0 = .ok (.iconst 0, 1) ∧ decode cX7_waitingFields 1 = .ok (.istore_n 1, 1) ∧ decode cX7_waitingFields 2 = .ok (.iconst 0, 1) ∧ decode cX7_waitingFields 3 = .ok (.istore_n 2, 1) ∧ decode cX7_waitingFields 4 = .ok (.iload_n 2, 1) ∧ decode cX7_waitingFields 5 = .ok (.aload_n 0, 1) ∧ decode cX7_waitingFields 6 = .ok (.getfield 77, 3) ∧ decode cX7_waitingFields 9 = .ok (.if_icmp .ge 24, 3) := by decide +kernel
theorem dX7_waitingFields_0 : decode cX7_waitingFields 0 = .ok (.iconst 0, 1) := zy_b14plan3_0.1
theorem dX7_waitingFields_1 : decode cX7_waitingFields 1 = .ok (.istore_n 1, 1) := zy_b14plan3_0.2.1
theorem dX7_waitingFields_2 : decode cX7_waitingFields 2 = .ok (.iconst 0, 1) := zy_b14plan3_0.2.2.1
theorem dX7_waitingFields_3 : decode cX7_waitingFields 3 = .ok (.istore_n 2, 1) := zy_b14plan3_0.2.2.2.1
theorem dX7_waitingFields_4 : decode cX7_waitingFields 4 = .ok (.iload_n 2, 1) := zy_b14plan3_0.2.2.2.2.1
theorem dX7_waitingFields_5 : decode cX7_waitingFields 5 = .ok (.aload_n 0, 1) := zy_b14plan3_0.2.2.2.2.2.1
theorem dX7_waitingFields_6 : decode cX7_waitingFields 6 = .ok (.getfield 77, 3) := zy_b14plan3_0.2.2.2.2.2.2.1
theorem dX7_waitingFields_9 : decode cX7_waitingFields 9 = .ok (.if_icmp .ge 24, 3) := zy_b14plan3_0.2.2.2.2.2.2.2
theorem zy_b14plan3_1 : decode cX7_waitingFields 12 = .ok (.aload_n 0, 1) ∧ decode cX7_waitingFields 13 = .ok (.getfield 18, 3) ∧ decode cX7_waitingFields 16 = .ok (.iload_n 2, 1) ∧ decode cX7_waitingFields 17 = .ok (.aaload, 1) ∧ decode cX7_waitingFields 18 = .ok (.getfield 90, 3) ∧ decode cX7_waitingFields 21 = .ok (.ifCond .le 6, 3) ∧ decode cX7_waitingFields 24 = .ok (.iinc 1 1, 3) ∧ decode cX7_waitingFields 27 = .ok (.iinc 2 1, 3) := by decide +kernel
theorem dX7_waitingFields_12 : decode cX7_waitingFields 12 = .ok (.aload_n 0, 1) := zy_b14plan3_1.1
theorem dX7_waitingFields_13 : decode cX7_waitingFields 13 = .ok (.getfield 18, 3) := zy_b14plan3_1.2.1
theorem dX7_waitingFields_16 : decode cX7_waitingFields 16 = .ok (.iload_n 2, 1) := zy_b14plan3_1.2.2.1
theorem dX7_waitingFields_17 : decode cX7_waitingFields 17 = .ok (.aaload, 1) := zy_b14plan3_1.2.2.2.1
theorem dX7_waitingFields_18 : decode cX7_waitingFields 18 = .ok (.getfield 90, 3) := zy_b14plan3_1.2.2.2.2.1
theorem dX7_waitingFields_21 : decode cX7_waitingFields 21 = .ok (.ifCond .le 6, 3) := zy_b14plan3_1.2.2.2.2.2.1
theorem dX7_waitingFields_24 : decode cX7_waitingFields 24 = .ok (.iinc 1 1, 3) := zy_b14plan3_1.2.2.2.2.2.2.1
theorem dX7_waitingFields_27 : decode cX7_waitingFields 27 = .ok (.iinc 2 1, 3) := zy_b14plan3_1.2.2.2.2.2.2.2
theorem zy_b14plan3_2 : decode cX7_waitingFields 30 = .ok (.goto (-26), 3) ∧ decode cX7_waitingFields 33 = .ok (.iload_n 1, 1) ∧ decode cX7_waitingFields 34 = .ok (.ireturn, 1) := by decide +kernel
theorem dX7_waitingFields_30 : decode cX7_waitingFields 30 = .ok (.goto (-26), 3) := zy_b14plan3_2.1
theorem dX7_waitingFields_33 : decode cX7_waitingFields 33 = .ok (.iload_n 1, 1) := zy_b14plan3_2.2.1
theorem dX7_waitingFields_34 : decode cX7_waitingFields 34 = .ok (.ireturn, 1) := zy_b14plan3_2.2.2
theorem zy_b14plan3_3 : decode cX7_plan 0 = .ok (.iload_n 1, 1) ∧ decode cX7_plan 1 = .ok (.iconst 1, 1) ∧ decode cX7_plan 2 = .ok (.bipush 99, 2) ∧ decode cX7_plan 4 = .ok (.invokestatic 80, 3) ∧ decode cX7_plan 7 = .ok (.ifCond .eq 12, 3) ∧ decode cX7_plan 10 = .ok (.aload_n 0, 1) ∧ decode cX7_plan 11 = .ok (.invokevirtual 205, 3) ∧ decode cX7_plan 14 = .ok (.bipush 7, 2) := by decide +kernel
theorem dX7_plan_0 : decode cX7_plan 0 = .ok (.iload_n 1, 1) := zy_b14plan3_3.1
theorem dX7_plan_1 : decode cX7_plan 1 = .ok (.iconst 1, 1) := zy_b14plan3_3.2.1
theorem dX7_plan_2 : decode cX7_plan 2 = .ok (.bipush 99, 2) := zy_b14plan3_3.2.2.1
theorem dX7_plan_4 : decode cX7_plan 4 = .ok (.invokestatic 80, 3) := zy_b14plan3_3.2.2.2.1
theorem dX7_plan_7 : decode cX7_plan 7 = .ok (.ifCond .eq 12, 3) := zy_b14plan3_3.2.2.2.2.1
theorem dX7_plan_10 : decode cX7_plan 10 = .ok (.aload_n 0, 1) := zy_b14plan3_3.2.2.2.2.2.1
theorem dX7_plan_11 : decode cX7_plan 11 = .ok (.invokevirtual 205, 3) := zy_b14plan3_3.2.2.2.2.2.2.1
theorem dX7_plan_14 : decode cX7_plan 14 = .ok (.bipush 7, 2) := zy_b14plan3_3.2.2.2.2.2.2.2
theorem zy_b14plan3_4 : decode cX7_plan 16 = .ok (.if_icmp .le 5, 3) ∧ decode cX7_plan 19 = .ok (.iconst (-1), 1) ∧ decode cX7_plan 20 = .ok (.ireturn, 1) ∧ decode cX7_plan 21 = .ok (.aload_n 0, 1) ∧ decode cX7_plan 22 = .ok (.getfield 58, 3) ∧ decode cX7_plan 25 = .ok (.aload_n 0, 1) ∧ decode cX7_plan 26 = .ok (.getfield 129, 3) ∧ decode cX7_plan 29 = .ok (.iload_n 1, 1) := by decide +kernel
theorem dX7_plan_16 : decode cX7_plan 16 = .ok (.if_icmp .le 5, 3) := zy_b14plan3_4.1
theorem dX7_plan_19 : decode cX7_plan 19 = .ok (.iconst (-1), 1) := zy_b14plan3_4.2.1
theorem dX7_plan_20 : decode cX7_plan 20 = .ok (.ireturn, 1) := zy_b14plan3_4.2.2.1
theorem dX7_plan_21 : decode cX7_plan 21 = .ok (.aload_n 0, 1) := zy_b14plan3_4.2.2.2.1
theorem dX7_plan_22 : decode cX7_plan 22 = .ok (.getfield 58, 3) := zy_b14plan3_4.2.2.2.2.1
theorem dX7_plan_25 : decode cX7_plan 25 = .ok (.aload_n 0, 1) := zy_b14plan3_4.2.2.2.2.2.1
theorem dX7_plan_26 : decode cX7_plan 26 = .ok (.getfield 129, 3) := zy_b14plan3_4.2.2.2.2.2.2.1
theorem dX7_plan_29 : decode cX7_plan 29 = .ok (.iload_n 1, 1) := zy_b14plan3_4.2.2.2.2.2.2.2
theorem zy_b14plan3_5 : decode cX7_plan 30 = .ok (.invokevirtual 208, 3) ∧ decode cX7_plan 33 = .ok (.iconst 0, 1) ∧ decode cX7_plan 34 = .ok (.istore_n 2, 1) ∧ decode cX7_plan 35 = .ok (.iload_n 2, 1) ∧ decode cX7_plan 36 = .ok (.aload_n 0, 1) ∧ decode cX7_plan 37 = .ok (.getfield 77, 3) ∧ decode cX7_plan 40 = .ok (.if_icmp .ge 35, 3) ∧ decode cX7_plan 43 = .ok (.aload_n 0, 1) := by decide +kernel
theorem dX7_plan_30 : decode cX7_plan 30 = .ok (.invokevirtual 208, 3) := zy_b14plan3_5.1
theorem dX7_plan_33 : decode cX7_plan 33 = .ok (.iconst 0, 1) := zy_b14plan3_5.2.1
theorem dX7_plan_34 : decode cX7_plan 34 = .ok (.istore_n 2, 1) := zy_b14plan3_5.2.2.1
theorem dX7_plan_35 : decode cX7_plan 35 = .ok (.iload_n 2, 1) := zy_b14plan3_5.2.2.2.1
theorem dX7_plan_36 : decode cX7_plan 36 = .ok (.aload_n 0, 1) := zy_b14plan3_5.2.2.2.2.1
theorem dX7_plan_37 : decode cX7_plan 37 = .ok (.getfield 77, 3) := zy_b14plan3_5.2.2.2.2.2.1
theorem dX7_plan_40 : decode cX7_plan 40 = .ok (.if_icmp .ge 35, 3) := zy_b14plan3_5.2.2.2.2.2.2.1
theorem dX7_plan_43 : decode cX7_plan 43 = .ok (.aload_n 0, 1) := zy_b14plan3_5.2.2.2.2.2.2.2
theorem zy_b14plan3_6 : decode cX7_plan 44 = .ok (.getfield 18, 3) ∧ decode cX7_plan 47 = .ok (.iload_n 2, 1) ∧ decode cX7_plan 48 = .ok (.aaload, 1) ∧ decode cX7_plan 49 = .ok (.getfield 90, 3) ∧ decode cX7_plan 52 = .ok (.ifCond .le 17, 3) ∧ decode cX7_plan 55 = .ok (.aload_n 0, 1) ∧ decode cX7_plan 56 = .ok (.getfield 58, 3) ∧ decode cX7_plan 59 = .ok (.iload_n 2, 1) := by decide +kernel
theorem dX7_plan_44 : decode cX7_plan 44 = .ok (.getfield 18, 3) := zy_b14plan3_6.1
theorem dX7_plan_47 : decode cX7_plan 47 = .ok (.iload_n 2, 1) := zy_b14plan3_6.2.1
theorem dX7_plan_48 : decode cX7_plan 48 = .ok (.aaload, 1) := zy_b14plan3_6.2.2.1
theorem dX7_plan_49 : decode cX7_plan 49 = .ok (.getfield 90, 3) := zy_b14plan3_6.2.2.2.1
theorem dX7_plan_52 : decode cX7_plan 52 = .ok (.ifCond .le 17, 3) := zy_b14plan3_6.2.2.2.2.1
theorem dX7_plan_55 : decode cX7_plan 55 = .ok (.aload_n 0, 1) := zy_b14plan3_6.2.2.2.2.2.1
theorem dX7_plan_56 : decode cX7_plan 56 = .ok (.getfield 58, 3) := zy_b14plan3_6.2.2.2.2.2.2.1
theorem dX7_plan_59 : decode cX7_plan 59 = .ok (.iload_n 2, 1) := zy_b14plan3_6.2.2.2.2.2.2.2
theorem zy_b14plan3_7 : decode cX7_plan 60 = .ok (.aload_n 0, 1) ∧ decode cX7_plan 61 = .ok (.getfield 18, 3) ∧ decode cX7_plan 64 = .ok (.iload_n 2, 1) ∧ decode cX7_plan 65 = .ok (.aaload, 1) ∧ decode cX7_plan 66 = .ok (.invokevirtual 212, 3) ∧ decode cX7_plan 69 = .ok (.iinc 2 1, 3) ∧ decode cX7_plan 72 = .ok (.goto (-37), 3) ∧ decode cX7_plan 75 = .ok (.aload_n 0, 1) := by decide +kernel
theorem dX7_plan_60 : decode cX7_plan 60 = .ok (.aload_n 0, 1) := zy_b14plan3_7.1
theorem dX7_plan_61 : decode cX7_plan 61 = .ok (.getfield 18, 3) := zy_b14plan3_7.2.1
theorem dX7_plan_64 : decode cX7_plan 64 = .ok (.iload_n 2, 1) := zy_b14plan3_7.2.2.1
theorem dX7_plan_65 : decode cX7_plan 65 = .ok (.aaload, 1) := zy_b14plan3_7.2.2.2.1
theorem dX7_plan_66 : decode cX7_plan 66 = .ok (.invokevirtual 212, 3) := zy_b14plan3_7.2.2.2.2.1
theorem dX7_plan_69 : decode cX7_plan 69 = .ok (.iinc 2 1, 3) := zy_b14plan3_7.2.2.2.2.2.1
theorem dX7_plan_72 : decode cX7_plan 72 = .ok (.goto (-37), 3) := zy_b14plan3_7.2.2.2.2.2.2.1
theorem dX7_plan_75 : decode cX7_plan 75 = .ok (.aload_n 0, 1) := zy_b14plan3_7.2.2.2.2.2.2.2
theorem zy_b14plan3_8 : decode cX7_plan 76 = .ok (.getfield 58, 3) ∧ decode cX7_plan 79 = .ok (.aload_n 0, 1) ∧ decode cX7_plan 80 = .ok (.getfield 23, 3) ∧ decode cX7_plan 83 = .ok (.invokevirtual 216, 3) ∧ decode cX7_plan 86 = .ok (.ireturn, 1) := by decide +kernel
theorem dX7_plan_76 : decode cX7_plan 76 = .ok (.getfield 58, 3) := zy_b14plan3_8.1
theorem dX7_plan_79 : decode cX7_plan 79 = .ok (.aload_n 0, 1) := zy_b14plan3_8.2.1
theorem dX7_plan_80 : decode cX7_plan 80 = .ok (.getfield 23, 3) := zy_b14plan3_8.2.2.1
theorem dX7_plan_83 : decode cX7_plan 83 = .ok (.invokevirtual 216, 3) := zy_b14plan3_8.2.2.2.1
theorem dX7_plan_86 : decode cX7_plan 86 = .ok (.ireturn, 1) := zy_b14plan3_8.2.2.2.2
theorem zy_b14plan3_9 : decode cX7_planned 0 = .ok (.iload_n 1, 1) ∧ decode cX7_planned 1 = .ok (.iconst 0, 1) ∧ decode cX7_planned 2 = .ok (.aload_n 0, 1) ∧ decode cX7_planned 3 = .ok (.getfield 58, 3) ∧ decode cX7_planned 6 = .ok (.getfield 220, 3) ∧ decode cX7_planned 9 = .ok (.iconst 1, 1) ∧ decode cX7_planned 10 = .ok (.isub, 1) ∧ decode cX7_planned 11 = .ok (.invokestatic 80, 3) := by decide +kernel
theorem dX7_planned_0 : decode cX7_planned 0 = .ok (.iload_n 1, 1) := zy_b14plan3_9.1
theorem dX7_planned_1 : decode cX7_planned 1 = .ok (.iconst 0, 1) := zy_b14plan3_9.2.1
theorem dX7_planned_2 : decode cX7_planned 2 = .ok (.aload_n 0, 1) := zy_b14plan3_9.2.2.1
theorem dX7_planned_3 : decode cX7_planned 3 = .ok (.getfield 58, 3) := zy_b14plan3_9.2.2.2.1
theorem dX7_planned_6 : decode cX7_planned 6 = .ok (.getfield 220, 3) := zy_b14plan3_9.2.2.2.2.1
theorem dX7_planned_9 : decode cX7_planned 9 = .ok (.iconst 1, 1) := zy_b14plan3_9.2.2.2.2.2.1
theorem dX7_planned_10 : decode cX7_planned 10 = .ok (.isub, 1) := zy_b14plan3_9.2.2.2.2.2.2.1
theorem dX7_planned_11 : decode cX7_planned 11 = .ok (.invokestatic 80, 3) := zy_b14plan3_9.2.2.2.2.2.2.2
theorem zy_b14plan3_10 : decode cX7_planned 14 = .ok (.ifCond .eq 15, 3) ∧ decode cX7_planned 17 = .ok (.aload_n 0, 1) ∧ decode cX7_planned 18 = .ok (.getfield 58, 3) ∧ decode cX7_planned 21 = .ok (.getfield 223, 3) ∧ decode cX7_planned 24 = .ok (.iload_n 1, 1) ∧ decode cX7_planned 25 = .ok (.iaload, 1) ∧ decode cX7_planned 26 = .ok (.goto 4, 3) ∧ decode cX7_planned 29 = .ok (.iconst (-1), 1) := by decide +kernel
theorem dX7_planned_14 : decode cX7_planned 14 = .ok (.ifCond .eq 15, 3) := zy_b14plan3_10.1
theorem dX7_planned_17 : decode cX7_planned 17 = .ok (.aload_n 0, 1) := zy_b14plan3_10.2.1
theorem dX7_planned_18 : decode cX7_planned 18 = .ok (.getfield 58, 3) := zy_b14plan3_10.2.2.1
theorem dX7_planned_21 : decode cX7_planned 21 = .ok (.getfield 223, 3) := zy_b14plan3_10.2.2.2.1
theorem dX7_planned_24 : decode cX7_planned 24 = .ok (.iload_n 1, 1) := zy_b14plan3_10.2.2.2.2.1
theorem dX7_planned_25 : decode cX7_planned 25 = .ok (.iaload, 1) := zy_b14plan3_10.2.2.2.2.2.1
theorem dX7_planned_26 : decode cX7_planned 26 = .ok (.goto 4, 3) := zy_b14plan3_10.2.2.2.2.2.2.1
theorem dX7_planned_29 : decode cX7_planned 29 = .ok (.iconst (-1), 1) := zy_b14plan3_10.2.2.2.2.2.2.2
theorem dX7_planned_30 : decode cX7_planned 30 = .ok (.ireturn, 1) := by decide +kernel
