theorem tw_142 : Cond.fieldLink RX5 36 "HandsReturned$Plan" "count" "I" ∈ zz_all := zz_m1 238 rfl rfl
theorem tw_143 : Cond.fieldLink RX5 40 "HandsReturned$Plan" "today" "I" ∈ zz_all := zz_m1 239 rfl rfl
theorem tw_144 : Cond.methodLink RX5 43 Lib.Math.max.name ∈ zz_all := zz_m3 129 rfl rfl
theorem tw_145 : Cond.fieldLink RX5 49 "HandsReturned$Plan" "hands" "I" ∈ zz_all := zz_m2 0 rfl rfl
theorem tw_146 : Cond.fieldLink RX5 9 "HandsReturned$Plan" "numbers" "[I" ∈ zz_all := zz_m1 227 rfl rfl
theorem tw_147 : Cond.fieldLink RX5 15 "HandsReturned$Plan" "starts" "[I" ∈ zz_all := zz_m1 228 rfl rfl
theorem tw_148 : Cond.fieldLink RX5 18 "HandsReturned$Plan" "lacks" "[I" ∈ zz_all := zz_m1 229 rfl rfl
theorem tw_149 : Cond.fieldLink RX5 21 "HandsReturned$Plan" "readies" "[I" ∈ zz_all := zz_m1 230 rfl rfl
theorem tw_150 : Cond.fieldLink RX5 24 "HandsReturned$Plan" "values" "[I" ∈ zz_all := zz_m1 231 rfl rfl
theorem tw_151 : Cond.code yX5_move cX5_move 3 none ∈ zz_all := zz_m3 137 rfl rfl
theorem tw_152 : Cond.initialized RX5 ∈ zz_all := zz_m1 9 rfl rfl
theorem tw_153 : Cond.methodLink RX5 57 yX5_move ∈ zz_all := zz_m3 134 rfl rfl
theorem tw_154 : Cond.instanceMethod yX5_move ∈ zz_all := zz_m3 136 rfl rfl
theorem tw_155 : Cond.selects RX5 yX5_move yX5_move ∈ zz_all := zz_ms 33 rfl rfl
theorem zy_b12plan_0 : decode cX5_begin 0 = .ok (.aload_n 0, 1) ∧ decode cX5_begin 1 = .ok (.iconst 0, 1) ∧ decode cX5_begin 2 = .ok (.putfield 36, 3) ∧ decode cX5_begin 5 = .ok (.aload_n 0, 1) ∧ decode cX5_begin 6 = .ok (.iload_n 1, 1) ∧ decode cX5_begin 7 = .ok (.putfield 40, 3) ∧ decode cX5_begin 10 = .ok (.aload_n 0, 1) ∧ decode cX5_begin 11 = .ok (.iconst 1, 1) := by decide +kernel
theorem dX5_begin_0 : decode cX5_begin 0 = .ok (.aload_n 0, 1) := zy_b12plan_0.1
theorem dX5_begin_1 : decode cX5_begin 1 = .ok (.iconst 0, 1) := zy_b12plan_0.2.1
theorem dX5_begin_2 : decode cX5_begin 2 = .ok (.putfield 36, 3) := zy_b12plan_0.2.2.1
theorem dX5_begin_5 : decode cX5_begin 5 = .ok (.aload_n 0, 1) := zy_b12plan_0.2.2.2.1
theorem dX5_begin_6 : decode cX5_begin 6 = .ok (.iload_n 1, 1) := zy_b12plan_0.2.2.2.2.1
theorem dX5_begin_7 : decode cX5_begin 7 = .ok (.putfield 40, 3) := zy_b12plan_0.2.2.2.2.2.1
theorem dX5_begin_10 : decode cX5_begin 10 = .ok (.aload_n 0, 1) := zy_b12plan_0.2.2.2.2.2.2.1
theorem dX5_begin_11 : decode cX5_begin 11 = .ok (.iconst 1, 1) := zy_b12plan_0.2.2.2.2.2.2.2
theorem zy_b12plan_1 : decode cX5_begin 12 = .ok (.iload_n 2, 1) ∧ decode cX5_begin 13 = .ok (.invokestatic 43, 3) ∧ decode cX5_begin 16 = .ok (.putfield 49, 3) ∧ decode cX5_begin 19 = .ok (.return_, 1) := by decide +kernel
theorem dX5_begin_12 : decode cX5_begin 12 = .ok (.iload_n 2, 1) := zy_b12plan_1.1
theorem dX5_begin_13 : decode cX5_begin 13 = .ok (.invokestatic 43, 3) := zy_b12plan_1.2.1
theorem dX5_begin_16 : decode cX5_begin 16 = .ok (.putfield 49, 3) := zy_b12plan_1.2.2.1
theorem dX5_begin_19 : decode cX5_begin 19 = .ok (.return_, 1) := zy_b12plan_1.2.2.2
theorem zy_b12plan_2 : decode cX5_move 0 = .ok (.aload_n 0, 1) ∧ decode cX5_move 1 = .ok (.getfield 9, 3) ∧ decode cX5_move 4 = .ok (.iload_n 2, 1) ∧ decode cX5_move 5 = .ok (.aload_n 0, 1) ∧ decode cX5_move 6 = .ok (.getfield 9, 3) ∧ decode cX5_move 9 = .ok (.iload_n 1, 1) ∧ decode cX5_move 10 = .ok (.iaload, 1) ∧ decode cX5_move 11 = .ok (.iastore, 1) := by decide +kernel
theorem dX5_move_0 : decode cX5_move 0 = .ok (.aload_n 0, 1) := zy_b12plan_2.1
theorem dX5_move_1 : decode cX5_move 1 = .ok (.getfield 9, 3) := zy_b12plan_2.2.1
theorem dX5_move_4 : decode cX5_move 4 = .ok (.iload_n 2, 1) := zy_b12plan_2.2.2.1
theorem dX5_move_5 : decode cX5_move 5 = .ok (.aload_n 0, 1) := zy_b12plan_2.2.2.2.1
theorem dX5_move_6 : decode cX5_move 6 = .ok (.getfield 9, 3) := zy_b12plan_2.2.2.2.2.1
theorem dX5_move_9 : decode cX5_move 9 = .ok (.iload_n 1, 1) := zy_b12plan_2.2.2.2.2.2.1
theorem dX5_move_10 : decode cX5_move 10 = .ok (.iaload, 1) := zy_b12plan_2.2.2.2.2.2.2.1
theorem dX5_move_11 : decode cX5_move 11 = .ok (.iastore, 1) := zy_b12plan_2.2.2.2.2.2.2.2
theorem zy_b12plan_3 : decode cX5_move 12 = .ok (.aload_n 0, 1) ∧ decode cX5_move 13 = .ok (.getfield 15, 3) ∧ decode cX5_move 16 = .ok (.iload_n 2, 1) ∧ decode cX5_move 17 = .ok (.aload_n 0, 1) ∧ decode cX5_move 18 = .ok (.getfield 15, 3) ∧ decode cX5_move 21 = .ok (.iload_n 1, 1) ∧ decode cX5_move 22 = .ok (.iaload, 1) ∧ decode cX5_move 23 = .ok (.iastore, 1) := by decide +kernel
theorem dX5_move_12 : decode cX5_move 12 = .ok (.aload_n 0, 1) := zy_b12plan_3.1
theorem dX5_move_13 : decode cX5_move 13 = .ok (.getfield 15, 3) := zy_b12plan_3.2.1
theorem dX5_move_16 : decode cX5_move 16 = .ok (.iload_n 2, 1) := zy_b12plan_3.2.2.1
theorem dX5_move_17 : decode cX5_move 17 = .ok (.aload_n 0, 1) := zy_b12plan_3.2.2.2.1
theorem dX5_move_18 : decode cX5_move 18 = .ok (.getfield 15, 3) := zy_b12plan_3.2.2.2.2.1
theorem dX5_move_21 : decode cX5_move 21 = .ok (.iload_n 1, 1) := zy_b12plan_3.2.2.2.2.2.1
theorem dX5_move_22 : decode cX5_move 22 = .ok (.iaload, 1) := zy_b12plan_3.2.2.2.2.2.2.1
theorem dX5_move_23 : decode cX5_move 23 = .ok (.iastore, 1) := zy_b12plan_3.2.2.2.2.2.2.2
theorem zy_b12plan_4 : decode cX5_move 24 = .ok (.aload_n 0, 1) ∧ decode cX5_move 25 = .ok (.getfield 18, 3) ∧ decode cX5_move 28 = .ok (.iload_n 2, 1) ∧ decode cX5_move 29 = .ok (.aload_n 0, 1) ∧ decode cX5_move 30 = .ok (.getfield 18, 3) ∧ decode cX5_move 33 = .ok (.iload_n 1, 1) ∧ decode cX5_move 34 = .ok (.iaload, 1) ∧ decode cX5_move 35 = .ok (.iastore, 1) := by decide +kernel
theorem dX5_move_24 : decode cX5_move 24 = .ok (.aload_n 0, 1) := zy_b12plan_4.1
theorem dX5_move_25 : decode cX5_move 25 = .ok (.getfield 18, 3) := zy_b12plan_4.2.1
theorem dX5_move_28 : decode cX5_move 28 = .ok (.iload_n 2, 1) := zy_b12plan_4.2.2.1
theorem dX5_move_29 : decode cX5_move 29 = .ok (.aload_n 0, 1) := zy_b12plan_4.2.2.2.1
theorem dX5_move_30 : decode cX5_move 30 = .ok (.getfield 18, 3) := zy_b12plan_4.2.2.2.2.1
theorem dX5_move_33 : decode cX5_move 33 = .ok (.iload_n 1, 1) := zy_b12plan_4.2.2.2.2.2.1
theorem dX5_move_34 : decode cX5_move 34 = .ok (.iaload, 1) := zy_b12plan_4.2.2.2.2.2.2.1
theorem dX5_move_35 : decode cX5_move 35 = .ok (.iastore, 1) := zy_b12plan_4.2.2.2.2.2.2.2
theorem zy_b12plan_5 : decode cX5_move 36 = .ok (.aload_n 0, 1) ∧ decode cX5_move 37 = .ok (.getfield 21, 3) ∧ decode cX5_move 40 = .ok (.iload_n 2, 1) ∧ decode cX5_move 41 = .ok (.aload_n 0, 1) ∧ decode cX5_move 42 = .ok (.getfield 21, 3) ∧ decode cX5_move 45 = .ok (.iload_n 1, 1) ∧ decode cX5_move 46 = .ok (.iaload, 1) ∧ decode cX5_move 47 = .ok (.iastore, 1) := by decide +kernel
theorem dX5_move_36 : decode cX5_move 36 = .ok (.aload_n 0, 1) := zy_b12plan_5.1
theorem dX5_move_37 : decode cX5_move 37 = .ok (.getfield 21, 3) := zy_b12plan_5.2.1
theorem dX5_move_40 : decode cX5_move 40 = .ok (.iload_n 2, 1) := zy_b12plan_5.2.2.1
theorem dX5_move_41 : decode cX5_move 41 = .ok (.aload_n 0, 1) := zy_b12plan_5.2.2.2.1
theorem dX5_move_42 : decode cX5_move 42 = .ok (.getfield 21, 3) := zy_b12plan_5.2.2.2.2.1
theorem dX5_move_45 : decode cX5_move 45 = .ok (.iload_n 1, 1) := zy_b12plan_5.2.2.2.2.2.1
theorem dX5_move_46 : decode cX5_move 46 = .ok (.iaload, 1) := zy_b12plan_5.2.2.2.2.2.2.1
theorem dX5_move_47 : decode cX5_move 47 = .ok (.iastore, 1) := zy_b12plan_5.2.2.2.2.2.2.2
theorem zy_b12plan_6 : decode cX5_move 48 = .ok (.aload_n 0, 1) ∧ decode cX5_move 49 = .ok (.getfield 24, 3) ∧ decode cX5_move 52 = .ok (.iload_n 2, 1) ∧ decode cX5_move 53 = .ok (.aload_n 0, 1) ∧ decode cX5_move 54 = .ok (.getfield 24, 3) ∧ decode cX5_move 57 = .ok (.iload_n 1, 1) ∧ decode cX5_move 58 = .ok (.iaload, 1) ∧ decode cX5_move 59 = .ok (.iastore, 1) := by decide +kernel
theorem dX5_move_48 : decode cX5_move 48 = .ok (.aload_n 0, 1) := zy_b12plan_6.1
theorem dX5_move_49 : decode cX5_move 49 = .ok (.getfield 24, 3) := zy_b12plan_6.2.1
theorem dX5_move_52 : decode cX5_move 52 = .ok (.iload_n 2, 1) := zy_b12plan_6.2.2.1
theorem dX5_move_53 : decode cX5_move 53 = .ok (.aload_n 0, 1) := zy_b12plan_6.2.2.2.1
theorem dX5_move_54 : decode cX5_move 54 = .ok (.getfield 24, 3) := zy_b12plan_6.2.2.2.2.1
theorem dX5_move_57 : decode cX5_move 57 = .ok (.iload_n 1, 1) := zy_b12plan_6.2.2.2.2.2.1
theorem dX5_move_58 : decode cX5_move 58 = .ok (.iaload, 1) := zy_b12plan_6.2.2.2.2.2.2.1
theorem dX5_move_59 : decode cX5_move 59 = .ok (.iastore, 1) := zy_b12plan_6.2.2.2.2.2.2.2
theorem dX5_move_60 : decode cX5_move 60 = .ok (.return_, 1) := by decide +kernel
theorem zy_b12plan_7 : decode cX5_take 0 = .ok (.aload_n 0, 1) ∧ decode cX5_take 1 = .ok (.getfield 36, 3) ∧ decode cX5_take 4 = .ok (.bipush 7, 2) ∧ decode cX5_take 6 = .ok (.if_icmp .lt 4, 3) ∧ decode cX5_take 10 = .ok (.aload_n 0, 1) ∧ decode cX5_take 11 = .ok (.getfield 40, 3) ∧ decode cX5_take 14 = .ok (.aload_n 2, 1) ∧ decode cX5_take 15 = .ok (.getfield 52, 3) := by decide +kernel
theorem dX5_take_0 : decode cX5_take 0 = .ok (.aload_n 0, 1) := zy_b12plan_7.1
theorem dX5_take_1 : decode cX5_take 1 = .ok (.getfield 36, 3) := zy_b12plan_7.2.1
theorem dX5_take_4 : decode cX5_take 4 = .ok (.bipush 7, 2) := zy_b12plan_7.2.2.1
theorem dX5_take_6 : decode cX5_take 6 = .ok (.if_icmp .lt 4, 3) := zy_b12plan_7.2.2.2.1
theorem dX5_take_10 : decode cX5_take 10 = .ok (.aload_n 0, 1) := zy_b12plan_7.2.2.2.2.1
theorem dX5_take_11 : decode cX5_take 11 = .ok (.getfield 40, 3) := zy_b12plan_7.2.2.2.2.2.1
theorem dX5_take_14 : decode cX5_take 14 = .ok (.aload_n 2, 1) := zy_b12plan_7.2.2.2.2.2.2.1
theorem dX5_take_15 : decode cX5_take 15 = .ok (.getfield 52, 3) := zy_b12plan_7.2.2.2.2.2.2.2
theorem zy_b12plan_8 : decode cX5_take 18 = .ok (.invokestatic 43, 3) ∧ decode cX5_take 21 = .ok (.istore_n 3, 1) ∧ decode cX5_take 22 = .ok (.aload_n 0, 1) ∧ decode cX5_take 23 = .ok (.getfield 36, 3) ∧ decode cX5_take 26 = .ok (.istore 4, 2) ∧ decode cX5_take 28 = .ok (.aload_n 0, 1) ∧ decode cX5_take 29 = .ok (.getfield 36, 3) ∧ decode cX5_take 32 = .ok (.istore 5, 2) := by decide +kernel
theorem dX5_take_18 : decode cX5_take 18 = .ok (.invokestatic 43, 3) := zy_b12plan_8.1
theorem dX5_take_21 : decode cX5_take 21 = .ok (.istore_n 3, 1) := zy_b12plan_8.2.1
theorem dX5_take_22 : decode cX5_take 22 = .ok (.aload_n 0, 1) := zy_b12plan_8.2.2.1
theorem dX5_take_23 : decode cX5_take 23 = .ok (.getfield 36, 3) := zy_b12plan_8.2.2.2.1
theorem dX5_take_26 : decode cX5_take 26 = .ok (.istore 4, 2) := zy_b12plan_8.2.2.2.2.1
theorem dX5_take_28 : decode cX5_take 28 = .ok (.aload_n 0, 1) := zy_b12plan_8.2.2.2.2.2.1
theorem dX5_take_29 : decode cX5_take 29 = .ok (.getfield 36, 3) := zy_b12plan_8.2.2.2.2.2.2.1
theorem dX5_take_32 : decode cX5_take 32 = .ok (.istore 5, 2) := zy_b12plan_8.2.2.2.2.2.2.2
theorem zy_b12plan_9 : decode cX5_take 34 = .ok (.iload 5, 2) ∧ decode cX5_take 36 = .ok (.ifCond .le 38, 3) ∧ decode cX5_take 39 = .ok (.aload_n 0, 1) ∧ decode cX5_take 40 = .ok (.getfield 15, 3) ∧ decode cX5_take 43 = .ok (.iload 5, 2) ∧ decode cX5_take 45 = .ok (.iconst 1, 1) ∧ decode cX5_take 46 = .ok (.isub, 1) ∧ decode cX5_take 47 = .ok (.iaload, 1) := by decide +kernel
theorem dX5_take_34 : decode cX5_take 34 = .ok (.iload 5, 2) := zy_b12plan_9.1
theorem dX5_take_36 : decode cX5_take 36 = .ok (.ifCond .le 38, 3) := zy_b12plan_9.2.1
theorem dX5_take_39 : decode cX5_take 39 = .ok (.aload_n 0, 1) := zy_b12plan_9.2.2.1
theorem dX5_take_40 : decode cX5_take 40 = .ok (.getfield 15, 3) := zy_b12plan_9.2.2.2.1
theorem dX5_take_43 : decode cX5_take 43 = .ok (.iload 5, 2) := zy_b12plan_9.2.2.2.2.1
theorem dX5_take_45 : decode cX5_take 45 = .ok (.iconst 1, 1) := zy_b12plan_9.2.2.2.2.2.1
theorem dX5_take_46 : decode cX5_take 46 = .ok (.isub, 1) := zy_b12plan_9.2.2.2.2.2.2.1
theorem dX5_take_47 : decode cX5_take 47 = .ok (.iaload, 1) := zy_b12plan_9.2.2.2.2.2.2.2
theorem zy_b12plan_10 : decode cX5_take 48 = .ok (.iload_n 3, 1) ∧ decode cX5_take 49 = .ok (.if_icmp .le 25, 3) ∧ decode cX5_take 52 = .ok (.aload_n 0, 1) ∧ decode cX5_take 53 = .ok (.iload 5, 2) ∧ decode cX5_take 55 = .ok (.iconst 1, 1) ∧ decode cX5_take 56 = .ok (.isub, 1) ∧ decode cX5_take 57 = .ok (.iload 5, 2) ∧ decode cX5_take 59 = .ok (.invokevirtual 57, 3) := by decide +kernel
theorem dX5_take_48 : decode cX5_take 48 = .ok (.iload_n 3, 1) := zy_b12plan_10.1
theorem dX5_take_49 : decode cX5_take 49 = .ok (.if_icmp .le 25, 3) := zy_b12plan_10.2.1
theorem dX5_take_52 : decode cX5_take 52 = .ok (.aload_n 0, 1) := zy_b12plan_10.2.2.1
theorem dX5_take_53 : decode cX5_take 53 = .ok (.iload 5, 2) := zy_b12plan_10.2.2.2.1
theorem dX5_take_55 : decode cX5_take 55 = .ok (.iconst 1, 1) := zy_b12plan_10.2.2.2.2.1
theorem dX5_take_56 : decode cX5_take 56 = .ok (.isub, 1) := zy_b12plan_10.2.2.2.2.2.1
theorem dX5_take_57 : decode cX5_take 57 = .ok (.iload 5, 2) := zy_b12plan_10.2.2.2.2.2.2.1
theorem dX5_take_59 : decode cX5_take 59 = .ok (.invokevirtual 57, 3) := zy_b12plan_10.2.2.2.2.2.2.2
theorem zy_b12plan_11 : decode cX5_take 62 = .ok (.iload 5, 2) ∧ decode cX5_take 64 = .ok (.iconst 1, 1) ∧ decode cX5_take 65 = .ok (.isub, 1) ∧ decode cX5_take 66 = .ok (.istore 4, 2) ∧ decode cX5_take 68 = .ok (.iinc 5 (-1), 3) ∧ decode cX5_take 71 = .ok (.goto (-37), 3) ∧ decode cX5_take 74 = .ok (.aload_n 0, 1) ∧ decode cX5_take 75 = .ok (.getfield 9, 3) := by decide +kernel
theorem dX5_take_62 : decode cX5_take 62 = .ok (.iload 5, 2) := zy_b12plan_11.1
theorem dX5_take_64 : decode cX5_take 64 = .ok (.iconst 1, 1) := zy_b12plan_11.2.1
theorem dX5_take_65 : decode cX5_take 65 = .ok (.isub, 1) := zy_b12plan_11.2.2.1
theorem dX5_take_66 : decode cX5_take 66 = .ok (.istore 4, 2) := zy_b12plan_11.2.2.2.1
theorem dX5_take_68 : decode cX5_take 68 = .ok (.iinc 5 (-1), 3) := zy_b12plan_11.2.2.2.2.1
theorem dX5_take_71 : decode cX5_take 71 = .ok (.goto (-37), 3) := zy_b12plan_11.2.2.2.2.2.1
theorem dX5_take_74 : decode cX5_take 74 = .ok (.aload_n 0, 1) := zy_b12plan_11.2.2.2.2.2.2.1
theorem dX5_take_75 : decode cX5_take 75 = .ok (.getfield 9, 3) := zy_b12plan_11.2.2.2.2.2.2.2
theorem zy_b12plan_12 : decode cX5_take 78 = .ok (.iload 4, 2) ∧ decode cX5_take 80 = .ok (.iload_n 1, 1) ∧ decode cX5_take 81 = .ok (.iastore, 1) ∧ decode cX5_take 82 = .ok (.aload_n 0, 1) ∧ decode cX5_take 83 = .ok (.getfield 15, 3) ∧ decode cX5_take 86 = .ok (.iload 4, 2) ∧ decode cX5_take 88 = .ok (.iload_n 3, 1) ∧ decode cX5_take 89 = .ok (.iastore, 1) := by decide +kernel
theorem dX5_take_78 : decode cX5_take 78 = .ok (.iload 4, 2) := zy_b12plan_12.1
theorem dX5_take_80 : decode cX5_take 80 = .ok (.iload_n 1, 1) := zy_b12plan_12.2.1
theorem dX5_take_81 : decode cX5_take 81 = .ok (.iastore, 1) := zy_b12plan_12.2.2.1
theorem dX5_take_82 : decode cX5_take 82 = .ok (.aload_n 0, 1) := zy_b12plan_12.2.2.2.1
theorem dX5_take_83 : decode cX5_take 83 = .ok (.getfield 15, 3) := zy_b12plan_12.2.2.2.2.1
theorem dX5_take_86 : decode cX5_take 86 = .ok (.iload 4, 2) := zy_b12plan_12.2.2.2.2.2.1
theorem dX5_take_88 : decode cX5_take 88 = .ok (.iload_n 3, 1) := zy_b12plan_12.2.2.2.2.2.2.1
theorem dX5_take_89 : decode cX5_take 89 = .ok (.iastore, 1) := zy_b12plan_12.2.2.2.2.2.2.2
theorem zy_b12plan_13 : decode cX5_take 90 = .ok (.aload_n 0, 1) ∧ decode cX5_take 91 = .ok (.getfield 18, 3) ∧ decode cX5_take 94 = .ok (.iload 4, 2) ∧ decode cX5_take 96 = .ok (.aload_n 2, 1) ∧ decode cX5_take 97 = .ok (.getfield 61, 3) ∧ decode cX5_take 100 = .ok (.iastore, 1) ∧ decode cX5_take 101 = .ok (.aload_n 0, 1) ∧ decode cX5_take 102 = .ok (.getfield 21, 3) := by decide +kernel
theorem dX5_take_90 : decode cX5_take 90 = .ok (.aload_n 0, 1) := zy_b12plan_13.1
theorem dX5_take_91 : decode cX5_take 91 = .ok (.getfield 18, 3) := zy_b12plan_13.2.1
theorem dX5_take_94 : decode cX5_take 94 = .ok (.iload 4, 2) := zy_b12plan_13.2.2.1
theorem dX5_take_96 : decode cX5_take 96 = .ok (.aload_n 2, 1) := zy_b12plan_13.2.2.2.1
theorem dX5_take_97 : decode cX5_take 97 = .ok (.getfield 61, 3) := zy_b12plan_13.2.2.2.2.1
theorem dX5_take_100 : decode cX5_take 100 = .ok (.iastore, 1) := zy_b12plan_13.2.2.2.2.2.1
theorem dX5_take_101 : decode cX5_take 101 = .ok (.aload_n 0, 1) := zy_b12plan_13.2.2.2.2.2.2.1
theorem dX5_take_102 : decode cX5_take 102 = .ok (.getfield 21, 3) := zy_b12plan_13.2.2.2.2.2.2.2
theorem zy_b12plan_14 : decode cX5_take 105 = .ok (.iload 4, 2) ∧ decode cX5_take 107 = .ok (.aload_n 2, 1) ∧ decode cX5_take 108 = .ok (.getfield 52, 3) ∧ decode cX5_take 111 = .ok (.iastore, 1) ∧ decode cX5_take 112 = .ok (.aload_n 0, 1) ∧ decode cX5_take 113 = .ok (.getfield 24, 3) ∧ decode cX5_take 116 = .ok (.iload 4, 2) ∧ decode cX5_take 118 = .ok (.aload_n 2, 1) := by decide +kernel
theorem dX5_take_105 : decode cX5_take 105 = .ok (.iload 4, 2) := zy_b12plan_14.1
theorem dX5_take_107 : decode cX5_take 107 = .ok (.aload_n 2, 1) := zy_b12plan_14.2.1
theorem dX5_take_108 : decode cX5_take 108 = .ok (.getfield 52, 3) := zy_b12plan_14.2.2.1
theorem dX5_take_111 : decode cX5_take 111 = .ok (.iastore, 1) := zy_b12plan_14.2.2.2.1
theorem dX5_take_112 : decode cX5_take 112 = .ok (.aload_n 0, 1) := zy_b12plan_14.2.2.2.2.1
theorem dX5_take_113 : decode cX5_take 113 = .ok (.getfield 24, 3) := zy_b12plan_14.2.2.2.2.2.1
theorem dX5_take_116 : decode cX5_take 116 = .ok (.iload 4, 2) := zy_b12plan_14.2.2.2.2.2.2.1
theorem dX5_take_118 : decode cX5_take 118 = .ok (.aload_n 2, 1) := zy_b12plan_14.2.2.2.2.2.2.2
theorem zy_b12plan_15 : decode cX5_take 119 = .ok (.getfield 63, 3) ∧ decode cX5_take 122 = .ok (.iastore, 1) ∧ decode cX5_take 123 = .ok (.aload_n 0, 1) ∧ decode cX5_take 124 = .ok (.dup, 1) ∧ decode cX5_take 125 = .ok (.getfield 36, 3) ∧ decode cX5_take 128 = .ok (.iconst 1, 1) ∧ decode cX5_take 129 = .ok (.iadd, 1) ∧ decode cX5_take 130 = .ok (.putfield 36, 3) := by decide +kernel
theorem dX5_take_119 : decode cX5_take 119 = .ok (.getfield 63, 3) := zy_b12plan_15.1
theorem dX5_take_122 : decode cX5_take 122 = .ok (.iastore, 1) := zy_b12plan_15.2.1
theorem dX5_take_123 : decode cX5_take 123 = .ok (.aload_n 0, 1) := zy_b12plan_15.2.2.1
theorem dX5_take_124 : decode cX5_take 124 = .ok (.dup, 1) := zy_b12plan_15.2.2.2.1
theorem dX5_take_125 : decode cX5_take 125 = .ok (.getfield 36, 3) := zy_b12plan_15.2.2.2.2.1
theorem dX5_take_128 : decode cX5_take 128 = .ok (.iconst 1, 1) := zy_b12plan_15.2.2.2.2.2.1
theorem dX5_take_129 : decode cX5_take 129 = .ok (.iadd, 1) := zy_b12plan_15.2.2.2.2.2.2.1
theorem dX5_take_130 : decode cX5_take 130 = .ok (.putfield 36, 3) := zy_b12plan_15.2.2.2.2.2.2.2
theorem dX5_take_133 : decode cX5_take 133 = .ok (.return_, 1) := by decide +kernel
theorem zz_predN {k : Nat} (h : 1 ≤ k) : nI k - 1 = nI (k - 1) := by
  obtain ⟨q, rfl⟩ : ∃ q, k = q + 1 := ⟨k - 1, by omega⟩
  rw [nI_pred]; rfl
theorem zz_predI {k : Nat} (h : 1 ≤ k) : nI k + Int32.ofInt (-1) = nI (k - 1) := by
  rw [show Int32.ofInt (-1) = -1 from by decide, ← zz_predN h, Int32.sub_eq_add_neg]
theorem zz_iw {k : Nat} (h : 1 ≤ k) : (nI k - 1) + Int32.ofInt (-1) = nI (k - 1) - 1 := by
  rw [show Int32.ofInt (-1) = -1 from by decide, zz_predN h, ← Int32.sub_eq_add_neg]
def zz_bst (y : Int32) : Prop := y = -1 ∨ ∃ z : Nat, z < 7 ∧ y = nI z
theorem zz_best {y : Int32} (h : zz_bst y) (hn : ¬ y = -1) : vp_in y 7 := by
  rcases h with h | ⟨z, hz, rfl⟩
  · exact absurd h hn
  · exact vp_in_iff.mpr (by rw [zz_toInt z (by omega)]; omega)
def zz_bnx (f : Nat → Int32) : Prop := ∀ q : Nat, ∃ z : Nat, z < 7 ∧ f q = nI z
theorem zz_bn {f : Nat → Int32} {k : Nat} {y : Int32} (h : zz_bnx f) (hy : zz_bst y) : zz_bnx (upd f k (if 0 < y then y else 0)) := by
  intro q
  by_cases e : q = k
  · subst e
    rcases hy with hy | ⟨z, hz, hy⟩
    · exact ⟨0, by omega, by rw [hy]; simp only [upd, if_pos]; decide⟩
    · by_cases h0 : 0 < y
      · exact ⟨z, hz, by simp only [upd, if_pos, h0]; exact hy⟩
      · exact ⟨0, by omega, by simp only [upd, if_pos, h0]; rfl⟩
  · obtain ⟨z, hz, ez⟩ := h q
    exact ⟨z, hz, by simp only [upd, if_neg e]; exact ez⟩
