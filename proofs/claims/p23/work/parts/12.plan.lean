theorem tw_142 : Cond.fieldLink RX5 36 "HandsReturned$Plan" "count" "I" ∈ zz_all := zz_m1 238 rfl rfl
theorem tw_143 : Cond.fieldLink RX5 40 "HandsReturned$Plan" "today" "I" ∈ zz_all := zz_m1 239 rfl rfl
theorem tw_144 : Cond.methodLink RX5 43 Lib.Math.max.name ∈ zz_all := zz_m3 129 rfl rfl
theorem tw_145 : Cond.fieldLink RX5 49 "HandsReturned$Plan" "hands" "I" ∈ zz_all := zz_m2 0 rfl rfl
theorem tw_146 : Cond.fieldLink RX5 9 "HandsReturned$Plan" "numbers" "[I" ∈ zz_all := zz_m1 227 rfl rfl
theorem tw_147 : Cond.fieldLink RX5 15 "HandsReturned$Plan" "starts" "[I" ∈ zz_all := zz_m1 228 rfl rfl
theorem tw_148 : Cond.fieldLink RX5 18 "HandsReturned$Plan" "lacks" "[I" ∈ zz_all := zz_m1 229 rfl rfl
theorem tw_149 : Cond.fieldLink RX5 21 "HandsReturned$Plan" "readies" "[I" ∈ zz_all := zz_m1 230 rfl rfl
theorem tw_150 : Cond.fieldLink RX5 24 "HandsReturned$Plan" "values" "[I" ∈ zz_all := zz_m1 231 rfl rfl
theorem tw_151 : Cond.code yX5_move cX5_move 3 none ∈ zz_all := zz_m3 137 rfl rfl
theorem tw_152 : Cond.initialized RX5 ∈ zz_all := zz_m1 9 rfl rfl
theorem tw_153 : Cond.methodLink RX5 57 yX5_move ∈ zz_all := zz_m3 134 rfl rfl
theorem tw_154 : Cond.instanceMethod yX5_move ∈ zz_all := zz_m3 136 rfl rfl
theorem tw_155 : Cond.selects RX5 yX5_move yX5_move ∈ zz_all := zz_ms 33 rfl rfl
theorem zy_b12plan_0 : decode cX5_begin 0 = .ok (.aload_n 0, 1) ∧ decode cX5_begin 1 = .ok (.iconst 0, 1) ∧ decode cX5_begin 2 = .ok (.putfield 36, 3) ∧ decode cX5_begin 5 = .ok (.aload_n 0, 1) ∧ decode cX5_begin 6 = .ok (.iload_n 1, 1) ∧ decode cX5_begin 7 = .ok (.putfield 40, 3) ∧ decode cX5_begin 10 = .ok (.aload_n 0, 1) ∧ decode cX5_begin 11 = .ok (.iconst 1, 1) := by decide +kernel
theorem dX5_begin_0 : decode cX5_begin 0 = .ok (.aload_n 0, 1) := zy_b12plan_0.1
theorem dX5_begin_1 : decode cX5_begin 1 = .ok (.iconst 0, 1) := zy_b12plan_0.2.1
theorem dX5_begin_2 : decode cX5_begin 2 = .ok (.putfield 36, 3) := zy_b12plan_0.2.2.1
theorem dX5_begin_5 : decode cX5_begin 5 = .ok (.aload_n 0, 1) := zy_b12plan_0.2.2.2.1
theorem dX5_begin_6 : decode cX5_begin 6 = .ok (.iload_n 1, 1) := zy_b12plan_0.2.2.2.2.1
theorem dX5_begin_7 : decode cX5_begin 7 = .ok (.putfield 40, 3) := zy_b12plan_0.2.2.2.2.2.1
theorem dX5_begin_10 : decode cX5_begin 10 = .ok (.aload_n 0, 1) := zy_b12plan_0.2.2.2.2.2.2.1
theorem dX5_begin_11 : decode cX5_begin 11 = .ok (.iconst 1, 1) := zy_b12plan_0.2.2.2.2.2.2.2
theorem zy_b12plan_1 : decode cX5_begin 12 = .ok (.iload_n 2, 1) ∧ decode cX5_begin 13 = .ok (.invokestatic 43, 3) ∧ decode cX5_begin 16 = .ok (.putfield 49, 3) ∧ decode cX5_begin 19 = .ok (.return_, 1) := by decide +kernel
theorem dX5_begin_12 : decode cX5_begin 12 = .ok (.iload_n 2, 1) := zy_b12plan_1.1
theorem dX5_begin_13 : decode cX5_begin 13 = .ok (.invokestatic 43, 3) := zy_b12plan_1.2.1
theorem dX5_begin_16 : decode cX5_begin 16 = .ok (.putfield 49, 3) := zy_b12plan_1.2.2.1
theorem dX5_begin_19 : decode cX5_begin 19 = .ok (.return_, 1) := zy_b12plan_1.2.2.2
theorem zy_b12plan_2 : decode cX5_move 0 = .ok (.aload_n 0, 1) ∧ decode cX5_move 1 = .ok (.getfield 9, 3) ∧ decode cX5_move 4 = .ok (.iload_n 2, 1) ∧ decode cX5_move 5 = .ok (.aload_n 0, 1) ∧ decode cX5_move 6 = .ok (.getfield 9, 3) ∧ decode cX5_move 9 = .ok (.iload_n 1, 1) ∧ decode cX5_move 10 = .ok (.iaload, 1) ∧ decode cX5_move 11 = .ok (.iastore, 1) := by decide +kernel
theorem dX5_move_0 : decode cX5_move 0 = .ok (.aload_n 0, 1) := zy_b12plan_2.1
theorem dX5_move_1 : decode cX5_move 1 = .ok (.getfield 9, 3) := zy_b12plan_2.2.1
theorem dX5_move_4 : decode cX5_move 4 = .ok (.iload_n 2, 1) := zy_b12plan_2.2.2.1
theorem dX5_move_5 : decode cX5_move 5 = .ok (.aload_n 0, 1) := zy_b12plan_2.2.2.2.1
theorem dX5_move_6 : decode cX5_move 6 = .ok (.getfield 9, 3) := zy_b12plan_2.2.2.2.2.1
theorem dX5_move_9 : decode cX5_move 9 = .ok (.iload_n 1, 1) := zy_b12plan_2.2.2.2.2.2.1
theorem dX5_move_10 : decode cX5_move 10 = .ok (.iaload, 1) := zy_b12plan_2.2.2.2.2.2.2.1
theorem dX5_move_11 : decode cX5_move 11 = .ok (.iastore, 1) := zy_b12plan_2.2.2.2.2.2.2.2
theorem zy_b12plan_3 : decode cX5_move 12 = .ok (.aload_n 0, 1) ∧ decode cX5_move 13 = .ok (.getfield 15, 3) ∧ decode cX5_move 16 = .ok (.iload_n 2, 1) ∧ decode cX5_move 17 = .ok (.aload_n 0, 1) ∧ decode cX5_move 18 = .ok (.getfield 15, 3) ∧ decode cX5_move 21 = .ok (.iload_n 1, 1) ∧ decode cX5_move 22 = .ok (.iaload, 1) ∧ decode cX5_move 23 = .ok (.iastore, 1) := by decide +kernel
theorem dX5_move_12 : decode cX5_move 12 = .ok (.aload_n 0, 1) := zy_b12plan_3.1
theorem dX5_move_13 : decode cX5_move 13 = .ok (.getfield 15, 3) := zy_b12plan_3.2.1
theorem dX5_move_16 : decode cX5_move 16 = .ok (.iload_n 2, 1) := zy_b12plan_3.2.2.1
theorem dX5_move_17 : decode cX5_move 17 = .ok (.aload_n 0, 1) := zy_b12plan_3.2.2.2.1
theorem dX5_move_18 : decode cX5_move 18 = .ok (.getfield 15, 3) := zy_b12plan_3.2.2.2.2.1
theorem dX5_move_21 : decode cX5_move 21 = .ok (.iload_n 1, 1) := zy_b12plan_3.2.2.2.2.2.1
theorem dX5_move_22 : decode cX5_move 22 = .ok (.iaload, 1) := zy_b12plan_3.2.2.2.2.2.2.1
theorem dX5_move_23 : decode cX5_move 23 = .ok (.iastore, 1) := zy_b12plan_3.2.2.2.2.2.2.2
theorem zy_b12plan_4 : decode cX5_move 24 = .ok (.aload_n 0, 1) ∧ decode cX5_move 25 = .ok (.getfield 18, 3) ∧ decode cX5_move 28 = .ok (.iload_n 2, 1) ∧ decode cX5_move 29 = .ok (.aload_n 0, 1) ∧ decode cX5_move 30 = .ok (.getfield 18, 3) ∧ decode cX5_move 33 = .ok (.iload_n 1, 1) ∧ decode cX5_move 34 = .ok (.iaload, 1) ∧ decode cX5_move 35 = .ok (.iastore, 1) := by decide +kernel
theorem dX5_move_24 : decode cX5_move 24 = .ok (.aload_n 0, 1) := zy_b12plan_4.1
theorem dX5_move_25 : decode cX5_move 25 = .ok (.getfield 18, 3) := zy_b12plan_4.2.1
theorem dX5_move_28 : decode cX5_move 28 = .ok (.iload_n 2, 1) := zy_b12plan_4.2.2.1
theorem dX5_move_29 : decode cX5_move 29 = .ok (.aload_n 0, 1) := zy_b12plan_4.2.2.2.1
theorem dX5_move_30 : decode cX5_move 30 = .ok (.getfield 18, 3) := zy_b12plan_4.2.2.2.2.1
theorem dX5_move_33 : decode cX5_move 33 = .ok (.iload_n 1, 1) := zy_b12plan_4.2.2.2.2.2.1
theorem dX5_move_34 : decode cX5_move 34 = .ok (.iaload, 1) := zy_b12plan_4.2.2.2.2.2.2.1
theorem dX5_move_35 : decode cX5_move 35 = .ok (.iastore, 1) := zy_b12plan_4.2.2.2.2.2.2.2
theorem zy_b12plan_5 : decode cX5_move 36 = .ok (.aload_n 0, 1) ∧ decode cX5_move 37 = .ok (.getfield 21, 3) ∧ decode cX5_move 40 = .ok (.iload_n 2, 1) ∧ decode cX5_move 41 = .ok (.aload_n 0, 1) ∧ decode cX5_move 42 = .ok (.getfield 21, 3) ∧ decode cX5_move 45 = .ok (.iload_n 1, 1) ∧ decode cX5_move 46 = .ok (.iaload, 1) ∧ decode cX5_move 47 = .ok (.iastore, 1) := by decide +kernel
theorem dX5_move_36 : decode cX5_move 36 = .ok (.aload_n 0, 1) := zy_b12plan_5.1
theorem dX5_move_37 : decode cX5_move 37 = .ok (.getfield 21, 3) := zy_b12plan_5.2.1
theorem dX5_move_40 : decode cX5_move 40 = .ok (.iload_n 2, 1) := zy_b12plan_5.2.2.1
theorem dX5_move_41 : decode cX5_move 41 = .ok (.aload_n 0, 1) := zy_b12plan_5.2.2.2.1
theorem dX5_move_42 : decode cX5_move 42 = .ok (.getfield 21, 3) := zy_b12plan_5.2.2.2.2.1
theorem dX5_move_45 : decode cX5_move 45 = .ok (.iload_n 1, 1) := zy_b12plan_5.2.2.2.2.2.1
theorem dX5_move_46 : decode cX5_move 46 = .ok (.iaload, 1) := zy_b12plan_5.2.2.2.2.2.2.1
theorem dX5_move_47 : decode cX5_move 47 = .ok (.iastore, 1) := zy_b12plan_5.2.2.2.2.2.2.2
theorem zy_b12plan_6 : decode cX5_move 48 = .ok (.aload_n 0, 1) ∧ decode cX5_move 49 = .ok (.getfield 24, 3) ∧ decode cX5_move 52 = .ok (.iload_n 2, 1) ∧ decode cX5_move 53 = .ok (.aload_n 0, 1) ∧ decode cX5_move 54 = .ok (.getfield 24, 3) ∧ decode cX5_move 57 = .ok (.iload_n 1, 1) ∧ decode cX5_move 58 = .ok (.iaload, 1) ∧ decode cX5_move 59 = .ok (.iastore, 1) := by decide +kernel
theorem dX5_move_48 : decode cX5_move 48 = .ok (.aload_n 0, 1) := zy_b12plan_6.1
theorem dX5_move_49 : decode cX5_move 49 = .ok (.getfield 24, 3) := zy_b12plan_6.2.1
theorem dX5_move_52 : decode cX5_move 52 = .ok (.iload_n 2, 1) := zy_b12plan_6.2.2.1
theorem dX5_move_53 : decode cX5_move 53 = .ok (.aload_n 0, 1) := zy_b12plan_6.2.2.2.1
theorem dX5_move_54 : decode cX5_move 54 = .ok (.getfield 24, 3) := zy_b12plan_6.2.2.2.2.1
theorem dX5_move_57 : decode cX5_move 57 = .ok (.iload_n 1, 1) := zy_b12plan_6.2.2.2.2.2.1
theorem dX5_move_58 : decode cX5_move 58 = .ok (.iaload, 1) := zy_b12plan_6.2.2.2.2.2.2.1
theorem dX5_move_59 : decode cX5_move 59 = .ok (.iastore, 1) := zy_b12plan_6.2.2.2.2.2.2.2
theorem dX5_move_60 : decode cX5_move 60 = .ok (.return_, 1) := by decide +kernel
theorem zy_b12plan_7 : decode cX5_take 0 = .ok (.aload_n 0, 1) ∧ decode cX5_take 1 = .ok (.getfield 36, 3) ∧ decode cX5_take 4 = .ok (.bipush 7, 2) ∧ decode cX5_take 6 = .ok (.if_icmp .lt 4, 3) ∧ decode cX5_take 9 = .ok (.return_, 1) ∧ decode cX5_take 10 = .ok (.aload_n 0, 1) ∧ decode cX5_take 11 = .ok (.getfield 40, 3) ∧ decode cX5_take 14 = .ok (.aload_n 2, 1) := by decide +kernel
theorem dX5_take_0 : decode cX5_take 0 = .ok (.aload_n 0, 1) := zy_b12plan_7.1
theorem dX5_take_1 : decode cX5_take 1 = .ok (.getfield 36, 3) := zy_b12plan_7.2.1
theorem dX5_take_4 : decode cX5_take 4 = .ok (.bipush 7, 2) := zy_b12plan_7.2.2.1
theorem dX5_take_6 : decode cX5_take 6 = .ok (.if_icmp .lt 4, 3) := zy_b12plan_7.2.2.2.1
theorem dX5_take_9 : decode cX5_take 9 = .ok (.return_, 1) := zy_b12plan_7.2.2.2.2.1
theorem dX5_take_10 : decode cX5_take 10 = .ok (.aload_n 0, 1) := zy_b12plan_7.2.2.2.2.2.1
theorem dX5_take_11 : decode cX5_take 11 = .ok (.getfield 40, 3) := zy_b12plan_7.2.2.2.2.2.2.1
theorem dX5_take_14 : decode cX5_take 14 = .ok (.aload_n 2, 1) := zy_b12plan_7.2.2.2.2.2.2.2
theorem zy_b12plan_8 : decode cX5_take 15 = .ok (.getfield 52, 3) ∧ decode cX5_take 18 = .ok (.invokestatic 43, 3) ∧ decode cX5_take 21 = .ok (.istore_n 3, 1) ∧ decode cX5_take 22 = .ok (.aload_n 0, 1) ∧ decode cX5_take 23 = .ok (.getfield 36, 3) ∧ decode cX5_take 26 = .ok (.istore 4, 2) ∧ decode cX5_take 28 = .ok (.aload_n 0, 1) ∧ decode cX5_take 29 = .ok (.getfield 36, 3) := by decide +kernel
theorem dX5_take_15 : decode cX5_take 15 = .ok (.getfield 52, 3) := zy_b12plan_8.1
theorem dX5_take_18 : decode cX5_take 18 = .ok (.invokestatic 43, 3) := zy_b12plan_8.2.1
theorem dX5_take_21 : decode cX5_take 21 = .ok (.istore_n 3, 1) := zy_b12plan_8.2.2.1
theorem dX5_take_22 : decode cX5_take 22 = .ok (.aload_n 0, 1) := zy_b12plan_8.2.2.2.1
theorem dX5_take_23 : decode cX5_take 23 = .ok (.getfield 36, 3) := zy_b12plan_8.2.2.2.2.1
theorem dX5_take_26 : decode cX5_take 26 = .ok (.istore 4, 2) := zy_b12plan_8.2.2.2.2.2.1
theorem dX5_take_28 : decode cX5_take 28 = .ok (.aload_n 0, 1) := zy_b12plan_8.2.2.2.2.2.2.1
theorem dX5_take_29 : decode cX5_take 29 = .ok (.getfield 36, 3) := zy_b12plan_8.2.2.2.2.2.2.2
theorem zy_b12plan_9 : decode cX5_take 32 = .ok (.istore 5, 2) ∧ decode cX5_take 34 = .ok (.iload 5, 2) ∧ decode cX5_take 36 = .ok (.ifCond .le 38, 3) ∧ decode cX5_take 39 = .ok (.aload_n 0, 1) ∧ decode cX5_take 40 = .ok (.getfield 15, 3) ∧ decode cX5_take 43 = .ok (.iload 5, 2) ∧ decode cX5_take 45 = .ok (.iconst 1, 1) ∧ decode cX5_take 46 = .ok (.isub, 1) := by decide +kernel
theorem dX5_take_32 : decode cX5_take 32 = .ok (.istore 5, 2) := zy_b12plan_9.1
theorem dX5_take_34 : decode cX5_take 34 = .ok (.iload 5, 2) := zy_b12plan_9.2.1
theorem dX5_take_36 : decode cX5_take 36 = .ok (.ifCond .le 38, 3) := zy_b12plan_9.2.2.1
theorem dX5_take_39 : decode cX5_take 39 = .ok (.aload_n 0, 1) := zy_b12plan_9.2.2.2.1
theorem dX5_take_40 : decode cX5_take 40 = .ok (.getfield 15, 3) := zy_b12plan_9.2.2.2.2.1
theorem dX5_take_43 : decode cX5_take 43 = .ok (.iload 5, 2) := zy_b12plan_9.2.2.2.2.2.1
theorem dX5_take_45 : decode cX5_take 45 = .ok (.iconst 1, 1) := zy_b12plan_9.2.2.2.2.2.2.1
theorem dX5_take_46 : decode cX5_take 46 = .ok (.isub, 1) := zy_b12plan_9.2.2.2.2.2.2.2
theorem zy_b12plan_10 : decode cX5_take 47 = .ok (.iaload, 1) ∧ decode cX5_take 48 = .ok (.iload_n 3, 1) ∧ decode cX5_take 49 = .ok (.if_icmp .le 25, 3) ∧ decode cX5_take 52 = .ok (.aload_n 0, 1) ∧ decode cX5_take 53 = .ok (.iload 5, 2) ∧ decode cX5_take 55 = .ok (.iconst 1, 1) ∧ decode cX5_take 56 = .ok (.isub, 1) ∧ decode cX5_take 57 = .ok (.iload 5, 2) := by decide +kernel
theorem dX5_take_47 : decode cX5_take 47 = .ok (.iaload, 1) := zy_b12plan_10.1
theorem dX5_take_48 : decode cX5_take 48 = .ok (.iload_n 3, 1) := zy_b12plan_10.2.1
theorem dX5_take_49 : decode cX5_take 49 = .ok (.if_icmp .le 25, 3) := zy_b12plan_10.2.2.1
theorem dX5_take_52 : decode cX5_take 52 = .ok (.aload_n 0, 1) := zy_b12plan_10.2.2.2.1
theorem dX5_take_53 : decode cX5_take 53 = .ok (.iload 5, 2) := zy_b12plan_10.2.2.2.2.1
theorem dX5_take_55 : decode cX5_take 55 = .ok (.iconst 1, 1) := zy_b12plan_10.2.2.2.2.2.1
theorem dX5_take_56 : decode cX5_take 56 = .ok (.isub, 1) := zy_b12plan_10.2.2.2.2.2.2.1
theorem dX5_take_57 : decode cX5_take 57 = .ok (.iload 5, 2) := zy_b12plan_10.2.2.2.2.2.2.2
theorem zy_b12plan_11 : decode cX5_take 59 = .ok (.invokevirtual 57, 3) ∧ decode cX5_take 62 = .ok (.iload 5, 2) ∧ decode cX5_take 64 = .ok (.iconst 1, 1) ∧ decode cX5_take 65 = .ok (.isub, 1) ∧ decode cX5_take 66 = .ok (.istore 4, 2) ∧ decode cX5_take 68 = .ok (.iinc 5 (-1), 3) ∧ decode cX5_take 71 = .ok (.goto (-37), 3) ∧ decode cX5_take 74 = .ok (.aload_n 0, 1) := by decide +kernel
theorem dX5_take_59 : decode cX5_take 59 = .ok (.invokevirtual 57, 3) := zy_b12plan_11.1
theorem dX5_take_62 : decode cX5_take 62 = .ok (.iload 5, 2) := zy_b12plan_11.2.1
theorem dX5_take_64 : decode cX5_take 64 = .ok (.iconst 1, 1) := zy_b12plan_11.2.2.1
theorem dX5_take_65 : decode cX5_take 65 = .ok (.isub, 1) := zy_b12plan_11.2.2.2.1
theorem dX5_take_66 : decode cX5_take 66 = .ok (.istore 4, 2) := zy_b12plan_11.2.2.2.2.1
theorem dX5_take_68 : decode cX5_take 68 = .ok (.iinc 5 (-1), 3) := zy_b12plan_11.2.2.2.2.2.1
theorem dX5_take_71 : decode cX5_take 71 = .ok (.goto (-37), 3) := zy_b12plan_11.2.2.2.2.2.2.1
theorem dX5_take_74 : decode cX5_take 74 = .ok (.aload_n 0, 1) := zy_b12plan_11.2.2.2.2.2.2.2
theorem zy_b12plan_12 : decode cX5_take 75 = .ok (.getfield 9, 3) ∧ decode cX5_take 78 = .ok (.iload 4, 2) ∧ decode cX5_take 80 = .ok (.iload_n 1, 1) ∧ decode cX5_take 81 = .ok (.iastore, 1) ∧ decode cX5_take 82 = .ok (.aload_n 0, 1) ∧ decode cX5_take 83 = .ok (.getfield 15, 3) ∧ decode cX5_take 86 = .ok (.iload 4, 2) ∧ decode cX5_take 88 = .ok (.iload_n 3, 1) := by decide +kernel
theorem dX5_take_75 : decode cX5_take 75 = .ok (.getfield 9, 3) := zy_b12plan_12.1
theorem dX5_take_78 : decode cX5_take 78 = .ok (.iload 4, 2) := zy_b12plan_12.2.1
theorem dX5_take_80 : decode cX5_take 80 = .ok (.iload_n 1, 1) := zy_b12plan_12.2.2.1
theorem dX5_take_81 : decode cX5_take 81 = .ok (.iastore, 1) := zy_b12plan_12.2.2.2.1
theorem dX5_take_82 : decode cX5_take 82 = .ok (.aload_n 0, 1) := zy_b12plan_12.2.2.2.2.1
theorem dX5_take_83 : decode cX5_take 83 = .ok (.getfield 15, 3) := zy_b12plan_12.2.2.2.2.2.1
theorem dX5_take_86 : decode cX5_take 86 = .ok (.iload 4, 2) := zy_b12plan_12.2.2.2.2.2.2.1
theorem dX5_take_88 : decode cX5_take 88 = .ok (.iload_n 3, 1) := zy_b12plan_12.2.2.2.2.2.2.2
theorem zy_b12plan_13 : decode cX5_take 89 = .ok (.iastore, 1) ∧ decode cX5_take 90 = .ok (.aload_n 0, 1) ∧ decode cX5_take 91 = .ok (.getfield 18, 3) ∧ decode cX5_take 94 = .ok (.iload 4, 2) ∧ decode cX5_take 96 = .ok (.aload_n 2, 1) ∧ decode cX5_take 97 = .ok (.getfield 61, 3) ∧ decode cX5_take 100 = .ok (.iastore, 1) ∧ decode cX5_take 101 = .ok (.aload_n 0, 1) := by decide +kernel
theorem dX5_take_89 : decode cX5_take 89 = .ok (.iastore, 1) := zy_b12plan_13.1
theorem dX5_take_90 : decode cX5_take 90 = .ok (.aload_n 0, 1) := zy_b12plan_13.2.1
theorem dX5_take_91 : decode cX5_take 91 = .ok (.getfield 18, 3) := zy_b12plan_13.2.2.1
theorem dX5_take_94 : decode cX5_take 94 = .ok (.iload 4, 2) := zy_b12plan_13.2.2.2.1
theorem dX5_take_96 : decode cX5_take 96 = .ok (.aload_n 2, 1) := zy_b12plan_13.2.2.2.2.1
theorem dX5_take_97 : decode cX5_take 97 = .ok (.getfield 61, 3) := zy_b12plan_13.2.2.2.2.2.1
theorem dX5_take_100 : decode cX5_take 100 = .ok (.iastore, 1) := zy_b12plan_13.2.2.2.2.2.2.1
theorem dX5_take_101 : decode cX5_take 101 = .ok (.aload_n 0, 1) := zy_b12plan_13.2.2.2.2.2.2.2
theorem zy_b12plan_14 : decode cX5_take 102 = .ok (.getfield 21, 3) ∧ decode cX5_take 105 = .ok (.iload 4, 2) ∧ decode cX5_take 107 = .ok (.aload_n 2, 1) ∧ decode cX5_take 108 = .ok (.getfield 52, 3) ∧ decode cX5_take 111 = .ok (.iastore, 1) ∧ decode cX5_take 112 = .ok (.aload_n 0, 1) ∧ decode cX5_take 113 = .ok (.getfield 24, 3) ∧ decode cX5_take 116 = .ok (.iload 4, 2) := by decide +kernel
theorem dX5_take_102 : decode cX5_take 102 = .ok (.getfield 21, 3) := zy_b12plan_14.1
theorem dX5_take_105 : decode cX5_take 105 = .ok (.iload 4, 2) := zy_b12plan_14.2.1
theorem dX5_take_107 : decode cX5_take 107 = .ok (.aload_n 2, 1) := zy_b12plan_14.2.2.1
theorem dX5_take_108 : decode cX5_take 108 = .ok (.getfield 52, 3) := zy_b12plan_14.2.2.2.1
theorem dX5_take_111 : decode cX5_take 111 = .ok (.iastore, 1) := zy_b12plan_14.2.2.2.2.1
theorem dX5_take_112 : decode cX5_take 112 = .ok (.aload_n 0, 1) := zy_b12plan_14.2.2.2.2.2.1
theorem dX5_take_113 : decode cX5_take 113 = .ok (.getfield 24, 3) := zy_b12plan_14.2.2.2.2.2.2.1
theorem dX5_take_116 : decode cX5_take 116 = .ok (.iload 4, 2) := zy_b12plan_14.2.2.2.2.2.2.2
theorem zy_b12plan_15 : decode cX5_take 118 = .ok (.aload_n 2, 1) ∧ decode cX5_take 119 = .ok (.getfield 63, 3) ∧ decode cX5_take 122 = .ok (.iastore, 1) ∧ decode cX5_take 123 = .ok (.aload_n 0, 1) ∧ decode cX5_take 124 = .ok (.dup, 1) ∧ decode cX5_take 125 = .ok (.getfield 36, 3) ∧ decode cX5_take 128 = .ok (.iconst 1, 1) ∧ decode cX5_take 129 = .ok (.iadd, 1) := by decide +kernel
theorem dX5_take_118 : decode cX5_take 118 = .ok (.aload_n 2, 1) := zy_b12plan_15.1
theorem dX5_take_119 : decode cX5_take 119 = .ok (.getfield 63, 3) := zy_b12plan_15.2.1
theorem dX5_take_122 : decode cX5_take 122 = .ok (.iastore, 1) := zy_b12plan_15.2.2.1
theorem dX5_take_123 : decode cX5_take 123 = .ok (.aload_n 0, 1) := zy_b12plan_15.2.2.2.1
theorem dX5_take_124 : decode cX5_take 124 = .ok (.dup, 1) := zy_b12plan_15.2.2.2.2.1
theorem dX5_take_125 : decode cX5_take 125 = .ok (.getfield 36, 3) := zy_b12plan_15.2.2.2.2.2.1
theorem dX5_take_128 : decode cX5_take 128 = .ok (.iconst 1, 1) := zy_b12plan_15.2.2.2.2.2.2.1
theorem dX5_take_129 : decode cX5_take 129 = .ok (.iadd, 1) := zy_b12plan_15.2.2.2.2.2.2.2
theorem dX5_take_130 : decode cX5_take 130 = .ok (.putfield 36, 3) := by decide +kernel
theorem dX5_take_133 : decode cX5_take 133 = .ok (.return_, 1) := by decide +kernel
theorem zz_andE128 {a : Nat} (ha : a < 128) (y : Int32) : ∃ z : Nat, z < 128 ∧ nI a &&& y = nI z := ⟨a &&& y.toBitVec.toNat, by have := Nat.and_le_left (n := a) (m := y.toBitVec.toNat); omega, zz_and_nI (by omega) y⟩
theorem zz_orE128 {a b : Nat} (ha : a < 128) (hb : b < 128) : ∃ z : Nat, z < 128 ∧ nI a ||| nI b = nI z := by
  have hz : a ||| b < 2 ^ 7 := Nat.or_lt_two_pow (by omega) (by omega)
  refine ⟨a ||| b, by omega, ?_⟩
  apply Int32.toBitVec_inj.mp
  apply BitVec.eq_of_toNat_eq
  rw [Int32.toBitVec_or, BitVec.toNat_or, pk_tn (n := a) (by omega), pk_tn (n := b) (by omega), pk_tn (by omega)]
theorem zz_shlE128 {j : Nat} (hj : j < 7) : ∃ z : Nat, z < 128 ∧ (1 : Int32) <<< (nI j &&& 31) = nI z := by
  rcases (show j = 0 ∨ j = 1 ∨ j = 2 ∨ j = 3 ∨ j = 4 ∨ j = 5 ∨ j = 6 by omega) with rfl | rfl | rfl | rfl | rfl | rfl | rfl
  · exact ⟨1, by decide, by decide⟩
  · exact ⟨2, by decide, by decide⟩
  · exact ⟨4, by decide, by decide⟩
  · exact ⟨8, by decide, by decide⟩
  · exact ⟨16, by decide, by decide⟩
  · exact ⟨32, by decide, by decide⟩
  · exact ⟨64, by decide, by decide⟩
theorem zz_predN {k : Nat} (h : 1 ≤ k) : nI k - 1 = nI (k - 1) := by
  obtain ⟨q, rfl⟩ : ∃ q, k = q + 1 := ⟨k - 1, by omega⟩
  rw [nI_pred]; rfl
theorem zz_predI {k : Nat} (h : 1 ≤ k) : nI k + Int32.ofInt (-1) = nI (k - 1) := by
  rw [show Int32.ofInt (-1) = -1 from by decide, ← zz_predN h, Int32.sub_eq_add_neg]
theorem zz_iw {k : Nat} (h : 1 ≤ k) : (nI k - 1) + Int32.ofInt (-1) = nI (k - 1) - 1 := by
  rw [show Int32.ofInt (-1) = -1 from by decide, zz_predN h, ← Int32.sub_eq_add_neg]
theorem zz_allE {k : Nat} (h : k ≤ 7) : ∃ z : Nat, z < 128 ∧ ((1 : Int32) <<< (nI k &&& 31)) - 1 = nI z := by
  rcases (show k = 0 ∨ k = 1 ∨ k = 2 ∨ k = 3 ∨ k = 4 ∨ k = 5 ∨ k = 6 ∨ k = 7 by omega) with rfl | rfl | rfl | rfl | rfl | rfl | rfl | rfl
  · exact ⟨0, by decide, by decide⟩
  · exact ⟨1, by decide, by decide⟩
  · exact ⟨3, by decide, by decide⟩
  · exact ⟨7, by decide, by decide⟩
  · exact ⟨15, by decide, by decide⟩
  · exact ⟨31, by decide, by decide⟩
  · exact ⟨63, by decide, by decide⟩
  · exact ⟨127, by decide, by decide⟩
def zz_bst (y : Int32) : Prop := y = -1 ∨ ∃ z : Nat, z < 7 ∧ y = nI z
theorem zz_best {y : Int32} (h : zz_bst y) (hn : ¬ y = -1) : vp_in y 7 := by
  rcases h with h | ⟨z, hz, rfl⟩
  · exact absurd h hn
  · exact vp_in_iff.mpr (by rw [zz_toInt z (by omega)]; omega)
def zz_bnx (f : Nat → Int32) : Prop := ∀ q : Nat, ∃ z : Nat, z < 7 ∧ f q = nI z
theorem zz_bn {f : Nat → Int32} {k : Nat} {y : Int32} (h : zz_bnx f) (hy : zz_bst y) : zz_bnx (upd f k (if 0 < y then y else 0)) := by
  intro q
  by_cases e : q = k
  · subst e
    rcases hy with hy | ⟨z, hz, hy⟩
    · exact ⟨0, by omega, by rw [hy]; simp only [upd, if_pos]; decide⟩
    · by_cases h0 : 0 < y
      · exact ⟨z, hz, by simp only [upd, if_pos, h0]; exact hy⟩
      · exact ⟨0, by omega, by simp only [upd, if_pos, h0]; rfl⟩
  · obtain ⟨z, hz, ez⟩ := h q
    exact ⟨z, hz, by simp only [upd, if_neg e]; exact ez⟩
set_option maxHeartbeats 4000000 in
set_option maxRecDepth 100000 in
theorem k_begin (l : Launch) (dC : Nat → ClassId) (dI : Nat → Nat → Nat) (a : Nat → Nat) (np : Nat) (cc : Nat) (td : Int32) (hd : Int32) (p0 : Int32) (p1 : Int32) (sz : Nat) : Met l yX5_begin (zz_w yX5_begin cX5_begin 3 none) ({ frames := 1, cells := 0, slots := 0, locals := 14 }) (va_Pc [.ref (a 43), .int p0, .int p1] (zz_B (dC, dI) sz [(a 43, .inr (5, [.ref (a 44), .ref (a 45), .ref (a 46), .ref (a 47), .ref (a 48), .ref (a 49), .ref (a 50), .ref (a 51), .int (nI cc), .int (nI np), .int td, .int hd]))] [])) (va_Qv (fun (_ : Int32 × Int32) => True) (fun (u : Int32 × Int32) (t : State) => match u with | (u0, u1) => va_P (dC, dI) vwCl [(a 43, .inr (5, [.ref (a 44), .ref (a 45), .ref (a 46), .ref (a 47), .ref (a 48), .ref (a 49), .ref (a 50), .ref (a 51), .int (nI cc), .int (nI 0), .int u0, .int u1]))] t.heap ∧ va_K (dC, dI) vwCl [] t ∧ va_D (va_A [(a 43, .inr (5, [.ref (a 44), .ref (a 45), .ref (a 46), .ref (a 47), .ref (a 48), .ref (a 49), .ref (a 50), .ref (a 51), .int (nI cc), .int (nI np), .int td, .int hd]))] sz) [(a 43, .inr (5, [.ref (a 44), .ref (a 45), .ref (a 46), .ref (a 47), .ref (a 48), .ref (a 49), .ref (a 50), .ref (a 51), .int (nI cc), .int (nI 0), .int u0, .int u1]))]) (va_A [(a 43, .inr (5, [.ref (a 44), .ref (a 45), .ref (a 46), .ref (a 47), .ref (a 48), .ref (a 49), .ref (a 50), .ref (a 51), .int (nI cc), .int (nI np), .int td, .int hd]))] sz)) 0 0 (va_A [(a 43, .inr (5, [.ref (a 44), .ref (a 45), .ref (a 46), .ref (a 47), .ref (a 48), .ref (a 49), .ref (a 50), .ref (a 51), .int (nI cc), .int (nI np), .int td, .int hd]))] sz) := by
  refine Met.ofW (cc := cX5_begin) (maxL := 3) (ret := none) (by decide) rfl ?_
  intro p e s m args below meth c s₁ B hml hv
  obtain ⟨rfl, hsz, hP, hK, hD0, hN⟩ := hv
  have hx := B.exec
  have hb := B.bytes
  have hr := B.returns
  have hts := atoms_spec (ws := zz_w yX5_begin cX5_begin 3 none) B.pre
  have hw : ∀ w ∈ zz_all, w.before _ s = true := fun w h => hts w (List.mem_cons_of_mem _ h)
  have hown : s.vm.findClass RX5 = some m.cls := findClass_of_methodNamed B.named
  have hlocks := B.notSynchronized
  subst hsz
  have hD := hD0.self (sz := s.heap.size)
  generalize hAe : va_A [(a 43, .inr (5, [.ref (a 44), .ref (a 45), .ref (a 46), .ref (a 47), .ref (a 48), .ref (a 49), .ref (a 50), .ref (a 51), .int (nI cc), .int (nI np), .int td, .int hd]))] s.heap.size = A at hD ⊢
  have hA : ∀ q : Nat, s.heap.size ≤ q → A q := fun q h => by rw [← hAe]; exact Or.inr h
  have hS : va_S A s.heap s.heap [] := va_S.rf
  have hP : va_P (dC, dI) vwCl [(a 43, .inr (5, [.ref (a 44), .ref (a 45), .ref (a 46), .ref (a 47), .ref (a 48), .ref (a 49), .ref (a 50), .ref (a 51), .int (nI cc), .int (nI np), .int td, .int hd]))] s.heap := hP
  have hl := lv_entry ([.ref (a 43), .int p0, .int p1]) (n := 3) (Nat.le_of_ble_eq_true rfl)
  rw [lg_entry_eq]
  generalize (lg_sl ([.ref (a 43), .int p0, .int p1]) ++ List.replicate (3 - (lg_sl ([.ref (a 43), .int p0, .int p1])).length) Slot.unset).toArray = ls at hl ⊢
  have hl : lv_has ls 3 [(0, .ref (a 43)), (1, .int p0), (2, .int p1)] := hl
  refine lv_aload_n hx hb dX5_begin_0 rfl (lv_at hl 0 rfl) ?_
  refine lv_iconst (v := 0) hx hb dX5_begin_1 (by decide) ?_
  refine va_put (D := (dC, dI)) (ci := 5) (v := .int 0) (ty := .int) (C := RX5) (T := TX5) (N := 12) hx hb hw zz_inX5 tyX5 tyX5_ok nmX5 hown hK hP hD hS 0 rfl rfl 9 (by decide) (hw _ tw_142) (fun _ h9 => h9) rfl (by decide +kernel) rfl rfl (Nat.le_of_ble_eq_true rfl) dX5_begin_2 (fun H locs hP hD hS => ?_)
  obtain ⟨hP, hD⟩ := zz_ty (D := (dC, dI)) (cl := vwCl) (A := A) (H := H) [(a 43, .inr (5, [.ref (a 44), .ref (a 45), .ref (a 46), .ref (a 47), .ref (a 48), .ref (a 49), .ref (a 50), .ref (a 51), .int (nI cc), .int 0, .int td, .int hd]))] hP hD rfl
  refine lv_aload_n hx hb dX5_begin_5 rfl (lv_at hl 0 rfl) ?_
  refine lv_iload_n hx hb dX5_begin_6 rfl (lv_at hl 1 rfl) ?_
  refine va_put (D := (dC, dI)) (ci := 5) (v := .int p0) (ty := .int) (C := RX5) (T := TX5) (N := 12) hx hb hw zz_inX5 tyX5 tyX5_ok nmX5 hown hK hP hD hS 0 rfl rfl 10 (by decide) (hw _ tw_143) (fun _ h9 => h9) rfl (by decide +kernel) rfl rfl (Nat.le_of_ble_eq_true rfl) dX5_begin_7 (fun H locs hP hD hS => ?_)
  obtain ⟨hP, hD⟩ := zz_ty (D := (dC, dI)) (cl := vwCl) (A := A) (H := H) [(a 43, .inr (5, [.ref (a 44), .ref (a 45), .ref (a 46), .ref (a 47), .ref (a 48), .ref (a 49), .ref (a 50), .ref (a 51), .int (nI cc), .int 0, .int p0, .int hd]))] hP hD rfl
  refine lv_aload_n hx hb dX5_begin_10 rfl (lv_at hl 0 rfl) ?_
  refine lv_iconst (v := 1) hx hb dX5_begin_11 (by decide) ?_
  refine lv_iload_n hx hb dX5_begin_12 rfl (lv_at hl 2 rfl) ?_
  refine va_mmax hx hb (by rw [hml]; exact hl.1.symm) hown (hw _ tw_144) (hw _ tw_37) (hw _ tw_28) (hw _ tw_38) (Nat.le_of_ble_eq_true rfl) (Nat.le_of_ble_eq_true rfl) (Nat.le_of_ble_eq_true rfl) (Nat.le_of_ble_eq_true rfl) dX5_begin_13 ?_
  refine va_put (D := (dC, dI)) (ci := 5) (v := .int (if 1 < p1 then p1 else 1)) (ty := .int) (C := RX5) (T := TX5) (N := 12) hx hb hw zz_inX5 tyX5 tyX5_ok nmX5 hown hK hP hD hS 0 rfl rfl 11 (by decide) (hw _ tw_145) (fun _ h9 => h9) rfl (by decide +kernel) rfl rfl (Nat.le_of_ble_eq_true rfl) dX5_begin_16 (fun H locs hP hD hS => ?_)
  obtain ⟨hP, hD⟩ := zz_ty (D := (dC, dI)) (cl := vwCl) (A := A) (H := H) [(a 43, .inr (5, [.ref (a 44), .ref (a 45), .ref (a 46), .ref (a 47), .ref (a 48), .ref (a 49), .ref (a 50), .ref (a 51), .int (nI cc), .int 0, .int p0, .int (if 1 < p1 then p1 else 1)]))] hP hD rfl
  obtain ⟨hP9, hD9⟩ := zz_sub2 (ws' := [(a 43, .inr (5, [.ref (a 44), .ref (a 45), .ref (a 46), .ref (a 47), .ref (a 48), .ref (a 49), .ref (a 50), .ref (a 51), .int (nI cc), .int 0, .int p0, .int (if 1 < p1 then p1 else 1)]))]) hP hD [0] (by decide) rfl
  have hK9 := hK.sub (tys' := []) [] rfl
  exact W.vret hx hb hr (fun t ht hW => ⟨⟨(p0, (if 1 < p1 then p1 else 1)), rfl, trivial, by rw [ht]; exact hP9, va_K.moved hW.alike hK9, hD9⟩, hS.F ht⟩) hS.2.2 dX5_begin_19
set_option maxHeartbeats 4000000 in
set_option maxRecDepth 100000 in
theorem k_move (l : Launch) (dC : Nat → ClassId) (dI : Nat → Nat → Nat) (a : Nat → Nat) (cI : ClassId) (np : Nat) (cc : Nat) (td : Int32) (hd : Int32) (q0 : Nat → Int32) (q1 : Nat → Int32) (q2 : Nat → Int32) (q3 : Nat → Int32) (q4 : Nat → Int32) (n1 : Nat) (n2 : Nat) (sz : Nat) (hn1 : n1 < 7) (hn2 : n2 < 7) : Met l yX5_move (zz_w yX5_move cX5_move 3 none) ({ frames := 0, cells := 0, slots := 0, locals := 0 }) (va_Pc [.ref (a 43), .int (nI n1), .int (nI n2)] (zz_B (dC, dI) sz [(a 43, .inr (5, [.ref (a 44), .ref (a 45), .ref (a 46), .ref (a 47), .ref (a 48), .ref (a 49), .ref (a 50), .ref (a 51), .int (nI cc), .int (nI np), .int td, .int hd])), (a 44, .inl (cI, 7, .inl q0)), (a 45, .inl (cI, 7, .inl q1)), (a 46, .inl (cI, 7, .inl q2)), (a 47, .inl (cI, 7, .inl q3)), (a 48, .inl (cI, 7, .inl q4))] [(cI, .int)])) (va_Qv (fun (_ : (Nat → Int32) × (Nat → Int32) × (Nat → Int32) × (Nat → Int32) × (Nat → Int32)) => True) (fun (u : (Nat → Int32) × (Nat → Int32) × (Nat → Int32) × (Nat → Int32) × (Nat → Int32)) (t : State) => match u with | (u0, u1, u2, u3, u4) => va_P (dC, dI) vwCl [(a 43, .inr (5, [.ref (a 44), .ref (a 45), .ref (a 46), .ref (a 47), .ref (a 48), .ref (a 49), .ref (a 50), .ref (a 51), .int (nI cc), .int (nI np), .int td, .int hd])), (a 44, .inl (cI, 7, .inl u0)), (a 45, .inl (cI, 7, .inl u1)), (a 46, .inl (cI, 7, .inl u2)), (a 47, .inl (cI, 7, .inl u3)), (a 48, .inl (cI, 7, .inl u4))] t.heap ∧ va_K (dC, dI) vwCl [(cI, .int)] t ∧ va_D (va_A [(a 43, .inr (5, [.ref (a 44), .ref (a 45), .ref (a 46), .ref (a 47), .ref (a 48), .ref (a 49), .ref (a 50), .ref (a 51), .int (nI cc), .int (nI np), .int td, .int hd])), (a 44, .inl (cI, 7, .inl q0)), (a 45, .inl (cI, 7, .inl q1)), (a 46, .inl (cI, 7, .inl q2)), (a 47, .inl (cI, 7, .inl q3)), (a 48, .inl (cI, 7, .inl q4))] sz) [(a 43, .inr (5, [.ref (a 44), .ref (a 45), .ref (a 46), .ref (a 47), .ref (a 48), .ref (a 49), .ref (a 50), .ref (a 51), .int (nI cc), .int (nI np), .int td, .int hd])), (a 44, .inl (cI, 7, .inl u0)), (a 45, .inl (cI, 7, .inl u1)), (a 46, .inl (cI, 7, .inl u2)), (a 47, .inl (cI, 7, .inl u3)), (a 48, .inl (cI, 7, .inl u4))]) (va_A [(a 43, .inr (5, [.ref (a 44), .ref (a 45), .ref (a 46), .ref (a 47), .ref (a 48), .ref (a 49), .ref (a 50), .ref (a 51), .int (nI cc), .int (nI np), .int td, .int hd])), (a 44, .inl (cI, 7, .inl q0)), (a 45, .inl (cI, 7, .inl q1)), (a 46, .inl (cI, 7, .inl q2)), (a 47, .inl (cI, 7, .inl q3)), (a 48, .inl (cI, 7, .inl q4))] sz)) 0 0 (va_A [(a 43, .inr (5, [.ref (a 44), .ref (a 45), .ref (a 46), .ref (a 47), .ref (a 48), .ref (a 49), .ref (a 50), .ref (a 51), .int (nI cc), .int (nI np), .int td, .int hd])), (a 44, .inl (cI, 7, .inl q0)), (a 45, .inl (cI, 7, .inl q1)), (a 46, .inl (cI, 7, .inl q2)), (a 47, .inl (cI, 7, .inl q3)), (a 48, .inl (cI, 7, .inl q4))] sz) := by
  refine Met.ofW (cc := cX5_move) (maxL := 3) (ret := none) (by decide) rfl ?_
  intro p e s m args below meth c s₁ B hml hv
  obtain ⟨rfl, hsz, hP, hK, hD0, hN⟩ := hv
  have hx := B.exec
  have hb := B.bytes
  have hr := B.returns
  have hts := atoms_spec (ws := zz_w yX5_move cX5_move 3 none) B.pre
  have hw : ∀ w ∈ zz_all, w.before _ s = true := fun w h => hts w (List.mem_cons_of_mem _ h)
  have hown : s.vm.findClass RX5 = some m.cls := findClass_of_methodNamed B.named
  have hlocks := B.notSynchronized
  subst hsz
  have hD := hD0.self (sz := s.heap.size)
  generalize hAe : va_A [(a 43, .inr (5, [.ref (a 44), .ref (a 45), .ref (a 46), .ref (a 47), .ref (a 48), .ref (a 49), .ref (a 50), .ref (a 51), .int (nI cc), .int (nI np), .int td, .int hd])), (a 44, .inl (cI, 7, .inl q0)), (a 45, .inl (cI, 7, .inl q1)), (a 46, .inl (cI, 7, .inl q2)), (a 47, .inl (cI, 7, .inl q3)), (a 48, .inl (cI, 7, .inl q4))] s.heap.size = A at hD ⊢
  have hA : ∀ q : Nat, s.heap.size ≤ q → A q := fun q h => by rw [← hAe]; exact Or.inr h
  have hS : va_S A s.heap s.heap [] := va_S.rf
  have hP : va_P (dC, dI) vwCl [(a 43, .inr (5, [.ref (a 44), .ref (a 45), .ref (a 46), .ref (a 47), .ref (a 48), .ref (a 49), .ref (a 50), .ref (a 51), .int (nI cc), .int (nI np), .int td, .int hd])), (a 44, .inl (cI, 7, .inl q0)), (a 45, .inl (cI, 7, .inl q1)), (a 46, .inl (cI, 7, .inl q2)), (a 47, .inl (cI, 7, .inl q3)), (a 48, .inl (cI, 7, .inl q4))] s.heap := hP
  have hl := lv_entry ([.ref (a 43), .int (nI n1), .int (nI n2)]) (n := 3) (Nat.le_of_ble_eq_true rfl)
  rw [lg_entry_eq]
  generalize (lg_sl ([.ref (a 43), .int (nI n1), .int (nI n2)]) ++ List.replicate (3 - (lg_sl ([.ref (a 43), .int (nI n1), .int (nI n2)])).length) Slot.unset).toArray = ls at hl ⊢
  have hl : lv_has ls 3 [(0, .ref (a 43)), (1, .int (nI n1)), (2, .int (nI n2))] := hl
  refine lv_aload_n hx hb dX5_move_0 rfl (lv_at hl 0 rfl) ?_
  refine va_get (D := (dC, dI)) (ci := 5) (v := .ref (a 44)) (C := RX5) (T := TX5) (N := 12) hx hb hw zz_inX5 hown hK hP 0 rfl rfl 0 (by decide) (hw _ tw_146) (fun _ h9 => h9) rfl dX5_move_1 ?_
  refine lv_iload_n hx hb dX5_move_4 rfl (lv_at hl 2 rfl) ?_
  refine lv_aload_n hx hb dX5_move_5 rfl (lv_at hl 0 rfl) ?_
  refine va_get (D := (dC, dI)) (ci := 5) (v := .ref (a 44)) (C := RX5) (T := TX5) (N := 12) hx hb hw zz_inX5 hown hK hP 0 rfl rfl 0 (by decide) (hw _ tw_146) (fun _ h9 => h9) rfl dX5_move_6 ?_
  refine lv_iload_n hx hb dX5_move_9 rfl (lv_at hl 1 rfl) ?_
  refine va_iald hx hb hK hP 1 0 rfl rfl (vp_in_iff.mpr (by rw [zz_toInt n1 (by omega)]; constructor <;> omega)) dX5_move_10 ?_
  refine va_iast hx hb hK hP hD hS 1 0 rfl rfl (vp_in_iff.mpr (by rw [zz_toInt n2 (by omega)]; constructor <;> omega)) dX5_move_11 (fun H locs hP hD hS => ?_)
  obtain ⟨hP, hD⟩ := zz_ty (D := (dC, dI)) (cl := vwCl) (A := A) (H := H) [(a 43, .inr (5, [.ref (a 44), .ref (a 45), .ref (a 46), .ref (a 47), .ref (a 48), .ref (a 49), .ref (a 50), .ref (a 51), .int (nI cc), .int (nI np), .int td, .int hd])), (a 44, .inl (cI, 7, .inl (upd q0 (Int32.toNatClampNeg (nI n2)) (q0 (Int32.toNatClampNeg (nI n1)))))), (a 45, .inl (cI, 7, .inl q1)), (a 46, .inl (cI, 7, .inl q2)), (a 47, .inl (cI, 7, .inl q3)), (a 48, .inl (cI, 7, .inl q4))] hP hD rfl
  refine lv_aload_n hx hb dX5_move_12 rfl (lv_at hl 0 rfl) ?_
  refine va_get (D := (dC, dI)) (ci := 5) (v := .ref (a 45)) (C := RX5) (T := TX5) (N := 12) hx hb hw zz_inX5 hown hK hP 0 rfl rfl 1 (by decide) (hw _ tw_147) (fun _ h9 => h9) rfl dX5_move_13 ?_
  refine lv_iload_n hx hb dX5_move_16 rfl (lv_at hl 2 rfl) ?_
  refine lv_aload_n hx hb dX5_move_17 rfl (lv_at hl 0 rfl) ?_
  refine va_get (D := (dC, dI)) (ci := 5) (v := .ref (a 45)) (C := RX5) (T := TX5) (N := 12) hx hb hw zz_inX5 hown hK hP 0 rfl rfl 1 (by decide) (hw _ tw_147) (fun _ h9 => h9) rfl dX5_move_18 ?_
  refine lv_iload_n hx hb dX5_move_21 rfl (lv_at hl 1 rfl) ?_
  refine va_iald hx hb hK hP 2 0 rfl rfl (vp_in_iff.mpr (by rw [zz_toInt n1 (by omega)]; constructor <;> omega)) dX5_move_22 ?_
  refine va_iast hx hb hK hP hD hS 2 0 rfl rfl (vp_in_iff.mpr (by rw [zz_toInt n2 (by omega)]; constructor <;> omega)) dX5_move_23 (fun H locs hP hD hS => ?_)
  obtain ⟨hP, hD⟩ := zz_ty (D := (dC, dI)) (cl := vwCl) (A := A) (H := H) [(a 43, .inr (5, [.ref (a 44), .ref (a 45), .ref (a 46), .ref (a 47), .ref (a 48), .ref (a 49), .ref (a 50), .ref (a 51), .int (nI cc), .int (nI np), .int td, .int hd])), (a 44, .inl (cI, 7, .inl (upd q0 (Int32.toNatClampNeg (nI n2)) (q0 (Int32.toNatClampNeg (nI n1)))))), (a 45, .inl (cI, 7, .inl (upd q1 (Int32.toNatClampNeg (nI n2)) (q1 (Int32.toNatClampNeg (nI n1)))))), (a 46, .inl (cI, 7, .inl q2)), (a 47, .inl (cI, 7, .inl q3)), (a 48, .inl (cI, 7, .inl q4))] hP hD rfl
  refine lv_aload_n hx hb dX5_move_24 rfl (lv_at hl 0 rfl) ?_
  refine va_get (D := (dC, dI)) (ci := 5) (v := .ref (a 46)) (C := RX5) (T := TX5) (N := 12) hx hb hw zz_inX5 hown hK hP 0 rfl rfl 2 (by decide) (hw _ tw_148) (fun _ h9 => h9) rfl dX5_move_25 ?_
  refine lv_iload_n hx hb dX5_move_28 rfl (lv_at hl 2 rfl) ?_
  refine lv_aload_n hx hb dX5_move_29 rfl (lv_at hl 0 rfl) ?_
  refine va_get (D := (dC, dI)) (ci := 5) (v := .ref (a 46)) (C := RX5) (T := TX5) (N := 12) hx hb hw zz_inX5 hown hK hP 0 rfl rfl 2 (by decide) (hw _ tw_148) (fun _ h9 => h9) rfl dX5_move_30 ?_
  refine lv_iload_n hx hb dX5_move_33 rfl (lv_at hl 1 rfl) ?_
  refine va_iald hx hb hK hP 3 0 rfl rfl (vp_in_iff.mpr (by rw [zz_toInt n1 (by omega)]; constructor <;> omega)) dX5_move_34 ?_
  refine va_iast hx hb hK hP hD hS 3 0 rfl rfl (vp_in_iff.mpr (by rw [zz_toInt n2 (by omega)]; constructor <;> omega)) dX5_move_35 (fun H locs hP hD hS => ?_)
  obtain ⟨hP, hD⟩ := zz_ty (D := (dC, dI)) (cl := vwCl) (A := A) (H := H) [(a 43, .inr (5, [.ref (a 44), .ref (a 45), .ref (a 46), .ref (a 47), .ref (a 48), .ref (a 49), .ref (a 50), .ref (a 51), .int (nI cc), .int (nI np), .int td, .int hd])), (a 44, .inl (cI, 7, .inl (upd q0 (Int32.toNatClampNeg (nI n2)) (q0 (Int32.toNatClampNeg (nI n1)))))), (a 45, .inl (cI, 7, .inl (upd q1 (Int32.toNatClampNeg (nI n2)) (q1 (Int32.toNatClampNeg (nI n1)))))), (a 46, .inl (cI, 7, .inl (upd q2 (Int32.toNatClampNeg (nI n2)) (q2 (Int32.toNatClampNeg (nI n1)))))), (a 47, .inl (cI, 7, .inl q3)), (a 48, .inl (cI, 7, .inl q4))] hP hD rfl
  refine lv_aload_n hx hb dX5_move_36 rfl (lv_at hl 0 rfl) ?_
  refine va_get (D := (dC, dI)) (ci := 5) (v := .ref (a 47)) (C := RX5) (T := TX5) (N := 12) hx hb hw zz_inX5 hown hK hP 0 rfl rfl 3 (by decide) (hw _ tw_149) (fun _ h9 => h9) rfl dX5_move_37 ?_
  refine lv_iload_n hx hb dX5_move_40 rfl (lv_at hl 2 rfl) ?_
  refine lv_aload_n hx hb dX5_move_41 rfl (lv_at hl 0 rfl) ?_
  refine va_get (D := (dC, dI)) (ci := 5) (v := .ref (a 47)) (C := RX5) (T := TX5) (N := 12) hx hb hw zz_inX5 hown hK hP 0 rfl rfl 3 (by decide) (hw _ tw_149) (fun _ h9 => h9) rfl dX5_move_42 ?_
  refine lv_iload_n hx hb dX5_move_45 rfl (lv_at hl 1 rfl) ?_
  refine va_iald hx hb hK hP 4 0 rfl rfl (vp_in_iff.mpr (by rw [zz_toInt n1 (by omega)]; constructor <;> omega)) dX5_move_46 ?_
  refine va_iast hx hb hK hP hD hS 4 0 rfl rfl (vp_in_iff.mpr (by rw [zz_toInt n2 (by omega)]; constructor <;> omega)) dX5_move_47 (fun H locs hP hD hS => ?_)
  obtain ⟨hP, hD⟩ := zz_ty (D := (dC, dI)) (cl := vwCl) (A := A) (H := H) [(a 43, .inr (5, [.ref (a 44), .ref (a 45), .ref (a 46), .ref (a 47), .ref (a 48), .ref (a 49), .ref (a 50), .ref (a 51), .int (nI cc), .int (nI np), .int td, .int hd])), (a 44, .inl (cI, 7, .inl (upd q0 (Int32.toNatClampNeg (nI n2)) (q0 (Int32.toNatClampNeg (nI n1)))))), (a 45, .inl (cI, 7, .inl (upd q1 (Int32.toNatClampNeg (nI n2)) (q1 (Int32.toNatClampNeg (nI n1)))))), (a 46, .inl (cI, 7, .inl (upd q2 (Int32.toNatClampNeg (nI n2)) (q2 (Int32.toNatClampNeg (nI n1)))))), (a 47, .inl (cI, 7, .inl (upd q3 (Int32.toNatClampNeg (nI n2)) (q3 (Int32.toNatClampNeg (nI n1)))))), (a 48, .inl (cI, 7, .inl q4))] hP hD rfl
  refine lv_aload_n hx hb dX5_move_48 rfl (lv_at hl 0 rfl) ?_
  refine va_get (D := (dC, dI)) (ci := 5) (v := .ref (a 48)) (C := RX5) (T := TX5) (N := 12) hx hb hw zz_inX5 hown hK hP 0 rfl rfl 4 (by decide) (hw _ tw_150) (fun _ h9 => h9) rfl dX5_move_49 ?_
  refine lv_iload_n hx hb dX5_move_52 rfl (lv_at hl 2 rfl) ?_
  refine lv_aload_n hx hb dX5_move_53 rfl (lv_at hl 0 rfl) ?_
  refine va_get (D := (dC, dI)) (ci := 5) (v := .ref (a 48)) (C := RX5) (T := TX5) (N := 12) hx hb hw zz_inX5 hown hK hP 0 rfl rfl 4 (by decide) (hw _ tw_150) (fun _ h9 => h9) rfl dX5_move_54 ?_
  refine lv_iload_n hx hb dX5_move_57 rfl (lv_at hl 1 rfl) ?_
  refine va_iald hx hb hK hP 5 0 rfl rfl (vp_in_iff.mpr (by rw [zz_toInt n1 (by omega)]; constructor <;> omega)) dX5_move_58 ?_
  refine va_iast hx hb hK hP hD hS 5 0 rfl rfl (vp_in_iff.mpr (by rw [zz_toInt n2 (by omega)]; constructor <;> omega)) dX5_move_59 (fun H locs hP hD hS => ?_)
  obtain ⟨hP, hD⟩ := zz_ty (D := (dC, dI)) (cl := vwCl) (A := A) (H := H) [(a 43, .inr (5, [.ref (a 44), .ref (a 45), .ref (a 46), .ref (a 47), .ref (a 48), .ref (a 49), .ref (a 50), .ref (a 51), .int (nI cc), .int (nI np), .int td, .int hd])), (a 44, .inl (cI, 7, .inl (upd q0 (Int32.toNatClampNeg (nI n2)) (q0 (Int32.toNatClampNeg (nI n1)))))), (a 45, .inl (cI, 7, .inl (upd q1 (Int32.toNatClampNeg (nI n2)) (q1 (Int32.toNatClampNeg (nI n1)))))), (a 46, .inl (cI, 7, .inl (upd q2 (Int32.toNatClampNeg (nI n2)) (q2 (Int32.toNatClampNeg (nI n1)))))), (a 47, .inl (cI, 7, .inl (upd q3 (Int32.toNatClampNeg (nI n2)) (q3 (Int32.toNatClampNeg (nI n1)))))), (a 48, .inl (cI, 7, .inl (upd q4 (Int32.toNatClampNeg (nI n2)) (q4 (Int32.toNatClampNeg (nI n1))))))] hP hD rfl
  obtain ⟨hP9, hD9⟩ := zz_sub2 (ws' := [(a 43, .inr (5, [.ref (a 44), .ref (a 45), .ref (a 46), .ref (a 47), .ref (a 48), .ref (a 49), .ref (a 50), .ref (a 51), .int (nI cc), .int (nI np), .int td, .int hd])), (a 44, .inl (cI, 7, .inl (upd q0 (Int32.toNatClampNeg (nI n2)) (q0 (Int32.toNatClampNeg (nI n1)))))), (a 45, .inl (cI, 7, .inl (upd q1 (Int32.toNatClampNeg (nI n2)) (q1 (Int32.toNatClampNeg (nI n1)))))), (a 46, .inl (cI, 7, .inl (upd q2 (Int32.toNatClampNeg (nI n2)) (q2 (Int32.toNatClampNeg (nI n1)))))), (a 47, .inl (cI, 7, .inl (upd q3 (Int32.toNatClampNeg (nI n2)) (q3 (Int32.toNatClampNeg (nI n1)))))), (a 48, .inl (cI, 7, .inl (upd q4 (Int32.toNatClampNeg (nI n2)) (q4 (Int32.toNatClampNeg (nI n1))))))]) hP hD [0, 1, 2, 3, 4, 5] (by decide) rfl
  have hK9 := hK.sub (tys' := [(cI, .int)]) [0] rfl
  exact W.vret hx hb hr (fun t ht hW => ⟨⟨((upd q0 (Int32.toNatClampNeg (nI n2)) (q0 (Int32.toNatClampNeg (nI n1)))), (upd q1 (Int32.toNatClampNeg (nI n2)) (q1 (Int32.toNatClampNeg (nI n1)))), (upd q2 (Int32.toNatClampNeg (nI n2)) (q2 (Int32.toNatClampNeg (nI n1)))), (upd q3 (Int32.toNatClampNeg (nI n2)) (q3 (Int32.toNatClampNeg (nI n1)))), (upd q4 (Int32.toNatClampNeg (nI n2)) (q4 (Int32.toNatClampNeg (nI n1))))), rfl, trivial, by rw [ht]; exact hP9, va_K.moved hW.alike hK9, hD9⟩, hS.F ht⟩) hS.2.2 dX5_move_60
set_option maxHeartbeats 4000000 in
set_option maxRecDepth 100000 in
theorem k_take (l : Launch) (dC : Nat → ClassId) (dI : Nat → Nat → Nat) (a : Nat → Nat) (cI : ClassId) (np : Nat) (cc : Nat) (td : Int32) (hd : Int32) (q0 : Nat → Int32) (q1 : Nat → Int32) (q2 : Nat → Int32) (q3 : Nat → Int32) (q4 : Nat → Int32) (V : Nat → Nat → Int32) (p0 : Int32) (ad : Nat) (L : List Nat) (K : Nat → Nat) (sz : Nat) (hnp : np ≤ 7) (hm : ad ∈ L) (hk : K ad = 3) : Met l yX5_take (zz_w yX5_take cX5_take 6 none) ({ frames := 1, cells := 0, slots := 0, locals := 22 }) (va_Pc [.ref (a 43), .int p0, .ref ad] (zz_B (dC, dI) sz (([(a 43, .inr (5, [.ref (a 44), .ref (a 45), .ref (a 46), .ref (a 47), .ref (a 48), .ref (a 49), .ref (a 50), .ref (a 51), .int (nI cc), .int (nI np), .int td, .int hd])), (a 44, .inl (cI, 7, .inl q0)), (a 45, .inl (cI, 7, .inl q1)), (a 46, .inl (cI, 7, .inl q2)), (a 47, .inl (cI, 7, .inl q3)), (a 48, .inl (cI, 7, .inl q4))] : va_W) ++ va_pl L (zz_F K V)) [(cI, .int)])) (va_Qv (fun (u : Nat × (Nat → Int32) × (Nat → Int32) × (Nat → Int32) × (Nat → Int32) × (Nat → Int32)) => match u with | (m2, _, _, _, _, _) => m2 ≤ 7) (fun (u : Nat × (Nat → Int32) × (Nat → Int32) × (Nat → Int32) × (Nat → Int32) × (Nat → Int32)) (t : State) => match u with | (u0, u1, u2, u3, u4, u5) => va_P (dC, dI) vwCl (([(a 43, .inr (5, [.ref (a 44), .ref (a 45), .ref (a 46), .ref (a 47), .ref (a 48), .ref (a 49), .ref (a 50), .ref (a 51), .int (nI cc), .int (nI u0), .int td, .int hd])), (a 44, .inl (cI, 7, .inl u1)), (a 45, .inl (cI, 7, .inl u2)), (a 46, .inl (cI, 7, .inl u3)), (a 47, .inl (cI, 7, .inl u4)), (a 48, .inl (cI, 7, .inl u5))] : va_W) ++ va_pl L (zz_F K V)) t.heap ∧ va_K (dC, dI) vwCl [(cI, .int)] t ∧ va_D (va_A (([(a 43, .inr (5, [.ref (a 44), .ref (a 45), .ref (a 46), .ref (a 47), .ref (a 48), .ref (a 49), .ref (a 50), .ref (a 51), .int (nI cc), .int (nI np), .int td, .int hd])), (a 44, .inl (cI, 7, .inl q0)), (a 45, .inl (cI, 7, .inl q1)), (a 46, .inl (cI, 7, .inl q2)), (a 47, .inl (cI, 7, .inl q3)), (a 48, .inl (cI, 7, .inl q4))] : va_W) ++ va_pl L (zz_F K V)) sz) (([(a 43, .inr (5, [.ref (a 44), .ref (a 45), .ref (a 46), .ref (a 47), .ref (a 48), .ref (a 49), .ref (a 50), .ref (a 51), .int (nI cc), .int (nI u0), .int td, .int hd])), (a 44, .inl (cI, 7, .inl u1)), (a 45, .inl (cI, 7, .inl u2)), (a 46, .inl (cI, 7, .inl u3)), (a 47, .inl (cI, 7, .inl u4)), (a 48, .inl (cI, 7, .inl u5))] : va_W) ++ va_pl L (zz_F K V))) (va_A (([(a 43, .inr (5, [.ref (a 44), .ref (a 45), .ref (a 46), .ref (a 47), .ref (a 48), .ref (a 49), .ref (a 50), .ref (a 51), .int (nI cc), .int (nI np), .int td, .int hd])), (a 44, .inl (cI, 7, .inl q0)), (a 45, .inl (cI, 7, .inl q1)), (a 46, .inl (cI, 7, .inl q2)), (a 47, .inl (cI, 7, .inl q3)), (a 48, .inl (cI, 7, .inl q4))] : va_W) ++ va_pl L (zz_F K V)) sz)) 0 0 (va_A (([(a 43, .inr (5, [.ref (a 44), .ref (a 45), .ref (a 46), .ref (a 47), .ref (a 48), .ref (a 49), .ref (a 50), .ref (a 51), .int (nI cc), .int (nI np), .int td, .int hd])), (a 44, .inl (cI, 7, .inl q0)), (a 45, .inl (cI, 7, .inl q1)), (a 46, .inl (cI, 7, .inl q2)), (a 47, .inl (cI, 7, .inl q3)), (a 48, .inl (cI, 7, .inl q4))] : va_W) ++ va_pl L (zz_F K V)) sz) := by
  refine Met.ofW (cc := cX5_take) (maxL := 6) (ret := none) (by decide) rfl ?_
  intro p e s m args below meth c s₁ B hml hv
  obtain ⟨rfl, hsz, hP, hK, hD0, hN⟩ := hv
  have hx := B.exec
  have hb := B.bytes
  have hr := B.returns
  have hts := atoms_spec (ws := zz_w yX5_take cX5_take 6 none) B.pre
  have hw : ∀ w ∈ zz_all, w.before _ s = true := fun w h => hts w (List.mem_cons_of_mem _ h)
  have hown : s.vm.findClass RX5 = some m.cls := findClass_of_methodNamed B.named
  have hlocks := B.notSynchronized
  subst hsz
  have hD := hD0.self (sz := s.heap.size)
  generalize hAe : va_A (([(a 43, .inr (5, [.ref (a 44), .ref (a 45), .ref (a 46), .ref (a 47), .ref (a 48), .ref (a 49), .ref (a 50), .ref (a 51), .int (nI cc), .int (nI np), .int td, .int hd])), (a 44, .inl (cI, 7, .inl q0)), (a 45, .inl (cI, 7, .inl q1)), (a 46, .inl (cI, 7, .inl q2)), (a 47, .inl (cI, 7, .inl q3)), (a 48, .inl (cI, 7, .inl q4))] : va_W) ++ va_pl L (zz_F K V)) s.heap.size = A at hD ⊢
  have hA : ∀ q : Nat, s.heap.size ≤ q → A q := fun q h => by rw [← hAe]; exact Or.inr h
  have hS : va_S A s.heap s.heap [] := va_S.rf
  have hP : va_P (dC, dI) vwCl (([(a 43, .inr (5, [.ref (a 44), .ref (a 45), .ref (a 46), .ref (a 47), .ref (a 48), .ref (a 49), .ref (a 50), .ref (a 51), .int (nI cc), .int (nI np), .int td, .int hd])), (a 44, .inl (cI, 7, .inl q0)), (a 45, .inl (cI, 7, .inl q1)), (a 46, .inl (cI, 7, .inl q2)), (a 47, .inl (cI, 7, .inl q3)), (a 48, .inl (cI, 7, .inl q4))] : va_W) ++ va_pl L (zz_F K V)) s.heap := hP
  have hl := lv_entry ([.ref (a 43), .int p0, .ref ad]) (n := 6) (Nat.le_of_ble_eq_true rfl)
  rw [lg_entry_eq]
  generalize (lg_sl ([.ref (a 43), .int p0, .ref ad]) ++ List.replicate (6 - (lg_sl ([.ref (a 43), .int p0, .ref ad])).length) Slot.unset).toArray = ls at hl ⊢
  have hl : lv_has ls 6 [(0, .ref (a 43)), (1, .int p0), (2, .ref ad)] := hl
  refine lv_aload_n hx hb dX5_take_0 rfl (lv_at hl 0 rfl) ?_
  refine va_get (D := (dC, dI)) (ci := 5) (v := .int (nI np)) (C := RX5) (T := TX5) (N := 12) hx hb hw zz_inX5 hown hK hP 0 rfl rfl 9 (by decide) (hw _ tw_142) (fun _ h9 => h9) rfl dX5_take_1 ?_
  refine lv_bipush (v := 7) hx hb dX5_take_4 (by decide) ?_
  refine lv_icmp_lt (tgt := 10) hx hb dX5_take_6 (by decide) (fun c_1 => ?_) (fun c_1 => ?_)
  · have zc_1 := c_1
    rw [Int32.lt_iff_toInt_lt] at zc_1
    try rw [zz_toInt np (by omega)] at zc_1
    try rw [show (7 : Int32).toInt = 7 from by decide] at zc_1
    refine lv_aload_n hx hb dX5_take_10 rfl (lv_at hl 0 rfl) ?_
    refine va_get (D := (dC, dI)) (ci := 5) (v := .int td) (C := RX5) (T := TX5) (N := 12) hx hb hw zz_inX5 hown hK hP 0 rfl rfl 10 (by decide) (hw _ tw_143) (fun _ h9 => h9) rfl dX5_take_11 ?_
    refine lv_aload_n hx hb dX5_take_14 rfl (lv_at hl 2 rfl) ?_
    obtain ⟨kq_2, hq_2⟩ := zz_pg3 (X := [(a 43, .inr (5, [.ref (a 44), .ref (a 45), .ref (a 46), .ref (a 47), .ref (a 48), .ref (a 49), .ref (a 50), .ref (a 51), .int (nI cc), .int (nI np), .int td, .int hd])), (a 44, .inl (cI, 7, .inl q0)), (a 45, .inl (cI, 7, .inl q1)), (a 46, .inl (cI, 7, .inl q2)), (a 47, .inl (cI, 7, .inl q3)), (a 48, .inl (cI, 7, .inl q4))]) (V := V) hm hk
    have hDo := hD
    refine va_getN (D := (dC, dI)) (ci := 3) (v := .int (V ad 3)) (C := RX3) (T := TX3) (N := 7) hx hb hw zz_inX3 hown hK hP kq_2 hq_2 rfl 3 (by decide) (hN.use zz_n15) (fun _ h9 => h9) rfl dX5_take_15 ?_
    refine va_mmax hx hb (by rw [hml]; exact hl.1.symm) hown (hw _ tw_144) (hw _ tw_37) (hw _ tw_28) (hw _ tw_38) (Nat.le_of_ble_eq_true rfl) (Nat.le_of_ble_eq_true rfl) (Nat.le_of_ble_eq_true rfl) (Nat.le_of_ble_eq_true rfl) dX5_take_18 ?_
    refine lv_topi (fun ST eST => ?_)
    refine lv_istore_n (lv' := [(3, .int ST), (0, .ref (a 43)), (1, .int p0), (2, .ref ad)]) hx hb dX5_take_21 rfl hl (by decide) rfl (fun ls hl => ?_)
    refine lv_aload_n hx hb dX5_take_22 rfl (lv_at hl 1 rfl) ?_
    refine va_get (D := (dC, dI)) (ci := 5) (v := .int (nI np)) (C := RX5) (T := TX5) (N := 12) hx hb hw zz_inX5 hown hK hP 0 rfl rfl 9 (by decide) (hw _ tw_142) (fun _ h9 => h9) rfl dX5_take_23 ?_
    refine lv_istore (lv' := [(4, .int (nI np)), (3, .int ST), (0, .ref (a 43)), (1, .int p0), (2, .ref ad)]) hx hb dX5_take_26 hl (by decide) rfl (fun ls hl => ?_)
    refine lv_aload_n hx hb dX5_take_28 rfl (lv_at hl 2 rfl) ?_
    refine va_get (D := (dC, dI)) (ci := 5) (v := .int (nI np)) (C := RX5) (T := TX5) (N := 12) hx hb hw zz_inX5 hown hK hP 0 rfl rfl 9 (by decide) (hw _ tw_142) (fun _ h9 => h9) rfl dX5_take_29 ?_
    refine lv_istore (lv' := [(5, .int (nI np)), (4, .int (nI np)), (3, .int ST), (0, .ref (a 43)), (1, .int p0), (2, .ref ad)]) hx hb dX5_take_32 hl (by decide) rfl (fun ls hl => ?_)
    refine zz_loopS (fun (u : (Nat) × (Nat) × (Nat → Int32) × (Nat → Int32) × (Nat → Int32) × (Nat → Int32) × (Nat → Int32)) => match u with | (k, tt, g0, g1, g2, g3, g4) => (([(a 43, .inr (5, [.ref (a 44), .ref (a 45), .ref (a 46), .ref (a 47), .ref (a 48), .ref (a 49), .ref (a 50), .ref (a 51), .int (nI cc), .int (nI np), .int td, .int hd])), (a 44, .inl (cI, 7, .inl g0)), (a 45, .inl (cI, 7, .inl g1)), (a 46, .inl (cI, 7, .inl g2)), (a 47, .inl (cI, 7, .inl g3)), (a 48, .inl (cI, 7, .inl g4))] : va_W) ++ va_pl L (zz_F K V))) (fun (u : (Nat) × (Nat) × (Nat → Int32) × (Nat → Int32) × (Nat → Int32) × (Nat → Int32) × (Nat → Int32)) => match u with | (k, tt, g0, g1, g2, g3, g4) => [(0, .ref (a 43)), (1, .int p0), (2, .ref ad), (3, .int ST), (4, .int (nI tt)), (5, .int (nI k))]) (fun (u : (Nat) × (Nat) × (Nat → Int32) × (Nat → Int32) × (Nat → Int32) × (Nat → Int32) × (Nat → Int32)) => match u with | (k, tt, g0, g1, g2, g3, g4) => k ≤ 6 ∧ tt ≤ 6) (fun (u : (Nat) × (Nat) × (Nat → Int32) × (Nat → Int32) × (Nat → Int32) × (Nat → Int32) × (Nat → Int32)) => match u with | (k, tt, g0, g1, g2, g3, g4) => k) (fun u hI H locs ls hP hD hS hl ih_34 => ?_) (np, np, q0, q1, q2, q3, q4) (show np ≤ 6 ∧ np ≤ 6 from (by refine ⟨?_, ?_⟩ <;> omega)) _ _ _ (hP.part (cx := [(a 43, .inr (5, [.ref (a 44), .ref (a 45), .ref (a 46), .ref (a 47), .ref (a 48), .ref (a 49), .ref (a 50), .ref (a 51), .int (nI cc), .int (nI np), .int td, .int hd])), (a 44, .inl (cI, 7, .inl q0)), (a 45, .inl (cI, 7, .inl q1)), (a 46, .inl (cI, 7, .inl q2)), (a 47, .inl (cI, 7, .inl q3)), (a 48, .inl (cI, 7, .inl q4))]) [0, 1, 2, 3, 4, 5] rfl) (hD.part (cx := [(a 43, .inr (5, [.ref (a 44), .ref (a 45), .ref (a 46), .ref (a 47), .ref (a 48), .ref (a 49), .ref (a 50), .ref (a 51), .int (nI cc), .int (nI np), .int td, .int hd])), (a 44, .inl (cI, 7, .inl q0)), (a 45, .inl (cI, 7, .inl q1)), (a 46, .inl (cI, 7, .inl q2)), (a 47, .inl (cI, 7, .inl q3)), (a 48, .inl (cI, 7, .inl q4))]) [0, 1, 2, 3, 4, 5] (by decide) rfl) hS (lv_sub hl [3, 4, 5, 2, 1, 0] rfl)
    obtain ⟨k, tt, g0, g1, g2, g3, g4⟩ := u
    obtain ⟨hP, hD⟩ := zz_ty (D := (dC, dI)) (cl := vwCl) (A := A) (H := H) (([(a 43, .inr (5, [.ref (a 44), .ref (a 45), .ref (a 46), .ref (a 47), .ref (a 48), .ref (a 49), .ref (a 50), .ref (a 51), .int (nI cc), .int (nI np), .int td, .int hd])), (a 44, .inl (cI, 7, .inl g0)), (a 45, .inl (cI, 7, .inl g1)), (a 46, .inl (cI, 7, .inl g2)), (a 47, .inl (cI, 7, .inl g3)), (a 48, .inl (cI, 7, .inl g4))] : va_W) ++ va_pl L (zz_F K V)) hP hD rfl
    have hl : lv_has ls 6 [(0, .ref (a 43)), (1, .int p0), (2, .ref ad), (3, .int ST), (4, .int (nI tt)), (5, .int (nI k))] := hl
    have hI : k ≤ 6 ∧ tt ≤ 6 := hI
    obtain ⟨ik, it⟩ := hI
    refine lv_iload hx hb dX5_take_34 (lv_at hl 5 rfl) ?_
    refine lv_if_le (tgt := 74) hx hb dX5_take_36 (by decide) (fun c_3 => ?_) (fun c_3 => ?_)
    · have zc_3 := c_3
      rw [Int32.le_iff_toInt_le] at zc_3
      try rw [zz_toInt k (by omega)] at zc_3
      try rw [show (0 : Int32).toInt = 0 from by decide] at zc_3
      refine lv_aload_n hx hb dX5_take_74 rfl (lv_at hl 0 rfl) ?_
      refine va_get (D := (dC, dI)) (ci := 5) (v := .ref (a 44)) (C := RX5) (T := TX5) (N := 12) hx hb hw zz_inX5 hown hK hP 0 rfl rfl 0 (by decide) (hw _ tw_146) (fun _ h9 => h9) rfl dX5_take_75 ?_
      refine lv_iload hx hb dX5_take_78 (lv_at hl 4 rfl) ?_
      refine lv_iload_n hx hb dX5_take_80 rfl (lv_at hl 1 rfl) ?_
      refine va_iast hx hb hK hP hD hS 1 0 rfl rfl (vp_in_iff.mpr (by rw [zz_toInt tt (by omega)]; constructor <;> omega)) dX5_take_81 (fun H locs hP hD hS => ?_)
      obtain ⟨hP, hD⟩ := zz_ty (D := (dC, dI)) (cl := vwCl) (A := A) (H := H) (([(a 43, .inr (5, [.ref (a 44), .ref (a 45), .ref (a 46), .ref (a 47), .ref (a 48), .ref (a 49), .ref (a 50), .ref (a 51), .int (nI cc), .int (nI np), .int td, .int hd])), (a 44, .inl (cI, 7, .inl (upd g0 (Int32.toNatClampNeg (nI tt)) p0))), (a 45, .inl (cI, 7, .inl g1)), (a 46, .inl (cI, 7, .inl g2)), (a 47, .inl (cI, 7, .inl g3)), (a 48, .inl (cI, 7, .inl g4))] : va_W) ++ va_pl L (zz_F K V)) hP hD rfl
      refine lv_aload_n hx hb dX5_take_82 rfl (lv_at hl 0 rfl) ?_
      refine va_get (D := (dC, dI)) (ci := 5) (v := .ref (a 45)) (C := RX5) (T := TX5) (N := 12) hx hb hw zz_inX5 hown hK hP 0 rfl rfl 1 (by decide) (hw _ tw_147) (fun _ h9 => h9) rfl dX5_take_83 ?_
      refine lv_iload hx hb dX5_take_86 (lv_at hl 4 rfl) ?_
      refine lv_iload_n hx hb dX5_take_88 rfl (lv_at hl 3 rfl) ?_
      refine va_iast hx hb hK hP hD hS 2 0 rfl rfl (vp_in_iff.mpr (by rw [zz_toInt tt (by omega)]; constructor <;> omega)) dX5_take_89 (fun H locs hP hD hS => ?_)
      obtain ⟨hP, hD⟩ := zz_ty (D := (dC, dI)) (cl := vwCl) (A := A) (H := H) (([(a 43, .inr (5, [.ref (a 44), .ref (a 45), .ref (a 46), .ref (a 47), .ref (a 48), .ref (a 49), .ref (a 50), .ref (a 51), .int (nI cc), .int (nI np), .int td, .int hd])), (a 44, .inl (cI, 7, .inl (upd g0 (Int32.toNatClampNeg (nI tt)) p0))), (a 45, .inl (cI, 7, .inl (upd g1 (Int32.toNatClampNeg (nI tt)) ST))), (a 46, .inl (cI, 7, .inl g2)), (a 47, .inl (cI, 7, .inl g3)), (a 48, .inl (cI, 7, .inl g4))] : va_W) ++ va_pl L (zz_F K V)) hP hD rfl
      refine lv_aload_n hx hb dX5_take_90 rfl (lv_at hl 0 rfl) ?_
      refine va_get (D := (dC, dI)) (ci := 5) (v := .ref (a 46)) (C := RX5) (T := TX5) (N := 12) hx hb hw zz_inX5 hown hK hP 0 rfl rfl 2 (by decide) (hw _ tw_148) (fun _ h9 => h9) rfl dX5_take_91 ?_
      refine lv_iload hx hb dX5_take_94 (lv_at hl 4 rfl) ?_
      refine lv_aload_n hx hb dX5_take_96 rfl (lv_at hl 2 rfl) ?_
      obtain ⟨kq_4, hq_4⟩ := zz_pg3 (X := [(a 43, .inr (5, [.ref (a 44), .ref (a 45), .ref (a 46), .ref (a 47), .ref (a 48), .ref (a 49), .ref (a 50), .ref (a 51), .int (nI cc), .int (nI np), .int td, .int hd])), (a 44, .inl (cI, 7, .inl (upd g0 (Int32.toNatClampNeg (nI tt)) p0))), (a 45, .inl (cI, 7, .inl (upd g1 (Int32.toNatClampNeg (nI tt)) ST))), (a 46, .inl (cI, 7, .inl g2)), (a 47, .inl (cI, 7, .inl g3)), (a 48, .inl (cI, 7, .inl g4))]) (V := V) hm hk
      have hDo := hD
      refine va_getN (D := (dC, dI)) (ci := 3) (v := .int (V ad 2)) (C := RX3) (T := TX3) (N := 7) hx hb hw zz_inX3 hown hK hP kq_4 hq_4 rfl 2 (by decide) (hN.use zz_n14) (fun _ h9 => h9) rfl dX5_take_97 ?_
      refine va_iast hx hb hK hP hD hS 3 0 rfl rfl (vp_in_iff.mpr (by rw [zz_toInt tt (by omega)]; constructor <;> omega)) dX5_take_100 (fun H locs hP hD hS => ?_)
      obtain ⟨hP, hD⟩ := zz_ty (D := (dC, dI)) (cl := vwCl) (A := A) (H := H) (([(a 43, .inr (5, [.ref (a 44), .ref (a 45), .ref (a 46), .ref (a 47), .ref (a 48), .ref (a 49), .ref (a 50), .ref (a 51), .int (nI cc), .int (nI np), .int td, .int hd])), (a 44, .inl (cI, 7, .inl (upd g0 (Int32.toNatClampNeg (nI tt)) p0))), (a 45, .inl (cI, 7, .inl (upd g1 (Int32.toNatClampNeg (nI tt)) ST))), (a 46, .inl (cI, 7, .inl (upd g2 (Int32.toNatClampNeg (nI tt)) (V ad 2)))), (a 47, .inl (cI, 7, .inl g3)), (a 48, .inl (cI, 7, .inl g4))] : va_W) ++ va_pl L (zz_F K V)) hP hD rfl
      refine lv_aload_n hx hb dX5_take_101 rfl (lv_at hl 0 rfl) ?_
      refine va_get (D := (dC, dI)) (ci := 5) (v := .ref (a 47)) (C := RX5) (T := TX5) (N := 12) hx hb hw zz_inX5 hown hK hP 0 rfl rfl 3 (by decide) (hw _ tw_149) (fun _ h9 => h9) rfl dX5_take_102 ?_
      refine lv_iload hx hb dX5_take_105 (lv_at hl 4 rfl) ?_
      refine lv_aload_n hx hb dX5_take_107 rfl (lv_at hl 2 rfl) ?_
      obtain ⟨kq_5, hq_5⟩ := zz_pg3 (X := [(a 43, .inr (5, [.ref (a 44), .ref (a 45), .ref (a 46), .ref (a 47), .ref (a 48), .ref (a 49), .ref (a 50), .ref (a 51), .int (nI cc), .int (nI np), .int td, .int hd])), (a 44, .inl (cI, 7, .inl (upd g0 (Int32.toNatClampNeg (nI tt)) p0))), (a 45, .inl (cI, 7, .inl (upd g1 (Int32.toNatClampNeg (nI tt)) ST))), (a 46, .inl (cI, 7, .inl (upd g2 (Int32.toNatClampNeg (nI tt)) (V ad 2)))), (a 47, .inl (cI, 7, .inl g3)), (a 48, .inl (cI, 7, .inl g4))]) (V := V) hm hk
      have hDo := hD
      refine va_getN (D := (dC, dI)) (ci := 3) (v := .int (V ad 3)) (C := RX3) (T := TX3) (N := 7) hx hb hw zz_inX3 hown hK hP kq_5 hq_5 rfl 3 (by decide) (hN.use zz_n15) (fun _ h9 => h9) rfl dX5_take_108 ?_
      refine va_iast hx hb hK hP hD hS 4 0 rfl rfl (vp_in_iff.mpr (by rw [zz_toInt tt (by omega)]; constructor <;> omega)) dX5_take_111 (fun H locs hP hD hS => ?_)
      obtain ⟨hP, hD⟩ := zz_ty (D := (dC, dI)) (cl := vwCl) (A := A) (H := H) (([(a 43, .inr (5, [.ref (a 44), .ref (a 45), .ref (a 46), .ref (a 47), .ref (a 48), .ref (a 49), .ref (a 50), .ref (a 51), .int (nI cc), .int (nI np), .int td, .int hd])), (a 44, .inl (cI, 7, .inl (upd g0 (Int32.toNatClampNeg (nI tt)) p0))), (a 45, .inl (cI, 7, .inl (upd g1 (Int32.toNatClampNeg (nI tt)) ST))), (a 46, .inl (cI, 7, .inl (upd g2 (Int32.toNatClampNeg (nI tt)) (V ad 2)))), (a 47, .inl (cI, 7, .inl (upd g3 (Int32.toNatClampNeg (nI tt)) (V ad 3)))), (a 48, .inl (cI, 7, .inl g4))] : va_W) ++ va_pl L (zz_F K V)) hP hD rfl
      refine lv_aload_n hx hb dX5_take_112 rfl (lv_at hl 0 rfl) ?_
      refine va_get (D := (dC, dI)) (ci := 5) (v := .ref (a 48)) (C := RX5) (T := TX5) (N := 12) hx hb hw zz_inX5 hown hK hP 0 rfl rfl 4 (by decide) (hw _ tw_150) (fun _ h9 => h9) rfl dX5_take_113 ?_
      refine lv_iload hx hb dX5_take_116 (lv_at hl 4 rfl) ?_
      refine lv_aload_n hx hb dX5_take_118 rfl (lv_at hl 2 rfl) ?_
      obtain ⟨kq_6, hq_6⟩ := zz_pg3 (X := [(a 43, .inr (5, [.ref (a 44), .ref (a 45), .ref (a 46), .ref (a 47), .ref (a 48), .ref (a 49), .ref (a 50), .ref (a 51), .int (nI cc), .int (nI np), .int td, .int hd])), (a 44, .inl (cI, 7, .inl (upd g0 (Int32.toNatClampNeg (nI tt)) p0))), (a 45, .inl (cI, 7, .inl (upd g1 (Int32.toNatClampNeg (nI tt)) ST))), (a 46, .inl (cI, 7, .inl (upd g2 (Int32.toNatClampNeg (nI tt)) (V ad 2)))), (a 47, .inl (cI, 7, .inl (upd g3 (Int32.toNatClampNeg (nI tt)) (V ad 3)))), (a 48, .inl (cI, 7, .inl g4))]) (V := V) hm hk
      have hDo := hD
      refine va_getN (D := (dC, dI)) (ci := 3) (v := .int (V ad 4)) (C := RX3) (T := TX3) (N := 7) hx hb hw zz_inX3 hown hK hP kq_6 hq_6 rfl 4 (by decide) (hN.use zz_n18) (fun _ h9 => h9) rfl dX5_take_119 ?_
      refine va_iast hx hb hK hP hD hS 5 0 rfl rfl (vp_in_iff.mpr (by rw [zz_toInt tt (by omega)]; constructor <;> omega)) dX5_take_122 (fun H locs hP hD hS => ?_)
      obtain ⟨hP, hD⟩ := zz_ty (D := (dC, dI)) (cl := vwCl) (A := A) (H := H) (([(a 43, .inr (5, [.ref (a 44), .ref (a 45), .ref (a 46), .ref (a 47), .ref (a 48), .ref (a 49), .ref (a 50), .ref (a 51), .int (nI cc), .int (nI np), .int td, .int hd])), (a 44, .inl (cI, 7, .inl (upd g0 (Int32.toNatClampNeg (nI tt)) p0))), (a 45, .inl (cI, 7, .inl (upd g1 (Int32.toNatClampNeg (nI tt)) ST))), (a 46, .inl (cI, 7, .inl (upd g2 (Int32.toNatClampNeg (nI tt)) (V ad 2)))), (a 47, .inl (cI, 7, .inl (upd g3 (Int32.toNatClampNeg (nI tt)) (V ad 3)))), (a 48, .inl (cI, 7, .inl (upd g4 (Int32.toNatClampNeg (nI tt)) (V ad 4))))] : va_W) ++ va_pl L (zz_F K V)) hP hD rfl
      refine lv_aload_n hx hb dX5_take_123 rfl (lv_at hl 0 rfl) ?_
      refine lv_dup hx hb dX5_take_124 rfl ?_
      refine va_get (D := (dC, dI)) (ci := 5) (v := .int (nI np)) (C := RX5) (T := TX5) (N := 12) hx hb hw zz_inX5 hown hK hP 0 rfl rfl 9 (by decide) (hw _ tw_142) (fun _ h9 => h9) rfl dX5_take_125 ?_
      refine lv_iconst (v := 1) hx hb dX5_take_128 (by decide) ?_
      refine lv_iadd hx hb dX5_take_129 ?_
      refine zz_seti (nI (np + 1)) (nI_1 _) ?_
      refine va_put (D := (dC, dI)) (ci := 5) (v := .int (nI (np + 1))) (ty := .int) (C := RX5) (T := TX5) (N := 12) hx hb hw zz_inX5 tyX5 tyX5_ok nmX5 hown hK hP hD hS 0 rfl rfl 9 (by decide) (hw _ tw_142) (fun _ h9 => h9) rfl (by decide +kernel) rfl rfl (Nat.le_of_ble_eq_true rfl) dX5_take_130 (fun H locs hP hD hS => ?_)
      obtain ⟨hP, hD⟩ := zz_ty (D := (dC, dI)) (cl := vwCl) (A := A) (H := H) (([(a 43, .inr (5, [.ref (a 44), .ref (a 45), .ref (a 46), .ref (a 47), .ref (a 48), .ref (a 49), .ref (a 50), .ref (a 51), .int (nI cc), .int (nI (np + 1)), .int td, .int hd])), (a 44, .inl (cI, 7, .inl (upd g0 (Int32.toNatClampNeg (nI tt)) p0))), (a 45, .inl (cI, 7, .inl (upd g1 (Int32.toNatClampNeg (nI tt)) ST))), (a 46, .inl (cI, 7, .inl (upd g2 (Int32.toNatClampNeg (nI tt)) (V ad 2)))), (a 47, .inl (cI, 7, .inl (upd g3 (Int32.toNatClampNeg (nI tt)) (V ad 3)))), (a 48, .inl (cI, 7, .inl (upd g4 (Int32.toNatClampNeg (nI tt)) (V ad 4))))] : va_W) ++ va_pl L (zz_F K V)) hP hD rfl
      obtain ⟨hP9, hD9⟩ := zz_part2 (cx := [(a 43, .inr (5, [.ref (a 44), .ref (a 45), .ref (a 46), .ref (a 47), .ref (a 48), .ref (a 49), .ref (a 50), .ref (a 51), .int (nI cc), .int (nI (np + 1)), .int td, .int hd])), (a 44, .inl (cI, 7, .inl (upd g0 (Int32.toNatClampNeg (nI tt)) p0))), (a 45, .inl (cI, 7, .inl (upd g1 (Int32.toNatClampNeg (nI tt)) ST))), (a 46, .inl (cI, 7, .inl (upd g2 (Int32.toNatClampNeg (nI tt)) (V ad 2)))), (a 47, .inl (cI, 7, .inl (upd g3 (Int32.toNatClampNeg (nI tt)) (V ad 3)))), (a 48, .inl (cI, 7, .inl (upd g4 (Int32.toNatClampNeg (nI tt)) (V ad 4))))]) hP hD [0, 1, 2, 3, 4, 5] (by decide) rfl
      have hK9 := hK.sub (tys' := [(cI, .int)]) [0] rfl
      exact W.vret hx hb hr (fun t ht hW => ⟨⟨((np + 1), (upd g0 (Int32.toNatClampNeg (nI tt)) p0), (upd g1 (Int32.toNatClampNeg (nI tt)) ST), (upd g2 (Int32.toNatClampNeg (nI tt)) (V ad 2)), (upd g3 (Int32.toNatClampNeg (nI tt)) (V ad 3)), (upd g4 (Int32.toNatClampNeg (nI tt)) (V ad 4))), rfl, (by show _ ≤ _; omega), by rw [ht]; exact hP9, va_K.moved hW.alike hK9, hD9⟩, hS.F ht⟩) hS.2.2 dX5_take_133
    · have zc_3 := c_3
      rw [Int32.le_iff_toInt_le] at zc_3
      try rw [zz_toInt k (by omega)] at zc_3
      try rw [show (0 : Int32).toInt = 0 from by decide] at zc_3
      refine lv_aload_n hx hb dX5_take_39 rfl (lv_at hl 0 rfl) ?_
      refine va_get (D := (dC, dI)) (ci := 5) (v := .ref (a 45)) (C := RX5) (T := TX5) (N := 12) hx hb hw zz_inX5 hown hK hP 0 rfl rfl 1 (by decide) (hw _ tw_147) (fun _ h9 => h9) rfl dX5_take_40 ?_
      refine lv_iload hx hb dX5_take_43 (lv_at hl 5 rfl) ?_
      refine lv_iconst (v := 1) hx hb dX5_take_45 (by decide) ?_
      refine lv_isub hx hb dX5_take_46 ?_
      refine zz_seti (nI (k - 1)) (zz_predN (by omega)) ?_
      refine va_iald hx hb hK hP 2 0 rfl rfl (vp_in_iff.mpr (by rw [zz_toInt (k - 1) (by omega)]; constructor <;> omega)) dX5_take_47 ?_
      refine lv_iload_n hx hb dX5_take_48 rfl (lv_at hl 3 rfl) ?_
      refine lv_icmp_le (tgt := 74) hx hb dX5_take_49 (by decide) (fun c_7 => ?_) (fun c_7 => ?_)
      · have zc_7 := c_7
        rw [Int32.le_iff_toInt_le] at zc_7
        refine lv_aload_n hx hb dX5_take_74 rfl (lv_at hl 0 rfl) ?_
        refine va_get (D := (dC, dI)) (ci := 5) (v := .ref (a 44)) (C := RX5) (T := TX5) (N := 12) hx hb hw zz_inX5 hown hK hP 0 rfl rfl 0 (by decide) (hw _ tw_146) (fun _ h9 => h9) rfl dX5_take_75 ?_
        refine lv_iload hx hb dX5_take_78 (lv_at hl 4 rfl) ?_
        refine lv_iload_n hx hb dX5_take_80 rfl (lv_at hl 1 rfl) ?_
        refine va_iast hx hb hK hP hD hS 1 0 rfl rfl (vp_in_iff.mpr (by rw [zz_toInt tt (by omega)]; constructor <;> omega)) dX5_take_81 (fun H locs hP hD hS => ?_)
        obtain ⟨hP, hD⟩ := zz_ty (D := (dC, dI)) (cl := vwCl) (A := A) (H := H) (([(a 43, .inr (5, [.ref (a 44), .ref (a 45), .ref (a 46), .ref (a 47), .ref (a 48), .ref (a 49), .ref (a 50), .ref (a 51), .int (nI cc), .int (nI np), .int td, .int hd])), (a 44, .inl (cI, 7, .inl (upd g0 (Int32.toNatClampNeg (nI tt)) p0))), (a 45, .inl (cI, 7, .inl g1)), (a 46, .inl (cI, 7, .inl g2)), (a 47, .inl (cI, 7, .inl g3)), (a 48, .inl (cI, 7, .inl g4))] : va_W) ++ va_pl L (zz_F K V)) hP hD rfl
        refine lv_aload_n hx hb dX5_take_82 rfl (lv_at hl 0 rfl) ?_
        refine va_get (D := (dC, dI)) (ci := 5) (v := .ref (a 45)) (C := RX5) (T := TX5) (N := 12) hx hb hw zz_inX5 hown hK hP 0 rfl rfl 1 (by decide) (hw _ tw_147) (fun _ h9 => h9) rfl dX5_take_83 ?_
        refine lv_iload hx hb dX5_take_86 (lv_at hl 4 rfl) ?_
        refine lv_iload_n hx hb dX5_take_88 rfl (lv_at hl 3 rfl) ?_
        refine va_iast hx hb hK hP hD hS 2 0 rfl rfl (vp_in_iff.mpr (by rw [zz_toInt tt (by omega)]; constructor <;> omega)) dX5_take_89 (fun H locs hP hD hS => ?_)
        obtain ⟨hP, hD⟩ := zz_ty (D := (dC, dI)) (cl := vwCl) (A := A) (H := H) (([(a 43, .inr (5, [.ref (a 44), .ref (a 45), .ref (a 46), .ref (a 47), .ref (a 48), .ref (a 49), .ref (a 50), .ref (a 51), .int (nI cc), .int (nI np), .int td, .int hd])), (a 44, .inl (cI, 7, .inl (upd g0 (Int32.toNatClampNeg (nI tt)) p0))), (a 45, .inl (cI, 7, .inl (upd g1 (Int32.toNatClampNeg (nI tt)) ST))), (a 46, .inl (cI, 7, .inl g2)), (a 47, .inl (cI, 7, .inl g3)), (a 48, .inl (cI, 7, .inl g4))] : va_W) ++ va_pl L (zz_F K V)) hP hD rfl
        refine lv_aload_n hx hb dX5_take_90 rfl (lv_at hl 0 rfl) ?_
        refine va_get (D := (dC, dI)) (ci := 5) (v := .ref (a 46)) (C := RX5) (T := TX5) (N := 12) hx hb hw zz_inX5 hown hK hP 0 rfl rfl 2 (by decide) (hw _ tw_148) (fun _ h9 => h9) rfl dX5_take_91 ?_
        refine lv_iload hx hb dX5_take_94 (lv_at hl 4 rfl) ?_
        refine lv_aload_n hx hb dX5_take_96 rfl (lv_at hl 2 rfl) ?_
        obtain ⟨kq_8, hq_8⟩ := zz_pg3 (X := [(a 43, .inr (5, [.ref (a 44), .ref (a 45), .ref (a 46), .ref (a 47), .ref (a 48), .ref (a 49), .ref (a 50), .ref (a 51), .int (nI cc), .int (nI np), .int td, .int hd])), (a 44, .inl (cI, 7, .inl (upd g0 (Int32.toNatClampNeg (nI tt)) p0))), (a 45, .inl (cI, 7, .inl (upd g1 (Int32.toNatClampNeg (nI tt)) ST))), (a 46, .inl (cI, 7, .inl g2)), (a 47, .inl (cI, 7, .inl g3)), (a 48, .inl (cI, 7, .inl g4))]) (V := V) hm hk
        have hDo := hD
        refine va_getN (D := (dC, dI)) (ci := 3) (v := .int (V ad 2)) (C := RX3) (T := TX3) (N := 7) hx hb hw zz_inX3 hown hK hP kq_8 hq_8 rfl 2 (by decide) (hN.use zz_n14) (fun _ h9 => h9) rfl dX5_take_97 ?_
        refine va_iast hx hb hK hP hD hS 3 0 rfl rfl (vp_in_iff.mpr (by rw [zz_toInt tt (by omega)]; constructor <;> omega)) dX5_take_100 (fun H locs hP hD hS => ?_)
        obtain ⟨hP, hD⟩ := zz_ty (D := (dC, dI)) (cl := vwCl) (A := A) (H := H) (([(a 43, .inr (5, [.ref (a 44), .ref (a 45), .ref (a 46), .ref (a 47), .ref (a 48), .ref (a 49), .ref (a 50), .ref (a 51), .int (nI cc), .int (nI np), .int td, .int hd])), (a 44, .inl (cI, 7, .inl (upd g0 (Int32.toNatClampNeg (nI tt)) p0))), (a 45, .inl (cI, 7, .inl (upd g1 (Int32.toNatClampNeg (nI tt)) ST))), (a 46, .inl (cI, 7, .inl (upd g2 (Int32.toNatClampNeg (nI tt)) (V ad 2)))), (a 47, .inl (cI, 7, .inl g3)), (a 48, .inl (cI, 7, .inl g4))] : va_W) ++ va_pl L (zz_F K V)) hP hD rfl
        refine lv_aload_n hx hb dX5_take_101 rfl (lv_at hl 0 rfl) ?_
        refine va_get (D := (dC, dI)) (ci := 5) (v := .ref (a 47)) (C := RX5) (T := TX5) (N := 12) hx hb hw zz_inX5 hown hK hP 0 rfl rfl 3 (by decide) (hw _ tw_149) (fun _ h9 => h9) rfl dX5_take_102 ?_
        refine lv_iload hx hb dX5_take_105 (lv_at hl 4 rfl) ?_
        refine lv_aload_n hx hb dX5_take_107 rfl (lv_at hl 2 rfl) ?_
        obtain ⟨kq_9, hq_9⟩ := zz_pg3 (X := [(a 43, .inr (5, [.ref (a 44), .ref (a 45), .ref (a 46), .ref (a 47), .ref (a 48), .ref (a 49), .ref (a 50), .ref (a 51), .int (nI cc), .int (nI np), .int td, .int hd])), (a 44, .inl (cI, 7, .inl (upd g0 (Int32.toNatClampNeg (nI tt)) p0))), (a 45, .inl (cI, 7, .inl (upd g1 (Int32.toNatClampNeg (nI tt)) ST))), (a 46, .inl (cI, 7, .inl (upd g2 (Int32.toNatClampNeg (nI tt)) (V ad 2)))), (a 47, .inl (cI, 7, .inl g3)), (a 48, .inl (cI, 7, .inl g4))]) (V := V) hm hk
        have hDo := hD
        refine va_getN (D := (dC, dI)) (ci := 3) (v := .int (V ad 3)) (C := RX3) (T := TX3) (N := 7) hx hb hw zz_inX3 hown hK hP kq_9 hq_9 rfl 3 (by decide) (hN.use zz_n15) (fun _ h9 => h9) rfl dX5_take_108 ?_
        refine va_iast hx hb hK hP hD hS 4 0 rfl rfl (vp_in_iff.mpr (by rw [zz_toInt tt (by omega)]; constructor <;> omega)) dX5_take_111 (fun H locs hP hD hS => ?_)
        obtain ⟨hP, hD⟩ := zz_ty (D := (dC, dI)) (cl := vwCl) (A := A) (H := H) (([(a 43, .inr (5, [.ref (a 44), .ref (a 45), .ref (a 46), .ref (a 47), .ref (a 48), .ref (a 49), .ref (a 50), .ref (a 51), .int (nI cc), .int (nI np), .int td, .int hd])), (a 44, .inl (cI, 7, .inl (upd g0 (Int32.toNatClampNeg (nI tt)) p0))), (a 45, .inl (cI, 7, .inl (upd g1 (Int32.toNatClampNeg (nI tt)) ST))), (a 46, .inl (cI, 7, .inl (upd g2 (Int32.toNatClampNeg (nI tt)) (V ad 2)))), (a 47, .inl (cI, 7, .inl (upd g3 (Int32.toNatClampNeg (nI tt)) (V ad 3)))), (a 48, .inl (cI, 7, .inl g4))] : va_W) ++ va_pl L (zz_F K V)) hP hD rfl
        refine lv_aload_n hx hb dX5_take_112 rfl (lv_at hl 0 rfl) ?_
        refine va_get (D := (dC, dI)) (ci := 5) (v := .ref (a 48)) (C := RX5) (T := TX5) (N := 12) hx hb hw zz_inX5 hown hK hP 0 rfl rfl 4 (by decide) (hw _ tw_150) (fun _ h9 => h9) rfl dX5_take_113 ?_
        refine lv_iload hx hb dX5_take_116 (lv_at hl 4 rfl) ?_
        refine lv_aload_n hx hb dX5_take_118 rfl (lv_at hl 2 rfl) ?_
        obtain ⟨kq_10, hq_10⟩ := zz_pg3 (X := [(a 43, .inr (5, [.ref (a 44), .ref (a 45), .ref (a 46), .ref (a 47), .ref (a 48), .ref (a 49), .ref (a 50), .ref (a 51), .int (nI cc), .int (nI np), .int td, .int hd])), (a 44, .inl (cI, 7, .inl (upd g0 (Int32.toNatClampNeg (nI tt)) p0))), (a 45, .inl (cI, 7, .inl (upd g1 (Int32.toNatClampNeg (nI tt)) ST))), (a 46, .inl (cI, 7, .inl (upd g2 (Int32.toNatClampNeg (nI tt)) (V ad 2)))), (a 47, .inl (cI, 7, .inl (upd g3 (Int32.toNatClampNeg (nI tt)) (V ad 3)))), (a 48, .inl (cI, 7, .inl g4))]) (V := V) hm hk
        have hDo := hD
        refine va_getN (D := (dC, dI)) (ci := 3) (v := .int (V ad 4)) (C := RX3) (T := TX3) (N := 7) hx hb hw zz_inX3 hown hK hP kq_10 hq_10 rfl 4 (by decide) (hN.use zz_n18) (fun _ h9 => h9) rfl dX5_take_119 ?_
        refine va_iast hx hb hK hP hD hS 5 0 rfl rfl (vp_in_iff.mpr (by rw [zz_toInt tt (by omega)]; constructor <;> omega)) dX5_take_122 (fun H locs hP hD hS => ?_)
        obtain ⟨hP, hD⟩ := zz_ty (D := (dC, dI)) (cl := vwCl) (A := A) (H := H) (([(a 43, .inr (5, [.ref (a 44), .ref (a 45), .ref (a 46), .ref (a 47), .ref (a 48), .ref (a 49), .ref (a 50), .ref (a 51), .int (nI cc), .int (nI np), .int td, .int hd])), (a 44, .inl (cI, 7, .inl (upd g0 (Int32.toNatClampNeg (nI tt)) p0))), (a 45, .inl (cI, 7, .inl (upd g1 (Int32.toNatClampNeg (nI tt)) ST))), (a 46, .inl (cI, 7, .inl (upd g2 (Int32.toNatClampNeg (nI tt)) (V ad 2)))), (a 47, .inl (cI, 7, .inl (upd g3 (Int32.toNatClampNeg (nI tt)) (V ad 3)))), (a 48, .inl (cI, 7, .inl (upd g4 (Int32.toNatClampNeg (nI tt)) (V ad 4))))] : va_W) ++ va_pl L (zz_F K V)) hP hD rfl
        refine lv_aload_n hx hb dX5_take_123 rfl (lv_at hl 0 rfl) ?_
        refine lv_dup hx hb dX5_take_124 rfl ?_
        refine va_get (D := (dC, dI)) (ci := 5) (v := .int (nI np)) (C := RX5) (T := TX5) (N := 12) hx hb hw zz_inX5 hown hK hP 0 rfl rfl 9 (by decide) (hw _ tw_142) (fun _ h9 => h9) rfl dX5_take_125 ?_
        refine lv_iconst (v := 1) hx hb dX5_take_128 (by decide) ?_
        refine lv_iadd hx hb dX5_take_129 ?_
        refine zz_seti (nI (np + 1)) (nI_1 _) ?_
        refine va_put (D := (dC, dI)) (ci := 5) (v := .int (nI (np + 1))) (ty := .int) (C := RX5) (T := TX5) (N := 12) hx hb hw zz_inX5 tyX5 tyX5_ok nmX5 hown hK hP hD hS 0 rfl rfl 9 (by decide) (hw _ tw_142) (fun _ h9 => h9) rfl (by decide +kernel) rfl rfl (Nat.le_of_ble_eq_true rfl) dX5_take_130 (fun H locs hP hD hS => ?_)
        obtain ⟨hP, hD⟩ := zz_ty (D := (dC, dI)) (cl := vwCl) (A := A) (H := H) (([(a 43, .inr (5, [.ref (a 44), .ref (a 45), .ref (a 46), .ref (a 47), .ref (a 48), .ref (a 49), .ref (a 50), .ref (a 51), .int (nI cc), .int (nI (np + 1)), .int td, .int hd])), (a 44, .inl (cI, 7, .inl (upd g0 (Int32.toNatClampNeg (nI tt)) p0))), (a 45, .inl (cI, 7, .inl (upd g1 (Int32.toNatClampNeg (nI tt)) ST))), (a 46, .inl (cI, 7, .inl (upd g2 (Int32.toNatClampNeg (nI tt)) (V ad 2)))), (a 47, .inl (cI, 7, .inl (upd g3 (Int32.toNatClampNeg (nI tt)) (V ad 3)))), (a 48, .inl (cI, 7, .inl (upd g4 (Int32.toNatClampNeg (nI tt)) (V ad 4))))] : va_W) ++ va_pl L (zz_F K V)) hP hD rfl
        obtain ⟨hP9, hD9⟩ := zz_part2 (cx := [(a 43, .inr (5, [.ref (a 44), .ref (a 45), .ref (a 46), .ref (a 47), .ref (a 48), .ref (a 49), .ref (a 50), .ref (a 51), .int (nI cc), .int (nI (np + 1)), .int td, .int hd])), (a 44, .inl (cI, 7, .inl (upd g0 (Int32.toNatClampNeg (nI tt)) p0))), (a 45, .inl (cI, 7, .inl (upd g1 (Int32.toNatClampNeg (nI tt)) ST))), (a 46, .inl (cI, 7, .inl (upd g2 (Int32.toNatClampNeg (nI tt)) (V ad 2)))), (a 47, .inl (cI, 7, .inl (upd g3 (Int32.toNatClampNeg (nI tt)) (V ad 3)))), (a 48, .inl (cI, 7, .inl (upd g4 (Int32.toNatClampNeg (nI tt)) (V ad 4))))]) hP hD [0, 1, 2, 3, 4, 5] (by decide) rfl
        have hK9 := hK.sub (tys' := [(cI, .int)]) [0] rfl
        exact W.vret hx hb hr (fun t ht hW => ⟨⟨((np + 1), (upd g0 (Int32.toNatClampNeg (nI tt)) p0), (upd g1 (Int32.toNatClampNeg (nI tt)) ST), (upd g2 (Int32.toNatClampNeg (nI tt)) (V ad 2)), (upd g3 (Int32.toNatClampNeg (nI tt)) (V ad 3)), (upd g4 (Int32.toNatClampNeg (nI tt)) (V ad 4))), rfl, (by show _ ≤ _; omega), by rw [ht]; exact hP9, va_K.moved hW.alike hK9, hD9⟩, hS.F ht⟩) hS.2.2 dX5_take_133
      · have zc_7 := c_7
        rw [Int32.le_iff_toInt_le] at zc_7
        refine lv_aload_n hx hb dX5_take_52 rfl (lv_at hl 0 rfl) ?_
        refine lv_iload hx hb dX5_take_53 (lv_at hl 5 rfl) ?_
        refine lv_iconst (v := 1) hx hb dX5_take_55 (by decide) ?_
        refine lv_isub hx hb dX5_take_56 ?_
        refine zz_seti (nI (k - 1)) (zz_predN (by omega)) ?_
        refine lv_iload hx hb dX5_take_57 (lv_at hl 5 rfl) ?_
        obtain ⟨hPc, hDc⟩ := zz_sub2 (ws' := [(a 43, .inr (5, [.ref (a 44), .ref (a 45), .ref (a 46), .ref (a 47), .ref (a 48), .ref (a 49), .ref (a 50), .ref (a 51), .int (nI cc), .int (nI np), .int td, .int hd])), (a 44, .inl (cI, 7, .inl g0)), (a 45, .inl (cI, 7, .inl g1)), (a 46, .inl (cI, 7, .inl g2)), (a 47, .inl (cI, 7, .inl g3)), (a 48, .inl (cI, 7, .inl g4))]) hP hD [0, 1, 2, 3, 4, 5] (by decide) rfl
        have hKc := hK.sub (tys' := [(cI, .int)]) [0] rfl
        have hFc := zz_free1 hDc hS hA
        refine va_callv (va_runV (As := [.int (nI (k - 1)), .int (nI k)]) (rest := []) ⟨hx, hb, hml, hown, hw⟩ (k_move l dC dI a cI np cc td hd g0 g1 g2 g3 g4 (k - 1) k H.size (by omega) (by omega)) ⟨callB_of 2 hw (zz_good tw_151) rfl rfl rfl (hw _ tw_152) (hw _ tw_153) (by decide +kernel) ⟨Nat.le_of_ble_eq_true rfl, Nat.le_of_ble_eq_true rfl⟩, (hw _ tw_154), (hw _ tw_155)⟩ ⟨zz_blind, va_recv hKc hPc (ci := 5) (q0 := 0) rfl rfl, zz_pre hPc hKc hDc hN⟩ rfl rfl hl.1 rfl (lv_room (Nat.le_of_ble_eq_true rfl)) dX5_take_59 ⟨Nat.le_of_ble_eq_true rfl, Nat.le_of_ble_eq_true rfl⟩) hS (fun q _ h => hFc q h) hFc (fun u_11 t H1 locs ht hvm e_11 hB hz1 hk1 hS => ?_)
        try dsimp only at e_11
        obtain ⟨v_11_0, v_11_1, v_11_2, v_11_3, v_11_4⟩ := u_11
        obtain ⟨hP1, hK1, hD1⟩ := hB
        rw [ht] at hP1
        have hK1 := va_K.moved hvm.symm hK1
        try dsimp only at e_11
        obtain ⟨hP, hD⟩ := va_joinQ (wr := []) (w1 := [(a 43, .inr (5, [.ref (a 44), .ref (a 45), .ref (a 46), .ref (a 47), .ref (a 48), .ref (a 49), .ref (a 50), .ref (a 51), .int (nI cc), .int (nI np), .int td, .int hd])), (a 44, .inl (cI, 7, .inl v_11_0)), (a 45, .inl (cI, 7, .inl v_11_1)), (a 46, .inl (cI, 7, .inl v_11_2)), (a 47, .inl (cI, 7, .inl v_11_3)), (a 48, .inl (cI, 7, .inl v_11_4))]) hP hD [0, 1, 2, 3, 4, 5] [] rfl rfl (by decide) (by decide) hk1 hFc hP1 hD1
        clear hk1 ht hvm
        generalize H1 = H at hP hS ⊢
        obtain ⟨hP, hD⟩ := zz_ty (D := (dC, dI)) (cl := vwCl) (A := A) (H := H) (([(a 43, .inr (5, [.ref (a 44), .ref (a 45), .ref (a 46), .ref (a 47), .ref (a 48), .ref (a 49), .ref (a 50), .ref (a 51), .int (nI cc), .int (nI np), .int td, .int hd])), (a 44, .inl (cI, 7, .inl v_11_0)), (a 45, .inl (cI, 7, .inl v_11_1)), (a 46, .inl (cI, 7, .inl v_11_2)), (a 47, .inl (cI, 7, .inl v_11_3)), (a 48, .inl (cI, 7, .inl v_11_4))] : va_W) ++ va_pl L (zz_F K V)) hP hD rfl
        refine lv_iload hx hb dX5_take_62 (lv_at hl 5 rfl) ?_
        refine lv_iconst (v := 1) hx hb dX5_take_64 (by decide) ?_
        refine lv_isub hx hb dX5_take_65 ?_
        refine zz_seti (nI (k - 1)) (zz_predN (by omega)) ?_
        refine lv_istore (lv' := [(4, .int (nI (k - 1))), (0, .ref (a 43)), (1, .int p0), (2, .ref ad), (3, .int ST), (5, .int (nI k))]) hx hb dX5_take_66 hl (by decide) rfl (fun ls hl => ?_)
        refine lv_iinc (v := (nI (k - 1))) (lv' := [(5, .int (nI (k - 1))), (4, .int (nI (k - 1))), (0, .ref (a 43)), (1, .int p0), (2, .ref ad), (3, .int ST)]) hx hb dX5_take_68 hl (k := 5) rfl (zz_predI (by omega)) (by decide) rfl (fun ls hl => ?_)
        refine lv_goto (tgt := 34) hx hb dX5_take_71 (by decide) ?_
        exact ih_34 ((k - 1), (k - 1), v_11_0, v_11_1, v_11_2, v_11_3, v_11_4) (show (k - 1) ≤ 6 ∧ (k - 1) ≤ 6 from (by refine ⟨?_, ?_⟩ <;> omega)) (show (k - 1) < k from by omega) _ _ _ (hP.part (cx := [(a 43, .inr (5, [.ref (a 44), .ref (a 45), .ref (a 46), .ref (a 47), .ref (a 48), .ref (a 49), .ref (a 50), .ref (a 51), .int (nI cc), .int (nI np), .int td, .int hd])), (a 44, .inl (cI, 7, .inl v_11_0)), (a 45, .inl (cI, 7, .inl v_11_1)), (a 46, .inl (cI, 7, .inl v_11_2)), (a 47, .inl (cI, 7, .inl v_11_3)), (a 48, .inl (cI, 7, .inl v_11_4))]) [0, 1, 2, 3, 4, 5] rfl) (hD.part (cx := [(a 43, .inr (5, [.ref (a 44), .ref (a 45), .ref (a 46), .ref (a 47), .ref (a 48), .ref (a 49), .ref (a 50), .ref (a 51), .int (nI cc), .int (nI np), .int td, .int hd])), (a 44, .inl (cI, 7, .inl v_11_0)), (a 45, .inl (cI, 7, .inl v_11_1)), (a 46, .inl (cI, 7, .inl v_11_2)), (a 47, .inl (cI, 7, .inl v_11_3)), (a 48, .inl (cI, 7, .inl v_11_4))]) [0, 1, 2, 3, 4, 5] (by decide) rfl) hS (lv_sub hl [2, 3, 4, 5, 1, 0] rfl)
  · have zc_1 := c_1
    rw [Int32.lt_iff_toInt_lt] at zc_1
    try rw [zz_toInt np (by omega)] at zc_1
    try rw [show (7 : Int32).toInt = 7 from by decide] at zc_1
    obtain ⟨hP9, hD9⟩ := zz_part2 (cx := [(a 43, .inr (5, [.ref (a 44), .ref (a 45), .ref (a 46), .ref (a 47), .ref (a 48), .ref (a 49), .ref (a 50), .ref (a 51), .int (nI cc), .int (nI np), .int td, .int hd])), (a 44, .inl (cI, 7, .inl q0)), (a 45, .inl (cI, 7, .inl q1)), (a 46, .inl (cI, 7, .inl q2)), (a 47, .inl (cI, 7, .inl q3)), (a 48, .inl (cI, 7, .inl q4))]) hP hD [0, 1, 2, 3, 4, 5] (by decide) rfl
    have hK9 := hK.sub (tys' := [(cI, .int)]) [0] rfl
    exact W.vret hx hb hr (fun t ht hW => ⟨⟨(np, q0, q1, q2, q3, q4), rfl, (by show _ ≤ _; omega), by rw [ht]; exact hP9, va_K.moved hW.alike hK9, hD9⟩, hS.F ht⟩) hS.2.2 dX5_take_9
