theorem tw_258 : Cond.code yX8_canWork cX8_canWork 3 (some .boolean) ∈ zz_all := zz_m4 174 rfl rfl
theorem tw_259 : Cond.methodLink RX8 233 yX8_canWork ∈ zz_all := zz_m4 171 rfl rfl
theorem tw_260 : Cond.instanceMethod yX8_canWork ∈ zz_all := zz_m4 173 rfl rfl
theorem tw_261 : Cond.selects RX8 yX8_canWork yX8_canWork ∈ zz_all := zz_ms 42 rfl rfl
theorem tw_262 : Cond.code yX8_worked cX8_worked 3 (some .int) ∈ zz_all := zz_m4 198 rfl rfl
theorem tw_263 : Cond.methodLink RX8 244 yX8_worked ∈ zz_all := zz_m4 195 rfl rfl
theorem tw_264 : Cond.instanceMethod yX8_worked ∈ zz_all := zz_m4 197 rfl rfl
theorem tw_265 : Cond.selects RX8 yX8_worked yX8_worked ∈ zz_all := zz_ms 48 rfl rfl
theorem zy_b24me_0 : decode cX8_hire 0 = .ok (.aload_n 0, 1) ∧ decode cX8_hire 1 = .ok (.iload_n 1, 1) ∧ decode cX8_hire 2 = .ok (.iload_n 2, 1) ∧ decode cX8_hire 3 = .ok (.invokevirtual 233, 3) ∧ decode cX8_hire 6 = .ok (.ifCond .eq 14, 3) ∧ decode cX8_hire 9 = .ok (.iload_n 2, 1) ∧ decode cX8_hire 10 = .ok (.bipush 20, 2) ∧ decode cX8_hire 12 = .ok (.aload_n 0, 1) := by decide +kernel
theorem dX8_hire_0 : decode cX8_hire 0 = .ok (.aload_n 0, 1) := zy_b24me_0.1
theorem dX8_hire_1 : decode cX8_hire 1 = .ok (.iload_n 1, 1) := zy_b24me_0.2.1
theorem dX8_hire_2 : decode cX8_hire 2 = .ok (.iload_n 2, 1) := zy_b24me_0.2.2.1
theorem dX8_hire_3 : decode cX8_hire 3 = .ok (.invokevirtual 233, 3) := zy_b24me_0.2.2.2.1
theorem dX8_hire_6 : decode cX8_hire 6 = .ok (.ifCond .eq 14, 3) := zy_b24me_0.2.2.2.2.1
theorem dX8_hire_9 : decode cX8_hire 9 = .ok (.iload_n 2, 1) := zy_b24me_0.2.2.2.2.2.1
theorem dX8_hire_10 : decode cX8_hire 10 = .ok (.bipush 20, 2) := zy_b24me_0.2.2.2.2.2.2.1
theorem dX8_hire_12 : decode cX8_hire 12 = .ok (.aload_n 0, 1) := zy_b24me_0.2.2.2.2.2.2.2
theorem zy_b24me_1 : decode cX8_hire 13 = .ok (.getfield 254, 3) ∧ decode cX8_hire 16 = .ok (.isub, 1) ∧ decode cX8_hire 17 = .ok (.if_icmp .le 5, 3) ∧ decode cX8_hire 20 = .ok (.iconst (-1), 1) ∧ decode cX8_hire 21 = .ok (.ireturn, 1) ∧ decode cX8_hire 22 = .ok (.aload_n 0, 1) ∧ decode cX8_hire 23 = .ok (.dup, 1) ∧ decode cX8_hire 24 = .ok (.getfield 254, 3) := by decide +kernel
theorem dX8_hire_13 : decode cX8_hire 13 = .ok (.getfield 254, 3) := zy_b24me_1.1
theorem dX8_hire_16 : decode cX8_hire 16 = .ok (.isub, 1) := zy_b24me_1.2.1
theorem dX8_hire_17 : decode cX8_hire 17 = .ok (.if_icmp .le 5, 3) := zy_b24me_1.2.2.1
theorem dX8_hire_20 : decode cX8_hire 20 = .ok (.iconst (-1), 1) := zy_b24me_1.2.2.2.1
theorem dX8_hire_21 : decode cX8_hire 21 = .ok (.ireturn, 1) := zy_b24me_1.2.2.2.2.1
theorem dX8_hire_22 : decode cX8_hire 22 = .ok (.aload_n 0, 1) := zy_b24me_1.2.2.2.2.2.1
theorem dX8_hire_23 : decode cX8_hire 23 = .ok (.dup, 1) := zy_b24me_1.2.2.2.2.2.2.1
theorem dX8_hire_24 : decode cX8_hire 24 = .ok (.getfield 254, 3) := zy_b24me_1.2.2.2.2.2.2.2
theorem zy_b24me_2 : decode cX8_hire 27 = .ok (.iload_n 2, 1) ∧ decode cX8_hire 28 = .ok (.iadd, 1) ∧ decode cX8_hire 29 = .ok (.putfield 254, 3) ∧ decode cX8_hire 32 = .ok (.aload_n 0, 1) ∧ decode cX8_hire 33 = .ok (.getfield 49, 3) ∧ decode cX8_hire 36 = .ok (.aload_n 0, 1) ∧ decode cX8_hire 37 = .ok (.getfield 58, 3) ∧ decode cX8_hire 40 = .ok (.iload_n 1, 1) := by decide +kernel
theorem dX8_hire_27 : decode cX8_hire 27 = .ok (.iload_n 2, 1) := zy_b24me_2.1
theorem dX8_hire_28 : decode cX8_hire 28 = .ok (.iadd, 1) := zy_b24me_2.2.1
theorem dX8_hire_29 : decode cX8_hire 29 = .ok (.putfield 254, 3) := zy_b24me_2.2.2.1
theorem dX8_hire_32 : decode cX8_hire 32 = .ok (.aload_n 0, 1) := zy_b24me_2.2.2.2.1
theorem dX8_hire_33 : decode cX8_hire 33 = .ok (.getfield 49, 3) := zy_b24me_2.2.2.2.2.1
theorem dX8_hire_36 : decode cX8_hire 36 = .ok (.aload_n 0, 1) := zy_b24me_2.2.2.2.2.2.1
theorem dX8_hire_37 : decode cX8_hire 37 = .ok (.getfield 58, 3) := zy_b24me_2.2.2.2.2.2.2.1
theorem dX8_hire_40 : decode cX8_hire 40 = .ok (.iload_n 1, 1) := zy_b24me_2.2.2.2.2.2.2.2
theorem zy_b24me_3 : decode cX8_hire 41 = .ok (.iaload, 1) ∧ decode cX8_hire 42 = .ok (.dup2, 1) ∧ decode cX8_hire 43 = .ok (.iaload, 1) ∧ decode cX8_hire 44 = .ok (.iload_n 2, 1) ∧ decode cX8_hire 45 = .ok (.aload_n 0, 1) ∧ decode cX8_hire 46 = .ok (.getfield 28, 3) ∧ decode cX8_hire 49 = .ok (.bipush 6, 2) ∧ decode cX8_hire 51 = .ok (.iaload, 1) := by decide +kernel
theorem dX8_hire_41 : decode cX8_hire 41 = .ok (.iaload, 1) := zy_b24me_3.1
theorem dX8_hire_42 : decode cX8_hire 42 = .ok (.dup2, 1) := zy_b24me_3.2.1
theorem dX8_hire_43 : decode cX8_hire 43 = .ok (.iaload, 1) := zy_b24me_3.2.2.1
theorem dX8_hire_44 : decode cX8_hire 44 = .ok (.iload_n 2, 1) := zy_b24me_3.2.2.2.1
theorem dX8_hire_45 : decode cX8_hire 45 = .ok (.aload_n 0, 1) := zy_b24me_3.2.2.2.2.1
theorem dX8_hire_46 : decode cX8_hire 46 = .ok (.getfield 28, 3) := zy_b24me_3.2.2.2.2.2.1
theorem dX8_hire_49 : decode cX8_hire 49 = .ok (.bipush 6, 2) := zy_b24me_3.2.2.2.2.2.2.1
theorem dX8_hire_51 : decode cX8_hire 51 = .ok (.iaload, 1) := zy_b24me_3.2.2.2.2.2.2.2
theorem zy_b24me_4 : decode cX8_hire 52 = .ok (.imul, 1) ∧ decode cX8_hire 53 = .ok (.iadd, 1) ∧ decode cX8_hire 54 = .ok (.iastore, 1) ∧ decode cX8_hire 55 = .ok (.aload_n 0, 1) ∧ decode cX8_hire 56 = .ok (.iload_n 1, 1) ∧ decode cX8_hire 57 = .ok (.iload_n 2, 1) ∧ decode cX8_hire 58 = .ok (.invokevirtual 244, 3) ∧ decode cX8_hire 61 = .ok (.ireturn, 1) := by decide +kernel
theorem dX8_hire_52 : decode cX8_hire 52 = .ok (.imul, 1) := zy_b24me_4.1
theorem dX8_hire_53 : decode cX8_hire 53 = .ok (.iadd, 1) := zy_b24me_4.2.1
theorem dX8_hire_54 : decode cX8_hire 54 = .ok (.iastore, 1) := zy_b24me_4.2.2.1
theorem dX8_hire_55 : decode cX8_hire 55 = .ok (.aload_n 0, 1) := zy_b24me_4.2.2.2.1
theorem dX8_hire_56 : decode cX8_hire 56 = .ok (.iload_n 1, 1) := zy_b24me_4.2.2.2.2.1
theorem dX8_hire_57 : decode cX8_hire 57 = .ok (.iload_n 2, 1) := zy_b24me_4.2.2.2.2.2.1
theorem dX8_hire_58 : decode cX8_hire 58 = .ok (.invokevirtual 244, 3) := zy_b24me_4.2.2.2.2.2.2.1
theorem dX8_hire_61 : decode cX8_hire 61 = .ok (.ireturn, 1) := zy_b24me_4.2.2.2.2.2.2.2
