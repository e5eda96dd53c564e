theorem tw_52 : Cond.code yX7_fieldAt cX7_fieldAt 2 (some (.object "HandsReturned$Field")) ∈ zz_all := zz_m2 223 rfl rfl
theorem tw_53 : Cond.methodLink RX7 122 yX7_fieldAt ∈ zz_all := zz_m2 220 rfl rfl
theorem tw_54 : Cond.instanceMethod yX7_fieldAt ∈ zz_all := zz_m2 222 rfl rfl
theorem tw_55 : Cond.selects RX7 yX7_fieldAt yX7_fieldAt ∈ zz_all := zz_ms 8 rfl rfl
theorem tw_56 : Cond.code yX3_takes cX3_takes 3 (some .boolean) ∈ zz_all := zz_m2 227 rfl rfl
theorem tw_57 : Cond.initialized RX3 ∈ zz_all := zz_m1 3 rfl rfl
theorem tw_58 : Cond.instanceMethod yX3_takes ∈ zz_all := zz_m2 226 rfl rfl
theorem tw_59 : Cond.selects RX3 yX3_takes yX3_takes ∈ zz_all := zz_ms 9 rfl rfl
theorem tw_60 : Cond.code yX4_freeHands cX4_freeHands 1 (some .int) ∈ zz_all := zz_m2 231 rfl rfl
theorem tw_61 : Cond.initialized RX4 ∈ zz_all := zz_m1 2 rfl rfl
theorem tw_62 : Cond.instanceMethod yX4_freeHands ∈ zz_all := zz_m2 230 rfl rfl
theorem tw_63 : Cond.selects RX4 yX4_freeHands yX4_freeHands ∈ zz_all := zz_ms 10 rfl rfl
theorem tw_64 : Cond.code yX7_workDone cX7_workDone 4 (some .int) ∈ zz_all := zz_m3 16 rfl rfl
theorem tw_65 : Cond.methodLink RX7 147 yX7_workDone ∈ zz_all := zz_m3 13 rfl rfl
theorem tw_66 : Cond.instanceMethod yX7_workDone ∈ zz_all := zz_m3 15 rfl rfl
theorem tw_67 : Cond.selects RX7 yX7_workDone yX7_workDone ∈ zz_all := zz_ms 16 rfl rfl
theorem tw_68 : Cond.code yX7_oweForWork cX7_oweForWork 8 none ∈ zz_all := zz_m2 235 rfl rfl
theorem tw_69 : Cond.methodLink RX7 143 yX7_oweForWork ∈ zz_all := zz_m2 232 rfl rfl
theorem tw_70 : Cond.instanceMethod yX7_oweForWork ∈ zz_all := zz_m2 234 rfl rfl
theorem tw_71 : Cond.selects RX7 yX7_oweForWork yX7_oweForWork ∈ zz_all := zz_ms 11 rfl rfl
theorem tw_72 : Cond.fieldLink RX7 151 "HandsReturned" "hired" "I" ∈ zz_all := zz_m2 37 rfl rfl
theorem tw_73 : Cond.code yX7_lapseDebts cX7_lapseDebts 4 none ∈ zz_all := zz_m3 39 rfl rfl
theorem tw_74 : Cond.methodLink RX7 246 yX7_lapseDebts ∈ zz_all := zz_m3 36 rfl rfl
theorem tw_75 : Cond.instanceMethod yX7_lapseDebts ∈ zz_all := zz_m3 38 rfl rfl
theorem tw_76 : Cond.selects RX7 yX7_lapseDebts yX7_lapseDebts ∈ zz_all := zz_ms 18 rfl rfl
theorem tw_77 : Cond.code yX7_nextDay cX7_nextDay 2 none ∈ zz_all := zz_m3 35 rfl rfl
theorem tw_78 : Cond.methodLink RX7 157 yX7_nextDay ∈ zz_all := zz_m3 32 rfl rfl
theorem tw_79 : Cond.instanceMethod yX7_nextDay ∈ zz_all := zz_m3 34 rfl rfl
theorem tw_80 : Cond.selects RX7 yX7_nextDay yX7_nextDay ∈ zz_all := zz_ms 17 rfl rfl
theorem zy_b08days_0 : decode cX7_work 0 = .ok (.aload_n 0, 1) ∧ decode cX7_work 1 = .ok (.iload_n 1, 1) ∧ decode cX7_work 2 = .ok (.invokevirtual 73, 3) ∧ decode cX7_work 5 = .ok (.astore 4, 2) ∧ decode cX7_work 7 = .ok (.aload_n 0, 1) ∧ decode cX7_work 8 = .ok (.iload_n 2, 1) ∧ decode cX7_work 9 = .ok (.invokevirtual 122, 3) ∧ decode cX7_work 12 = .ok (.astore 5, 2) := by decide +kernel
theorem dX7_work_0 : decode cX7_work 0 = .ok (.aload_n 0, 1) := zy_b08days_0.1
theorem dX7_work_1 : decode cX7_work 1 = .ok (.iload_n 1, 1) := zy_b08days_0.2.1
theorem dX7_work_2 : decode cX7_work 2 = .ok (.invokevirtual 73, 3) := zy_b08days_0.2.2.1
theorem dX7_work_5 : decode cX7_work 5 = .ok (.astore 4, 2) := zy_b08days_0.2.2.2.1
theorem dX7_work_7 : decode cX7_work 7 = .ok (.aload_n 0, 1) := zy_b08days_0.2.2.2.2.1
theorem dX7_work_8 : decode cX7_work 8 = .ok (.iload_n 2, 1) := zy_b08days_0.2.2.2.2.2.1
theorem dX7_work_9 : decode cX7_work 9 = .ok (.invokevirtual 122, 3) := zy_b08days_0.2.2.2.2.2.2.1
theorem dX7_work_12 : decode cX7_work 12 = .ok (.astore 5, 2) := zy_b08days_0.2.2.2.2.2.2.2
theorem zy_b08days_1 : decode cX7_work 14 = .ok (.aload 4, 2) ∧ decode cX7_work 16 = .ok (.ifnull 21, 3) ∧ decode cX7_work 19 = .ok (.aload 5, 2) ∧ decode cX7_work 21 = .ok (.ifnull 16, 3) ∧ decode cX7_work 24 = .ok (.aload_n 0, 1) ∧ decode cX7_work 25 = .ok (.getfield 44, 3) ∧ decode cX7_work 28 = .ok (.getfield 126, 3) ∧ decode cX7_work 31 = .ok (.sipush 300, 3) := by decide +kernel
theorem dX7_work_14 : decode cX7_work 14 = .ok (.aload 4, 2) := zy_b08days_1.1
theorem dX7_work_16 : decode cX7_work 16 = .ok (.ifnull 21, 3) := zy_b08days_1.2.1
theorem dX7_work_19 : decode cX7_work 19 = .ok (.aload 5, 2) := zy_b08days_1.2.2.1
theorem dX7_work_21 : decode cX7_work 21 = .ok (.ifnull 16, 3) := zy_b08days_1.2.2.2.1
theorem dX7_work_24 : decode cX7_work 24 = .ok (.aload_n 0, 1) := zy_b08days_1.2.2.2.2.1
theorem dX7_work_25 : decode cX7_work 25 = .ok (.getfield 44, 3) := zy_b08days_1.2.2.2.2.2.1
theorem dX7_work_28 : decode cX7_work 28 = .ok (.getfield 126, 3) := zy_b08days_1.2.2.2.2.2.2.1
theorem dX7_work_31 : decode cX7_work 31 = .ok (.sipush 300, 3) := zy_b08days_1.2.2.2.2.2.2.2
theorem zy_b08days_2 : decode cX7_work 34 = .ok (.if_icmp .lt 5, 3) ∧ decode cX7_work 37 = .ok (.iconst (-1), 1) ∧ decode cX7_work 38 = .ok (.ireturn, 1) ∧ decode cX7_work 39 = .ok (.aload 5, 2) ∧ decode cX7_work 41 = .ok (.iload_n 3, 1) ∧ decode cX7_work 42 = .ok (.aload_n 0, 1) ∧ decode cX7_work 43 = .ok (.getfield 129, 3) ∧ decode cX7_work 46 = .ok (.invokevirtual 132, 3) := by decide +kernel
theorem dX7_work_34 : decode cX7_work 34 = .ok (.if_icmp .lt 5, 3) := zy_b08days_2.1
theorem dX7_work_37 : decode cX7_work 37 = .ok (.iconst (-1), 1) := zy_b08days_2.2.1
theorem dX7_work_38 : decode cX7_work 38 = .ok (.ireturn, 1) := zy_b08days_2.2.2.1
theorem dX7_work_39 : decode cX7_work 39 = .ok (.aload 5, 2) := zy_b08days_2.2.2.2.1
theorem dX7_work_41 : decode cX7_work 41 = .ok (.iload_n 3, 1) := zy_b08days_2.2.2.2.2.1
theorem dX7_work_42 : decode cX7_work 42 = .ok (.aload_n 0, 1) := zy_b08days_2.2.2.2.2.2.1
theorem dX7_work_43 : decode cX7_work 43 = .ok (.getfield 129, 3) := zy_b08days_2.2.2.2.2.2.2.1
theorem dX7_work_46 : decode cX7_work 46 = .ok (.invokevirtual 132, 3) := zy_b08days_2.2.2.2.2.2.2.2
theorem zy_b08days_3 : decode cX7_work 49 = .ok (.ifCond .eq 12, 3) ∧ decode cX7_work 52 = .ok (.iload_n 3, 1) ∧ decode cX7_work 53 = .ok (.aload 4, 2) ∧ decode cX7_work 55 = .ok (.invokevirtual 136, 3) ∧ decode cX7_work 58 = .ok (.if_icmp .le 5, 3) ∧ decode cX7_work 61 = .ok (.iconst (-1), 1) ∧ decode cX7_work 62 = .ok (.ireturn, 1) ∧ decode cX7_work 63 = .ok (.aload 4, 2) := by decide +kernel
theorem dX7_work_49 : decode cX7_work 49 = .ok (.ifCond .eq 12, 3) := zy_b08days_3.1
theorem dX7_work_52 : decode cX7_work 52 = .ok (.iload_n 3, 1) := zy_b08days_3.2.1
theorem dX7_work_53 : decode cX7_work 53 = .ok (.aload 4, 2) := zy_b08days_3.2.2.1
theorem dX7_work_55 : decode cX7_work 55 = .ok (.invokevirtual 136, 3) := zy_b08days_3.2.2.2.1
theorem dX7_work_58 : decode cX7_work 58 = .ok (.if_icmp .le 5, 3) := zy_b08days_3.2.2.2.2.1
theorem dX7_work_61 : decode cX7_work 61 = .ok (.iconst (-1), 1) := zy_b08days_3.2.2.2.2.2.1
theorem dX7_work_62 : decode cX7_work 62 = .ok (.ireturn, 1) := zy_b08days_3.2.2.2.2.2.2.1
theorem dX7_work_63 : decode cX7_work 63 = .ok (.aload 4, 2) := zy_b08days_3.2.2.2.2.2.2.2
theorem zy_b08days_4 : decode cX7_work 65 = .ok (.dup, 1) ∧ decode cX7_work 66 = .ok (.getfield 140, 3) ∧ decode cX7_work 69 = .ok (.iload_n 3, 1) ∧ decode cX7_work 70 = .ok (.iadd, 1) ∧ decode cX7_work 71 = .ok (.putfield 140, 3) ∧ decode cX7_work 74 = .ok (.aload 5, 2) ∧ decode cX7_work 76 = .ok (.getfield 84, 3) ∧ decode cX7_work 79 = .ok (.iload_n 1, 1) := by decide +kernel
theorem dX7_work_65 : decode cX7_work 65 = .ok (.dup, 1) := zy_b08days_4.1
theorem dX7_work_66 : decode cX7_work 66 = .ok (.getfield 140, 3) := zy_b08days_4.2.1
theorem dX7_work_69 : decode cX7_work 69 = .ok (.iload_n 3, 1) := zy_b08days_4.2.2.1
theorem dX7_work_70 : decode cX7_work 70 = .ok (.iadd, 1) := zy_b08days_4.2.2.2.1
theorem dX7_work_71 : decode cX7_work 71 = .ok (.putfield 140, 3) := zy_b08days_4.2.2.2.2.1
theorem dX7_work_74 : decode cX7_work 74 = .ok (.aload 5, 2) := zy_b08days_4.2.2.2.2.2.1
theorem dX7_work_76 : decode cX7_work 76 = .ok (.getfield 84, 3) := zy_b08days_4.2.2.2.2.2.2.1
theorem dX7_work_79 : decode cX7_work 79 = .ok (.iload_n 1, 1) := zy_b08days_4.2.2.2.2.2.2.2
theorem zy_b08days_5 : decode cX7_work 80 = .ok (.if_icmp .eq 11, 3) ∧ decode cX7_work 83 = .ok (.aload_n 0, 1) ∧ decode cX7_work 84 = .ok (.iload_n 1, 1) ∧ decode cX7_work 85 = .ok (.aload 5, 2) ∧ decode cX7_work 87 = .ok (.iload_n 3, 1) ∧ decode cX7_work 88 = .ok (.invokevirtual 143, 3) ∧ decode cX7_work 91 = .ok (.aload_n 0, 1) ∧ decode cX7_work 92 = .ok (.aload 5, 2) := by decide +kernel
theorem dX7_work_80 : decode cX7_work 80 = .ok (.if_icmp .eq 11, 3) := zy_b08days_5.1
theorem dX7_work_83 : decode cX7_work 83 = .ok (.aload_n 0, 1) := zy_b08days_5.2.1
theorem dX7_work_84 : decode cX7_work 84 = .ok (.iload_n 1, 1) := zy_b08days_5.2.2.1
theorem dX7_work_85 : decode cX7_work 85 = .ok (.aload 5, 2) := zy_b08days_5.2.2.2.1
theorem dX7_work_87 : decode cX7_work 87 = .ok (.iload_n 3, 1) := zy_b08days_5.2.2.2.2.1
theorem dX7_work_88 : decode cX7_work 88 = .ok (.invokevirtual 143, 3) := zy_b08days_5.2.2.2.2.2.1
theorem dX7_work_91 : decode cX7_work 91 = .ok (.aload_n 0, 1) := zy_b08days_5.2.2.2.2.2.2.1
theorem dX7_work_92 : decode cX7_work 92 = .ok (.aload 5, 2) := zy_b08days_5.2.2.2.2.2.2.2
theorem zy_b08days_6 : decode cX7_work 94 = .ok (.iload_n 3, 1) ∧ decode cX7_work 95 = .ok (.invokevirtual 147, 3) ∧ decode cX7_work 98 = .ok (.ireturn, 1) := by decide +kernel
theorem dX7_work_94 : decode cX7_work 94 = .ok (.iload_n 3, 1) := zy_b08days_6.1
theorem dX7_work_95 : decode cX7_work 95 = .ok (.invokevirtual 147, 3) := zy_b08days_6.2.1
theorem dX7_work_98 : decode cX7_work 98 = .ok (.ireturn, 1) := zy_b08days_6.2.2
theorem zy_b08days_7 : decode cX7_hire 0 = .ok (.aload_n 0, 1) ∧ decode cX7_hire 1 = .ok (.iload_n 1, 1) ∧ decode cX7_hire 2 = .ok (.invokevirtual 122, 3) ∧ decode cX7_hire 5 = .ok (.astore_n 3, 1) ∧ decode cX7_hire 6 = .ok (.aload_n 3, 1) ∧ decode cX7_hire 7 = .ok (.ifnull 26, 3) ∧ decode cX7_hire 10 = .ok (.aload_n 3, 1) ∧ decode cX7_hire 11 = .ok (.iload_n 2, 1) := by decide +kernel
theorem dX7_hire_0 : decode cX7_hire 0 = .ok (.aload_n 0, 1) := zy_b08days_7.1
theorem dX7_hire_1 : decode cX7_hire 1 = .ok (.iload_n 1, 1) := zy_b08days_7.2.1
theorem dX7_hire_2 : decode cX7_hire 2 = .ok (.invokevirtual 122, 3) := zy_b08days_7.2.2.1
theorem dX7_hire_5 : decode cX7_hire 5 = .ok (.astore_n 3, 1) := zy_b08days_7.2.2.2.1
theorem dX7_hire_6 : decode cX7_hire 6 = .ok (.aload_n 3, 1) := zy_b08days_7.2.2.2.2.1
theorem dX7_hire_7 : decode cX7_hire 7 = .ok (.ifnull 26, 3) := zy_b08days_7.2.2.2.2.2.1
theorem dX7_hire_10 : decode cX7_hire 10 = .ok (.aload_n 3, 1) := zy_b08days_7.2.2.2.2.2.2.1
theorem dX7_hire_11 : decode cX7_hire 11 = .ok (.iload_n 2, 1) := zy_b08days_7.2.2.2.2.2.2.2
theorem zy_b08days_8 : decode cX7_hire 12 = .ok (.aload_n 0, 1) ∧ decode cX7_hire 13 = .ok (.getfield 129, 3) ∧ decode cX7_hire 16 = .ok (.invokevirtual 132, 3) ∧ decode cX7_hire 19 = .ok (.ifCond .eq 14, 3) ∧ decode cX7_hire 22 = .ok (.iload_n 2, 1) ∧ decode cX7_hire 23 = .ok (.bipush 20, 2) ∧ decode cX7_hire 25 = .ok (.aload_n 0, 1) ∧ decode cX7_hire 26 = .ok (.getfield 151, 3) := by decide +kernel
theorem dX7_hire_12 : decode cX7_hire 12 = .ok (.aload_n 0, 1) := zy_b08days_8.1
theorem dX7_hire_13 : decode cX7_hire 13 = .ok (.getfield 129, 3) := zy_b08days_8.2.1
theorem dX7_hire_16 : decode cX7_hire 16 = .ok (.invokevirtual 132, 3) := zy_b08days_8.2.2.1
theorem dX7_hire_19 : decode cX7_hire 19 = .ok (.ifCond .eq 14, 3) := zy_b08days_8.2.2.2.1
theorem dX7_hire_22 : decode cX7_hire 22 = .ok (.iload_n 2, 1) := zy_b08days_8.2.2.2.2.1
theorem dX7_hire_23 : decode cX7_hire 23 = .ok (.bipush 20, 2) := zy_b08days_8.2.2.2.2.2.1
theorem dX7_hire_25 : decode cX7_hire 25 = .ok (.aload_n 0, 1) := zy_b08days_8.2.2.2.2.2.2.1
theorem dX7_hire_26 : decode cX7_hire 26 = .ok (.getfield 151, 3) := zy_b08days_8.2.2.2.2.2.2.2
theorem zy_b08days_9 : decode cX7_hire 29 = .ok (.isub, 1) ∧ decode cX7_hire 30 = .ok (.if_icmp .le 5, 3) ∧ decode cX7_hire 33 = .ok (.iconst (-1), 1) ∧ decode cX7_hire 34 = .ok (.ireturn, 1) ∧ decode cX7_hire 35 = .ok (.aload_n 0, 1) ∧ decode cX7_hire 36 = .ok (.dup, 1) ∧ decode cX7_hire 37 = .ok (.getfield 151, 3) ∧ decode cX7_hire 40 = .ok (.iload_n 2, 1) := by decide +kernel
theorem dX7_hire_29 : decode cX7_hire 29 = .ok (.isub, 1) := zy_b08days_9.1
theorem dX7_hire_30 : decode cX7_hire 30 = .ok (.if_icmp .le 5, 3) := zy_b08days_9.2.1
theorem dX7_hire_33 : decode cX7_hire 33 = .ok (.iconst (-1), 1) := zy_b08days_9.2.2.1
theorem dX7_hire_34 : decode cX7_hire 34 = .ok (.ireturn, 1) := zy_b08days_9.2.2.2.1
theorem dX7_hire_35 : decode cX7_hire 35 = .ok (.aload_n 0, 1) := zy_b08days_9.2.2.2.2.1
theorem dX7_hire_36 : decode cX7_hire 36 = .ok (.dup, 1) := zy_b08days_9.2.2.2.2.2.1
theorem dX7_hire_37 : decode cX7_hire 37 = .ok (.getfield 151, 3) := zy_b08days_9.2.2.2.2.2.2.1
theorem dX7_hire_40 : decode cX7_hire 40 = .ok (.iload_n 2, 1) := zy_b08days_9.2.2.2.2.2.2.2
theorem zy_b08days_10 : decode cX7_hire 41 = .ok (.iadd, 1) ∧ decode cX7_hire 42 = .ok (.putfield 151, 3) ∧ decode cX7_hire 45 = .ok (.aload_n 0, 1) ∧ decode cX7_hire 46 = .ok (.aload_n 3, 1) ∧ decode cX7_hire 47 = .ok (.getfield 84, 3) ∧ decode cX7_hire 50 = .ok (.invokevirtual 73, 3) ∧ decode cX7_hire 53 = .ok (.astore 4, 2) ∧ decode cX7_hire 55 = .ok (.aload 4, 2) := by decide +kernel
theorem dX7_hire_41 : decode cX7_hire 41 = .ok (.iadd, 1) := zy_b08days_10.1
theorem dX7_hire_42 : decode cX7_hire 42 = .ok (.putfield 151, 3) := zy_b08days_10.2.1
theorem dX7_hire_45 : decode cX7_hire 45 = .ok (.aload_n 0, 1) := zy_b08days_10.2.2.1
theorem dX7_hire_46 : decode cX7_hire 46 = .ok (.aload_n 3, 1) := zy_b08days_10.2.2.2.1
theorem dX7_hire_47 : decode cX7_hire 47 = .ok (.getfield 84, 3) := zy_b08days_10.2.2.2.2.1
theorem dX7_hire_50 : decode cX7_hire 50 = .ok (.invokevirtual 73, 3) := zy_b08days_10.2.2.2.2.2.1
theorem dX7_hire_53 : decode cX7_hire 53 = .ok (.astore 4, 2) := zy_b08days_10.2.2.2.2.2.2.1
theorem dX7_hire_55 : decode cX7_hire 55 = .ok (.aload 4, 2) := zy_b08days_10.2.2.2.2.2.2.2
theorem zy_b08days_11 : decode cX7_hire 57 = .ok (.ifnull 25, 3) ∧ decode cX7_hire 60 = .ok (.aload 4, 2) ∧ decode cX7_hire 62 = .ok (.dup, 1) ∧ decode cX7_hire 63 = .ok (.getfield 154, 3) ∧ decode cX7_hire 66 = .ok (.iload_n 2, 1) ∧ decode cX7_hire 67 = .ok (.aload_n 0, 1) ∧ decode cX7_hire 68 = .ok (.getfield 37, 3) ∧ decode cX7_hire 71 = .ok (.getfield 116, 3) := by decide +kernel
theorem dX7_hire_57 : decode cX7_hire 57 = .ok (.ifnull 25, 3) := zy_b08days_11.1
theorem dX7_hire_60 : decode cX7_hire 60 = .ok (.aload 4, 2) := zy_b08days_11.2.1
theorem dX7_hire_62 : decode cX7_hire 62 = .ok (.dup, 1) := zy_b08days_11.2.2.1
theorem dX7_hire_63 : decode cX7_hire 63 = .ok (.getfield 154, 3) := zy_b08days_11.2.2.2.1
theorem dX7_hire_66 : decode cX7_hire 66 = .ok (.iload_n 2, 1) := zy_b08days_11.2.2.2.2.1
theorem dX7_hire_67 : decode cX7_hire 67 = .ok (.aload_n 0, 1) := zy_b08days_11.2.2.2.2.2.1
theorem dX7_hire_68 : decode cX7_hire 68 = .ok (.getfield 37, 3) := zy_b08days_11.2.2.2.2.2.2.1
theorem dX7_hire_71 : decode cX7_hire 71 = .ok (.getfield 116, 3) := zy_b08days_11.2.2.2.2.2.2.2
theorem zy_b08days_12 : decode cX7_hire 74 = .ok (.bipush 6, 2) ∧ decode cX7_hire 76 = .ok (.iaload, 1) ∧ decode cX7_hire 77 = .ok (.imul, 1) ∧ decode cX7_hire 78 = .ok (.iadd, 1) ∧ decode cX7_hire 79 = .ok (.putfield 154, 3) ∧ decode cX7_hire 82 = .ok (.aload_n 0, 1) ∧ decode cX7_hire 83 = .ok (.aload_n 3, 1) ∧ decode cX7_hire 84 = .ok (.iload_n 2, 1) := by decide +kernel
theorem dX7_hire_74 : decode cX7_hire 74 = .ok (.bipush 6, 2) := zy_b08days_12.1
theorem dX7_hire_76 : decode cX7_hire 76 = .ok (.iaload, 1) := zy_b08days_12.2.1
theorem dX7_hire_77 : decode cX7_hire 77 = .ok (.imul, 1) := zy_b08days_12.2.2.1
theorem dX7_hire_78 : decode cX7_hire 78 = .ok (.iadd, 1) := zy_b08days_12.2.2.2.1
theorem dX7_hire_79 : decode cX7_hire 79 = .ok (.putfield 154, 3) := zy_b08days_12.2.2.2.2.1
theorem dX7_hire_82 : decode cX7_hire 82 = .ok (.aload_n 0, 1) := zy_b08days_12.2.2.2.2.2.1
theorem dX7_hire_83 : decode cX7_hire 83 = .ok (.aload_n 3, 1) := zy_b08days_12.2.2.2.2.2.2.1
theorem dX7_hire_84 : decode cX7_hire 84 = .ok (.iload_n 2, 1) := zy_b08days_12.2.2.2.2.2.2.2
theorem dX7_hire_85 : decode cX7_hire 85 = .ok (.invokevirtual 147, 3) := by decide +kernel
theorem dX7_hire_88 : decode cX7_hire 88 = .ok (.ireturn, 1) := by decide +kernel
theorem zy_b08days_13 : decode cX7_lapseDebts 0 = .ok (.iconst 0, 1) ∧ decode cX7_lapseDebts 1 = .ok (.istore_n 1, 1) ∧ decode cX7_lapseDebts 2 = .ok (.iload_n 1, 1) ∧ decode cX7_lapseDebts 3 = .ok (.aload_n 0, 1) ∧ decode cX7_lapseDebts 4 = .ok (.getfield 44, 3) ∧ decode cX7_lapseDebts 7 = .ok (.getfield 126, 3) ∧ decode cX7_lapseDebts 10 = .ok (.if_icmp .ge 107, 3) ∧ decode cX7_lapseDebts 13 = .ok (.aload_n 0, 1) := by decide +kernel
theorem dX7_lapseDebts_0 : decode cX7_lapseDebts 0 = .ok (.iconst 0, 1) := zy_b08days_13.1
theorem dX7_lapseDebts_1 : decode cX7_lapseDebts 1 = .ok (.istore_n 1, 1) := zy_b08days_13.2.1
theorem dX7_lapseDebts_2 : decode cX7_lapseDebts 2 = .ok (.iload_n 1, 1) := zy_b08days_13.2.2.1
theorem dX7_lapseDebts_3 : decode cX7_lapseDebts 3 = .ok (.aload_n 0, 1) := zy_b08days_13.2.2.2.1
theorem dX7_lapseDebts_4 : decode cX7_lapseDebts 4 = .ok (.getfield 44, 3) := zy_b08days_13.2.2.2.2.1
theorem dX7_lapseDebts_7 : decode cX7_lapseDebts 7 = .ok (.getfield 126, 3) := zy_b08days_13.2.2.2.2.2.1
theorem dX7_lapseDebts_10 : decode cX7_lapseDebts 10 = .ok (.if_icmp .ge 107, 3) := zy_b08days_13.2.2.2.2.2.2.1
theorem dX7_lapseDebts_13 : decode cX7_lapseDebts 13 = .ok (.aload_n 0, 1) := zy_b08days_13.2.2.2.2.2.2.2
theorem zy_b08days_14 : decode cX7_lapseDebts 14 = .ok (.aload_n 0, 1) ∧ decode cX7_lapseDebts 15 = .ok (.getfield 44, 3) ∧ decode cX7_lapseDebts 18 = .ok (.getfield 249, 3) ∧ decode cX7_lapseDebts 21 = .ok (.iload_n 1, 1) ∧ decode cX7_lapseDebts 22 = .ok (.iaload, 1) ∧ decode cX7_lapseDebts 23 = .ok (.invokevirtual 73, 3) ∧ decode cX7_lapseDebts 26 = .ok (.astore_n 2, 1) ∧ decode cX7_lapseDebts 27 = .ok (.aload_n 2, 1) := by decide +kernel
theorem dX7_lapseDebts_14 : decode cX7_lapseDebts 14 = .ok (.aload_n 0, 1) := zy_b08days_14.1
theorem dX7_lapseDebts_15 : decode cX7_lapseDebts 15 = .ok (.getfield 44, 3) := zy_b08days_14.2.1
theorem dX7_lapseDebts_18 : decode cX7_lapseDebts 18 = .ok (.getfield 249, 3) := zy_b08days_14.2.2.1
theorem dX7_lapseDebts_21 : decode cX7_lapseDebts 21 = .ok (.iload_n 1, 1) := zy_b08days_14.2.2.2.1
theorem dX7_lapseDebts_22 : decode cX7_lapseDebts 22 = .ok (.iaload, 1) := zy_b08days_14.2.2.2.2.1
theorem dX7_lapseDebts_23 : decode cX7_lapseDebts 23 = .ok (.invokevirtual 73, 3) := zy_b08days_14.2.2.2.2.2.1
theorem dX7_lapseDebts_26 : decode cX7_lapseDebts 26 = .ok (.astore_n 2, 1) := zy_b08days_14.2.2.2.2.2.2.1
theorem dX7_lapseDebts_27 : decode cX7_lapseDebts 27 = .ok (.aload_n 2, 1) := zy_b08days_14.2.2.2.2.2.2.2
theorem zy_b08days_15 : decode cX7_lapseDebts 28 = .ok (.ifnonnull 6, 3) ∧ decode cX7_lapseDebts 34 = .ok (.aload_n 0, 1) ∧ decode cX7_lapseDebts 35 = .ok (.getfield 37, 3) ∧ decode cX7_lapseDebts 38 = .ok (.getfield 116, 3) ∧ decode cX7_lapseDebts 41 = .ok (.iconst 3, 1) ∧ decode cX7_lapseDebts 42 = .ok (.iaload, 1) ∧ decode cX7_lapseDebts 43 = .ok (.aload_n 2, 1) ∧ decode cX7_lapseDebts 44 = .ok (.getfield 69, 3) := by decide +kernel
theorem dX7_lapseDebts_28 : decode cX7_lapseDebts 28 = .ok (.ifnonnull 6, 3) := zy_b08days_15.1
theorem dX7_lapseDebts_34 : decode cX7_lapseDebts 34 = .ok (.aload_n 0, 1) := zy_b08days_15.2.1
theorem dX7_lapseDebts_35 : decode cX7_lapseDebts 35 = .ok (.getfield 37, 3) := zy_b08days_15.2.2.1
theorem dX7_lapseDebts_38 : decode cX7_lapseDebts 38 = .ok (.getfield 116, 3) := zy_b08days_15.2.2.2.1
theorem dX7_lapseDebts_41 : decode cX7_lapseDebts 41 = .ok (.iconst 3, 1) := zy_b08days_15.2.2.2.2.1
theorem dX7_lapseDebts_42 : decode cX7_lapseDebts 42 = .ok (.iaload, 1) := zy_b08days_15.2.2.2.2.2.1
theorem dX7_lapseDebts_43 : decode cX7_lapseDebts 43 = .ok (.aload_n 2, 1) := zy_b08days_15.2.2.2.2.2.2.1
theorem dX7_lapseDebts_44 : decode cX7_lapseDebts 44 = .ok (.getfield 69, 3) := zy_b08days_15.2.2.2.2.2.2.2
theorem zy_b08days_16 : decode cX7_lapseDebts 47 = .ok (.ifCond .eq 15, 3) ∧ decode cX7_lapseDebts 50 = .ok (.aload_n 0, 1) ∧ decode cX7_lapseDebts 51 = .ok (.getfield 37, 3) ∧ decode cX7_lapseDebts 54 = .ok (.getfield 116, 3) ∧ decode cX7_lapseDebts 57 = .ok (.iconst 4, 1) ∧ decode cX7_lapseDebts 58 = .ok (.iaload, 1) ∧ decode cX7_lapseDebts 59 = .ok (.goto 4, 3) ∧ decode cX7_lapseDebts 62 = .ok (.iconst 0, 1) := by decide +kernel
theorem dX7_lapseDebts_47 : decode cX7_lapseDebts 47 = .ok (.ifCond .eq 15, 3) := zy_b08days_16.1
theorem dX7_lapseDebts_50 : decode cX7_lapseDebts 50 = .ok (.aload_n 0, 1) := zy_b08days_16.2.1
theorem dX7_lapseDebts_51 : decode cX7_lapseDebts 51 = .ok (.getfield 37, 3) := zy_b08days_16.2.2.1
theorem dX7_lapseDebts_54 : decode cX7_lapseDebts 54 = .ok (.getfield 116, 3) := zy_b08days_16.2.2.2.1
theorem dX7_lapseDebts_57 : decode cX7_lapseDebts 57 = .ok (.iconst 4, 1) := zy_b08days_16.2.2.2.2.1
theorem dX7_lapseDebts_58 : decode cX7_lapseDebts 58 = .ok (.iaload, 1) := zy_b08days_16.2.2.2.2.2.1
theorem dX7_lapseDebts_59 : decode cX7_lapseDebts 59 = .ok (.goto 4, 3) := zy_b08days_16.2.2.2.2.2.2.1
theorem dX7_lapseDebts_62 : decode cX7_lapseDebts 62 = .ok (.iconst 0, 1) := zy_b08days_16.2.2.2.2.2.2.2
theorem zy_b08days_17 : decode cX7_lapseDebts 63 = .ok (.iadd, 1) ∧ decode cX7_lapseDebts 64 = .ok (.istore_n 3, 1) ∧ decode cX7_lapseDebts 65 = .ok (.aload_n 0, 1) ∧ decode cX7_lapseDebts 66 = .ok (.getfield 129, 3) ∧ decode cX7_lapseDebts 69 = .ok (.aload_n 0, 1) ∧ decode cX7_lapseDebts 70 = .ok (.getfield 44, 3) ∧ decode cX7_lapseDebts 73 = .ok (.getfield 252, 3) ∧ decode cX7_lapseDebts 76 = .ok (.iload_n 1, 1) := by decide +kernel
theorem dX7_lapseDebts_63 : decode cX7_lapseDebts 63 = .ok (.iadd, 1) := zy_b08days_17.1
theorem dX7_lapseDebts_64 : decode cX7_lapseDebts 64 = .ok (.istore_n 3, 1) := zy_b08days_17.2.1
theorem dX7_lapseDebts_65 : decode cX7_lapseDebts 65 = .ok (.aload_n 0, 1) := zy_b08days_17.2.2.1
theorem dX7_lapseDebts_66 : decode cX7_lapseDebts 66 = .ok (.getfield 129, 3) := zy_b08days_17.2.2.2.1
theorem dX7_lapseDebts_69 : decode cX7_lapseDebts 69 = .ok (.aload_n 0, 1) := zy_b08days_17.2.2.2.2.1
theorem dX7_lapseDebts_70 : decode cX7_lapseDebts 70 = .ok (.getfield 44, 3) := zy_b08days_17.2.2.2.2.2.1
theorem dX7_lapseDebts_73 : decode cX7_lapseDebts 73 = .ok (.getfield 252, 3) := zy_b08days_17.2.2.2.2.2.2.1
theorem dX7_lapseDebts_76 : decode cX7_lapseDebts 76 = .ok (.iload_n 1, 1) := zy_b08days_17.2.2.2.2.2.2.2
theorem zy_b08days_18 : decode cX7_lapseDebts 77 = .ok (.iaload, 1) ∧ decode cX7_lapseDebts 78 = .ok (.isub, 1) ∧ decode cX7_lapseDebts 79 = .ok (.iload_n 3, 1) ∧ decode cX7_lapseDebts 80 = .ok (.if_icmp .le 31, 3) ∧ decode cX7_lapseDebts 83 = .ok (.aload_n 2, 1) ∧ decode cX7_lapseDebts 84 = .ok (.dup, 1) ∧ decode cX7_lapseDebts 85 = .ok (.getfield 171, 3) ∧ decode cX7_lapseDebts 88 = .ok (.aload_n 0, 1) := by decide +kernel
theorem dX7_lapseDebts_77 : decode cX7_lapseDebts 77 = .ok (.iaload, 1) := zy_b08days_18.1
theorem dX7_lapseDebts_78 : decode cX7_lapseDebts 78 = .ok (.isub, 1) := zy_b08days_18.2.1
theorem dX7_lapseDebts_79 : decode cX7_lapseDebts 79 = .ok (.iload_n 3, 1) := zy_b08days_18.2.2.1
theorem dX7_lapseDebts_80 : decode cX7_lapseDebts 80 = .ok (.if_icmp .le 31, 3) := zy_b08days_18.2.2.2.1
theorem dX7_lapseDebts_83 : decode cX7_lapseDebts 83 = .ok (.aload_n 2, 1) := zy_b08days_18.2.2.2.2.1
theorem dX7_lapseDebts_84 : decode cX7_lapseDebts 84 = .ok (.dup, 1) := zy_b08days_18.2.2.2.2.2.1
theorem dX7_lapseDebts_85 : decode cX7_lapseDebts 85 = .ok (.getfield 171, 3) := zy_b08days_18.2.2.2.2.2.2.1
theorem dX7_lapseDebts_88 : decode cX7_lapseDebts 88 = .ok (.aload_n 0, 1) := zy_b08days_18.2.2.2.2.2.2.2
theorem zy_b08days_19 : decode cX7_lapseDebts 89 = .ok (.getfield 44, 3) ∧ decode cX7_lapseDebts 92 = .ok (.getfield 255, 3) ∧ decode cX7_lapseDebts 95 = .ok (.iload_n 1, 1) ∧ decode cX7_lapseDebts 96 = .ok (.iaload, 1) ∧ decode cX7_lapseDebts 97 = .ok (.iadd, 1) ∧ decode cX7_lapseDebts 98 = .ok (.putfield 171, 3) ∧ decode cX7_lapseDebts 101 = .ok (.aload_n 0, 1) ∧ decode cX7_lapseDebts 102 = .ok (.getfield 44, 3) := by decide +kernel
theorem dX7_lapseDebts_89 : decode cX7_lapseDebts 89 = .ok (.getfield 44, 3) := zy_b08days_19.1
theorem dX7_lapseDebts_92 : decode cX7_lapseDebts 92 = .ok (.getfield 255, 3) := zy_b08days_19.2.1
theorem dX7_lapseDebts_95 : decode cX7_lapseDebts 95 = .ok (.iload_n 1, 1) := zy_b08days_19.2.2.1
theorem dX7_lapseDebts_96 : decode cX7_lapseDebts 96 = .ok (.iaload, 1) := zy_b08days_19.2.2.2.1
theorem dX7_lapseDebts_97 : decode cX7_lapseDebts 97 = .ok (.iadd, 1) := zy_b08days_19.2.2.2.2.1
theorem dX7_lapseDebts_98 : decode cX7_lapseDebts 98 = .ok (.putfield 171, 3) := zy_b08days_19.2.2.2.2.2.1
theorem dX7_lapseDebts_101 : decode cX7_lapseDebts 101 = .ok (.aload_n 0, 1) := zy_b08days_19.2.2.2.2.2.2.1
theorem dX7_lapseDebts_102 : decode cX7_lapseDebts 102 = .ok (.getfield 44, 3) := zy_b08days_19.2.2.2.2.2.2.2
theorem zy_b08days_20 : decode cX7_lapseDebts 105 = .ok (.getfield 255, 3) ∧ decode cX7_lapseDebts 108 = .ok (.iload_n 1, 1) ∧ decode cX7_lapseDebts 109 = .ok (.iconst 0, 1) ∧ decode cX7_lapseDebts 110 = .ok (.iastore, 1) ∧ decode cX7_lapseDebts 111 = .ok (.iinc 1 1, 3) ∧ decode cX7_lapseDebts 114 = .ok (.goto (-112), 3) ∧ decode cX7_lapseDebts 117 = .ok (.aload_n 0, 1) ∧ decode cX7_lapseDebts 118 = .ok (.getfield 44, 3) := by decide +kernel
theorem dX7_lapseDebts_105 : decode cX7_lapseDebts 105 = .ok (.getfield 255, 3) := zy_b08days_20.1
theorem dX7_lapseDebts_108 : decode cX7_lapseDebts 108 = .ok (.iload_n 1, 1) := zy_b08days_20.2.1
theorem dX7_lapseDebts_109 : decode cX7_lapseDebts 109 = .ok (.iconst 0, 1) := zy_b08days_20.2.2.1
theorem dX7_lapseDebts_110 : decode cX7_lapseDebts 110 = .ok (.iastore, 1) := zy_b08days_20.2.2.2.1
theorem dX7_lapseDebts_111 : decode cX7_lapseDebts 111 = .ok (.iinc 1 1, 3) := zy_b08days_20.2.2.2.2.1
theorem dX7_lapseDebts_114 : decode cX7_lapseDebts 114 = .ok (.goto (-112), 3) := zy_b08days_20.2.2.2.2.2.1
theorem dX7_lapseDebts_117 : decode cX7_lapseDebts 117 = .ok (.aload_n 0, 1) := zy_b08days_20.2.2.2.2.2.2.1
theorem dX7_lapseDebts_118 : decode cX7_lapseDebts 118 = .ok (.getfield 44, 3) := zy_b08days_20.2.2.2.2.2.2.2
theorem dX7_lapseDebts_121 : decode cX7_lapseDebts 121 = .ok (.invokevirtual 256, 3) := by decide +kernel
theorem dX7_lapseDebts_124 : decode cX7_lapseDebts 124 = .ok (.return_, 1) := by decide +kernel
theorem zy_b08days_21 : decode cX7_nextDay 0 = .ok (.aload_n 0, 1) ∧ decode cX7_nextDay 1 = .ok (.dup, 1) ∧ decode cX7_nextDay 2 = .ok (.getfield 129, 3) ∧ decode cX7_nextDay 5 = .ok (.iconst 1, 1) ∧ decode cX7_nextDay 6 = .ok (.iadd, 1) ∧ decode cX7_nextDay 7 = .ok (.putfield 129, 3) ∧ decode cX7_nextDay 10 = .ok (.aload_n 0, 1) ∧ decode cX7_nextDay 11 = .ok (.iconst 0, 1) := by decide +kernel
theorem dX7_nextDay_0 : decode cX7_nextDay 0 = .ok (.aload_n 0, 1) := zy_b08days_21.1
theorem dX7_nextDay_1 : decode cX7_nextDay 1 = .ok (.dup, 1) := zy_b08days_21.2.1
theorem dX7_nextDay_2 : decode cX7_nextDay 2 = .ok (.getfield 129, 3) := zy_b08days_21.2.2.1
theorem dX7_nextDay_5 : decode cX7_nextDay 5 = .ok (.iconst 1, 1) := zy_b08days_21.2.2.2.1
theorem dX7_nextDay_6 : decode cX7_nextDay 6 = .ok (.iadd, 1) := zy_b08days_21.2.2.2.2.1
theorem dX7_nextDay_7 : decode cX7_nextDay 7 = .ok (.putfield 129, 3) := zy_b08days_21.2.2.2.2.2.1
theorem dX7_nextDay_10 : decode cX7_nextDay 10 = .ok (.aload_n 0, 1) := zy_b08days_21.2.2.2.2.2.2.1
theorem dX7_nextDay_11 : decode cX7_nextDay 11 = .ok (.iconst 0, 1) := zy_b08days_21.2.2.2.2.2.2.2
theorem zy_b08days_22 : decode cX7_nextDay 12 = .ok (.putfield 151, 3) ∧ decode cX7_nextDay 15 = .ok (.iconst 0, 1) ∧ decode cX7_nextDay 16 = .ok (.istore_n 1, 1) ∧ decode cX7_nextDay 17 = .ok (.iload_n 1, 1) ∧ decode cX7_nextDay 18 = .ok (.aload_n 0, 1) ∧ decode cX7_nextDay 19 = .ok (.getfield 62, 3) ∧ decode cX7_nextDay 22 = .ok (.if_icmp .ge 43, 3) ∧ decode cX7_nextDay 25 = .ok (.aload_n 0, 1) := by decide +kernel
theorem dX7_nextDay_12 : decode cX7_nextDay 12 = .ok (.putfield 151, 3) := zy_b08days_22.1
theorem dX7_nextDay_15 : decode cX7_nextDay 15 = .ok (.iconst 0, 1) := zy_b08days_22.2.1
theorem dX7_nextDay_16 : decode cX7_nextDay 16 = .ok (.istore_n 1, 1) := zy_b08days_22.2.2.1
theorem dX7_nextDay_17 : decode cX7_nextDay 17 = .ok (.iload_n 1, 1) := zy_b08days_22.2.2.2.1
theorem dX7_nextDay_18 : decode cX7_nextDay 18 = .ok (.aload_n 0, 1) := zy_b08days_22.2.2.2.2.1
theorem dX7_nextDay_19 : decode cX7_nextDay 19 = .ok (.getfield 62, 3) := zy_b08days_22.2.2.2.2.2.1
theorem dX7_nextDay_22 : decode cX7_nextDay 22 = .ok (.if_icmp .ge 43, 3) := zy_b08days_22.2.2.2.2.2.2.1
theorem dX7_nextDay_25 : decode cX7_nextDay 25 = .ok (.aload_n 0, 1) := zy_b08days_22.2.2.2.2.2.2.2
theorem zy_b08days_23 : decode cX7_nextDay 26 = .ok (.getfield 11, 3) ∧ decode cX7_nextDay 29 = .ok (.iload_n 1, 1) ∧ decode cX7_nextDay 30 = .ok (.aaload, 1) ∧ decode cX7_nextDay 31 = .ok (.iconst 0, 1) ∧ decode cX7_nextDay 32 = .ok (.putfield 140, 3) ∧ decode cX7_nextDay 35 = .ok (.aload_n 0, 1) ∧ decode cX7_nextDay 36 = .ok (.getfield 11, 3) ∧ decode cX7_nextDay 39 = .ok (.iload_n 1, 1) := by decide +kernel
theorem dX7_nextDay_26 : decode cX7_nextDay 26 = .ok (.getfield 11, 3) := zy_b08days_23.1
theorem dX7_nextDay_29 : decode cX7_nextDay 29 = .ok (.iload_n 1, 1) := zy_b08days_23.2.1
theorem dX7_nextDay_30 : decode cX7_nextDay 30 = .ok (.aaload, 1) := zy_b08days_23.2.2.1
theorem dX7_nextDay_31 : decode cX7_nextDay 31 = .ok (.iconst 0, 1) := zy_b08days_23.2.2.2.1
theorem dX7_nextDay_32 : decode cX7_nextDay 32 = .ok (.putfield 140, 3) := zy_b08days_23.2.2.2.2.1
theorem dX7_nextDay_35 : decode cX7_nextDay 35 = .ok (.aload_n 0, 1) := zy_b08days_23.2.2.2.2.2.1
theorem dX7_nextDay_36 : decode cX7_nextDay 36 = .ok (.getfield 11, 3) := zy_b08days_23.2.2.2.2.2.2.1
theorem dX7_nextDay_39 : decode cX7_nextDay 39 = .ok (.iload_n 1, 1) := zy_b08days_23.2.2.2.2.2.2.2
theorem zy_b08days_24 : decode cX7_nextDay 40 = .ok (.aaload, 1) ∧ decode cX7_nextDay 41 = .ok (.iconst 0, 1) ∧ decode cX7_nextDay 42 = .ok (.aload_n 0, 1) ∧ decode cX7_nextDay 43 = .ok (.getfield 11, 3) ∧ decode cX7_nextDay 46 = .ok (.iload_n 1, 1) ∧ decode cX7_nextDay 47 = .ok (.aaload, 1) ∧ decode cX7_nextDay 48 = .ok (.getfield 119, 3) ∧ decode cX7_nextDay 51 = .ok (.iconst 1, 1) := by decide +kernel
theorem dX7_nextDay_40 : decode cX7_nextDay 40 = .ok (.aaload, 1) := zy_b08days_24.1
theorem dX7_nextDay_41 : decode cX7_nextDay 41 = .ok (.iconst 0, 1) := zy_b08days_24.2.1
theorem dX7_nextDay_42 : decode cX7_nextDay 42 = .ok (.aload_n 0, 1) := zy_b08days_24.2.2.1
theorem dX7_nextDay_43 : decode cX7_nextDay 43 = .ok (.getfield 11, 3) := zy_b08days_24.2.2.2.1
theorem dX7_nextDay_46 : decode cX7_nextDay 46 = .ok (.iload_n 1, 1) := zy_b08days_24.2.2.2.2.1
theorem dX7_nextDay_47 : decode cX7_nextDay 47 = .ok (.aaload, 1) := zy_b08days_24.2.2.2.2.2.1
theorem dX7_nextDay_48 : decode cX7_nextDay 48 = .ok (.getfield 119, 3) := zy_b08days_24.2.2.2.2.2.2.1
theorem dX7_nextDay_51 : decode cX7_nextDay 51 = .ok (.iconst 1, 1) := zy_b08days_24.2.2.2.2.2.2.2
theorem zy_b08days_25 : decode cX7_nextDay 52 = .ok (.isub, 1) ∧ decode cX7_nextDay 53 = .ok (.invokestatic 231, 3) ∧ decode cX7_nextDay 56 = .ok (.putfield 119, 3) ∧ decode cX7_nextDay 59 = .ok (.iinc 1 1, 3) ∧ decode cX7_nextDay 62 = .ok (.goto (-45), 3) ∧ decode cX7_nextDay 65 = .ok (.aload_n 0, 1) ∧ decode cX7_nextDay 66 = .ok (.invokevirtual 246, 3) ∧ decode cX7_nextDay 69 = .ok (.return_, 1) := by decide +kernel
theorem dX7_nextDay_52 : decode cX7_nextDay 52 = .ok (.isub, 1) := zy_b08days_25.1
theorem dX7_nextDay_53 : decode cX7_nextDay 53 = .ok (.invokestatic 231, 3) := zy_b08days_25.2.1
theorem dX7_nextDay_56 : decode cX7_nextDay 56 = .ok (.putfield 119, 3) := zy_b08days_25.2.2.1
theorem dX7_nextDay_59 : decode cX7_nextDay 59 = .ok (.iinc 1 1, 3) := zy_b08days_25.2.2.2.1
theorem dX7_nextDay_62 : decode cX7_nextDay 62 = .ok (.goto (-45), 3) := zy_b08days_25.2.2.2.2.1
theorem dX7_nextDay_65 : decode cX7_nextDay 65 = .ok (.aload_n 0, 1) := zy_b08days_25.2.2.2.2.2.1
theorem dX7_nextDay_66 : decode cX7_nextDay 66 = .ok (.invokevirtual 246, 3) := zy_b08days_25.2.2.2.2.2.2.1
theorem dX7_nextDay_69 : decode cX7_nextDay 69 = .ok (.return_, 1) := zy_b08days_25.2.2.2.2.2.2.2
theorem zy_b08days_26 : decode cX7_days 0 = .ok (.iload_n 1, 1) ∧ decode cX7_days 1 = .ok (.iconst 1, 1) ∧ decode cX7_days 2 = .ok (.bipush 100, 2) ∧ decode cX7_days 4 = .ok (.invokestatic 80, 3) ∧ decode cX7_days 7 = .ok (.ifCond .eq 15, 3) ∧ decode cX7_days 10 = .ok (.iload_n 1, 1) ∧ decode cX7_days 11 = .ok (.sipush 400, 3) ∧ decode cX7_days 14 = .ok (.aload_n 0, 1) := by decide +kernel
theorem dX7_days_0 : decode cX7_days 0 = .ok (.iload_n 1, 1) := zy_b08days_26.1
theorem dX7_days_1 : decode cX7_days 1 = .ok (.iconst 1, 1) := zy_b08days_26.2.1
theorem dX7_days_2 : decode cX7_days 2 = .ok (.bipush 100, 2) := zy_b08days_26.2.2.1
theorem dX7_days_4 : decode cX7_days 4 = .ok (.invokestatic 80, 3) := zy_b08days_26.2.2.2.1
theorem dX7_days_7 : decode cX7_days 7 = .ok (.ifCond .eq 15, 3) := zy_b08days_26.2.2.2.2.1
theorem dX7_days_10 : decode cX7_days 10 = .ok (.iload_n 1, 1) := zy_b08days_26.2.2.2.2.2.1
theorem dX7_days_11 : decode cX7_days 11 = .ok (.sipush 400, 3) := zy_b08days_26.2.2.2.2.2.2.1
theorem dX7_days_14 : decode cX7_days 14 = .ok (.aload_n 0, 1) := zy_b08days_26.2.2.2.2.2.2.2
theorem zy_b08days_27 : decode cX7_days 15 = .ok (.getfield 129, 3) ∧ decode cX7_days 18 = .ok (.isub, 1) ∧ decode cX7_days 19 = .ok (.if_icmp .le 5, 3) ∧ decode cX7_days 22 = .ok (.iconst (-1), 1) ∧ decode cX7_days 23 = .ok (.ireturn, 1) ∧ decode cX7_days 24 = .ok (.iconst 0, 1) ∧ decode cX7_days 25 = .ok (.istore_n 2, 1) ∧ decode cX7_days 26 = .ok (.iload_n 2, 1) := by decide +kernel
theorem dX7_days_15 : decode cX7_days 15 = .ok (.getfield 129, 3) := zy_b08days_27.1
theorem dX7_days_18 : decode cX7_days 18 = .ok (.isub, 1) := zy_b08days_27.2.1
theorem dX7_days_19 : decode cX7_days 19 = .ok (.if_icmp .le 5, 3) := zy_b08days_27.2.2.1
theorem dX7_days_22 : decode cX7_days 22 = .ok (.iconst (-1), 1) := zy_b08days_27.2.2.2.1
theorem dX7_days_23 : decode cX7_days 23 = .ok (.ireturn, 1) := zy_b08days_27.2.2.2.2.1
theorem dX7_days_24 : decode cX7_days 24 = .ok (.iconst 0, 1) := zy_b08days_27.2.2.2.2.2.1
theorem dX7_days_25 : decode cX7_days 25 = .ok (.istore_n 2, 1) := zy_b08days_27.2.2.2.2.2.2.1
theorem dX7_days_26 : decode cX7_days 26 = .ok (.iload_n 2, 1) := zy_b08days_27.2.2.2.2.2.2.2
theorem zy_b08days_28 : decode cX7_days 27 = .ok (.iload_n 1, 1) ∧ decode cX7_days 28 = .ok (.if_icmp .ge 13, 3) ∧ decode cX7_days 31 = .ok (.aload_n 0, 1) ∧ decode cX7_days 32 = .ok (.invokevirtual 157, 3) ∧ decode cX7_days 35 = .ok (.iinc 2 1, 3) ∧ decode cX7_days 38 = .ok (.goto (-12), 3) ∧ decode cX7_days 41 = .ok (.aload_n 0, 1) ∧ decode cX7_days 42 = .ok (.getfield 129, 3) := by decide +kernel
theorem dX7_days_27 : decode cX7_days 27 = .ok (.iload_n 1, 1) := zy_b08days_28.1
theorem dX7_days_28 : decode cX7_days 28 = .ok (.if_icmp .ge 13, 3) := zy_b08days_28.2.1
theorem dX7_days_31 : decode cX7_days 31 = .ok (.aload_n 0, 1) := zy_b08days_28.2.2.1
theorem dX7_days_32 : decode cX7_days 32 = .ok (.invokevirtual 157, 3) := zy_b08days_28.2.2.2.1
theorem dX7_days_35 : decode cX7_days 35 = .ok (.iinc 2 1, 3) := zy_b08days_28.2.2.2.2.1
theorem dX7_days_38 : decode cX7_days 38 = .ok (.goto (-12), 3) := zy_b08days_28.2.2.2.2.2.1
theorem dX7_days_41 : decode cX7_days 41 = .ok (.aload_n 0, 1) := zy_b08days_28.2.2.2.2.2.2.1
theorem dX7_days_42 : decode cX7_days 42 = .ok (.getfield 129, 3) := zy_b08days_28.2.2.2.2.2.2.2
theorem dX7_days_45 : decode cX7_days 45 = .ok (.ireturn, 1) := by decide +kernel
