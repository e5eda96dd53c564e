theorem tw_30 : Cond.fieldLink RX3 18 "HandsReturned$Field" "ready" "I" ∈ zz_all := zz_m1 74 rfl rfl
theorem tw_31 : Cond.fieldLink RX3 21 "HandsReturned$Field" "lacks" "I" ∈ zz_all := zz_m1 71 rfl rfl
theorem tw_32 : Cond.fieldLink RX4 7 "HandsReturned$House" "daysIll" "I" ∈ zz_all := zz_m1 34 rfl rfl
theorem tw_33 : Cond.fieldLink RX4 13 "HandsReturned$House" "hands" "I" ∈ zz_all := zz_m1 31 rfl rfl
theorem tw_34 : Cond.fieldLink RX4 16 "HandsReturned$House" "busy" "I" ∈ zz_all := zz_m1 36 rfl rfl
theorem tw_35 : Cond.methodLink RX7 226 Lib.Math.min.name ∈ zz_all := zz_m3 20 rfl rfl
theorem tw_36 : Cond.methodLink RX7 231 Lib.Math.max.name ∈ zz_all := zz_m3 21 rfl rfl
theorem tw_37 : Cond.static Lib.Math.max.name ∈ zz_all := zz_m3 22 rfl rfl
theorem tw_38 : Cond.code Lib.Math.max.name Lib.Math.max.code 2 (some .int) ∈ zz_all := zz_m3 23 rfl rfl
theorem tw_39 : Cond.fieldLink RX7 129 "HandsReturned" "clock" "I" ∈ zz_all := zz_m2 36 rfl rfl
theorem tw_40 : Cond.fieldLink RX7 23 "HandsReturned" "losses" "[I" ∈ zz_all := zz_m2 28 rfl rfl
theorem tw_41 : Cond.code yX7_proceedsOf cX7_proceedsOf 5 (some .int) ∈ zz_all := zz_m3 19 rfl rfl
theorem tw_42 : Cond.methodLink RX7 242 yX7_proceedsOf ∈ zz_all := zz_m3 17 rfl rfl
theorem tw_43 : Cond.static yX7_proceedsOf ∈ zz_all := zz_m3 18 rfl rfl
theorem tw_44 : Cond.fieldLink RX7 44 "HandsReturned" "debts" "LHandsReturned$Debts;" ∈ zz_all := zz_m2 31 rfl rfl
theorem tw_45 : Cond.fieldLink RX7 37 "HandsReturned" "customs" "LHandsReturned$Custom;" ∈ zz_all := zz_m2 30 rfl rfl
theorem tw_46 : Cond.code yX1_lessen cX1_lessen 7 (some .int) ∈ zz_all := zz_m2 239 rfl rfl
theorem tw_47 : Cond.instanceMethod yX1_lessen ∈ zz_all := zz_m2 238 rfl rfl
theorem tw_48 : Cond.selects RX1 yX1_lessen yX1_lessen ∈ zz_all := zz_ms 12 rfl rfl
theorem tw_49 : Cond.code yX1_put cX1_put 6 none ∈ zz_all := zz_m3 12 rfl rfl
theorem tw_50 : Cond.instanceMethod yX1_put ∈ zz_all := zz_m3 11 rfl rfl
theorem tw_51 : Cond.selects RX1 yX1_put yX1_put ∈ zz_all := zz_ms 15 rfl rfl
theorem dX3_takes_0 : decode cX3_takes 0 = .ok (.iload_n 2, 1) := by decide +kernel
theorem dX3_takes_1 : decode cX3_takes 1 = .ok (.aload_n 0, 1) := by decide +kernel
theorem dX3_takes_2 : decode cX3_takes 2 = .ok (.getfield 18, 3) := by decide +kernel
theorem dX3_takes_5 : decode cX3_takes 5 = .ok (.if_icmp .lt 20, 3) := by decide +kernel
theorem dX3_takes_8 : decode cX3_takes 8 = .ok (.iload_n 1, 1) := by decide +kernel
theorem dX3_takes_9 : decode cX3_takes 9 = .ok (.iconst 1, 1) := by decide +kernel
theorem dX3_takes_10 : decode cX3_takes 10 = .ok (.if_icmp .lt 15, 3) := by decide +kernel
theorem dX3_takes_13 : decode cX3_takes 13 = .ok (.iload_n 1, 1) := by decide +kernel
theorem dX3_takes_14 : decode cX3_takes 14 = .ok (.aload_n 0, 1) := by decide +kernel
theorem dX3_takes_15 : decode cX3_takes 15 = .ok (.getfield 21, 3) := by decide +kernel
theorem dX3_takes_18 : decode cX3_takes 18 = .ok (.if_icmp .gt 7, 3) := by decide +kernel
theorem dX3_takes_21 : decode cX3_takes 21 = .ok (.iconst 1, 1) := by decide +kernel
theorem dX3_takes_22 : decode cX3_takes 22 = .ok (.goto 4, 3) := by decide +kernel
theorem dX3_takes_25 : decode cX3_takes 25 = .ok (.iconst 0, 1) := by decide +kernel
theorem dX3_takes_26 : decode cX3_takes 26 = .ok (.ireturn, 1) := by decide +kernel
theorem dX4_freeHands_0 : decode cX4_freeHands 0 = .ok (.aload_n 0, 1) := by decide +kernel
theorem dX4_freeHands_1 : decode cX4_freeHands 1 = .ok (.getfield 7, 3) := by decide +kernel
theorem dX4_freeHands_4 : decode cX4_freeHands 4 = .ok (.ifCond .le 7, 3) := by decide +kernel
theorem dX4_freeHands_7 : decode cX4_freeHands 7 = .ok (.iconst 0, 1) := by decide +kernel
theorem dX4_freeHands_8 : decode cX4_freeHands 8 = .ok (.goto 12, 3) := by decide +kernel
theorem dX4_freeHands_11 : decode cX4_freeHands 11 = .ok (.aload_n 0, 1) := by decide +kernel
theorem dX4_freeHands_12 : decode cX4_freeHands 12 = .ok (.getfield 13, 3) := by decide +kernel
theorem dX4_freeHands_15 : decode cX4_freeHands 15 = .ok (.aload_n 0, 1) := by decide +kernel
theorem dX4_freeHands_16 : decode cX4_freeHands 16 = .ok (.getfield 16, 3) := by decide +kernel
theorem dX4_freeHands_19 : decode cX4_freeHands 19 = .ok (.isub, 1) := by decide +kernel
theorem dX4_freeHands_20 : decode cX4_freeHands 20 = .ok (.ireturn, 1) := by decide +kernel
theorem dX7_proceedsOf_0 : decode cX7_proceedsOf 0 = .ok (.iconst 0, 1) := by decide +kernel
theorem dX7_proceedsOf_1 : decode cX7_proceedsOf 1 = .ok (.iload_n 1, 1) := by decide +kernel
theorem dX7_proceedsOf_2 : decode cX7_proceedsOf 2 = .ok (.bipush 9, 2) := by decide +kernel
theorem dX7_proceedsOf_4 : decode cX7_proceedsOf 4 = .ok (.invokestatic 226, 3) := by decide +kernel
theorem dX7_proceedsOf_7 : decode cX7_proceedsOf 7 = .ok (.invokestatic 231, 3) := by decide +kernel
theorem dX7_proceedsOf_10 : decode cX7_proceedsOf 10 = .ok (.istore_n 3, 1) := by decide +kernel
theorem dX7_proceedsOf_11 : decode cX7_proceedsOf 11 = .ok (.iload_n 3, 1) := by decide +kernel
theorem dX7_proceedsOf_12 : decode cX7_proceedsOf 12 = .ok (.aload_n 2, 1) := by decide +kernel
theorem dX7_proceedsOf_13 : decode cX7_proceedsOf 13 = .ok (.arraylength, 1) := by decide +kernel
theorem dX7_proceedsOf_14 : decode cX7_proceedsOf 14 = .ok (.if_icmp .ge 9, 3) := by decide +kernel
theorem dX7_proceedsOf_17 : decode cX7_proceedsOf 17 = .ok (.aload_n 2, 1) := by decide +kernel
theorem dX7_proceedsOf_18 : decode cX7_proceedsOf 18 = .ok (.iload_n 3, 1) := by decide +kernel
theorem dX7_proceedsOf_19 : decode cX7_proceedsOf 19 = .ok (.iaload, 1) := by decide +kernel
theorem dX7_proceedsOf_20 : decode cX7_proceedsOf 20 = .ok (.goto 4, 3) := by decide +kernel
theorem dX7_proceedsOf_23 : decode cX7_proceedsOf 23 = .ok (.iconst 0, 1) := by decide +kernel
theorem dX7_proceedsOf_24 : decode cX7_proceedsOf 24 = .ok (.istore 4, 2) := by decide +kernel
theorem dX7_proceedsOf_26 : decode cX7_proceedsOf 26 = .ok (.iload_n 0, 1) := by decide +kernel
theorem dX7_proceedsOf_27 : decode cX7_proceedsOf 27 = .ok (.bipush 100, 2) := by decide +kernel
theorem dX7_proceedsOf_29 : decode cX7_proceedsOf 29 = .ok (.iload 4, 2) := by decide +kernel
theorem dX7_proceedsOf_31 : decode cX7_proceedsOf 31 = .ok (.isub, 1) := by decide +kernel
theorem dX7_proceedsOf_32 : decode cX7_proceedsOf 32 = .ok (.imul, 1) := by decide +kernel
theorem dX7_proceedsOf_33 : decode cX7_proceedsOf 33 = .ok (.bipush 100, 2) := by decide +kernel
theorem dX7_proceedsOf_35 : decode cX7_proceedsOf 35 = .ok (.idiv, 1) := by decide +kernel
theorem dX7_proceedsOf_36 : decode cX7_proceedsOf 36 = .ok (.ireturn, 1) := by decide +kernel
theorem dX7_field_0 : decode cX7_field 0 = .ok (.aload_n 0, 1) := by decide +kernel
theorem dX7_field_1 : decode cX7_field 1 = .ok (.iload_n 1, 1) := by decide +kernel
theorem dX7_field_2 : decode cX7_field 2 = .ok (.invokevirtual 73, 3) := by decide +kernel
theorem dX7_field_5 : decode cX7_field 5 = .ok (.ifnull 12, 3) := by decide +kernel
theorem dX7_field_8 : decode cX7_field 8 = .ok (.aload_n 0, 1) := by decide +kernel
theorem dX7_field_9 : decode cX7_field 9 = .ok (.getfield 77, 3) := by decide +kernel
theorem dX7_field_12 : decode cX7_field 12 = .ok (.bipush 12, 2) := by decide +kernel
theorem dX7_field_14 : decode cX7_field 14 = .ok (.if_icmp .lt 5, 3) := by decide +kernel
theorem dX7_field_17 : decode cX7_field 17 = .ok (.iconst (-1), 1) := by decide +kernel
theorem dX7_field_18 : decode cX7_field 18 = .ok (.ireturn, 1) := by decide +kernel
theorem dX7_field_19 : decode cX7_field 19 = .ok (.iload_n 2, 1) := by decide +kernel
theorem dX7_field_20 : decode cX7_field 20 = .ok (.iconst 0, 1) := by decide +kernel
theorem dX7_field_21 : decode cX7_field 21 = .ok (.iconst 2, 1) := by decide +kernel
theorem dX7_field_22 : decode cX7_field 22 = .ok (.invokestatic 80, 3) := by decide +kernel
theorem dX7_field_25 : decode cX7_field 25 = .ok (.ifCond .eq 37, 3) := by decide +kernel
theorem dX7_field_28 : decode cX7_field 28 = .ok (.iload_n 3, 1) := by decide +kernel
theorem dX7_field_29 : decode cX7_field 29 = .ok (.iconst 1, 1) := by decide +kernel
theorem dX7_field_30 : decode cX7_field 30 = .ok (.bipush 60, 2) := by decide +kernel
theorem dX7_field_32 : decode cX7_field 32 = .ok (.invokestatic 80, 3) := by decide +kernel
theorem dX7_field_35 : decode cX7_field 35 = .ok (.ifCond .eq 27, 3) := by decide +kernel
theorem dX7_field_38 : decode cX7_field 38 = .ok (.iload 4, 2) := by decide +kernel
theorem dX7_field_40 : decode cX7_field 40 = .ok (.iconst 0, 1) := by decide +kernel
theorem dX7_field_41 : decode cX7_field 41 = .ok (.sipush 400, 3) := by decide +kernel
theorem dX7_field_44 : decode cX7_field 44 = .ok (.invokestatic 80, 3) := by decide +kernel
theorem dX7_field_47 : decode cX7_field 47 = .ok (.ifCond .eq 15, 3) := by decide +kernel
theorem dX7_field_50 : decode cX7_field 50 = .ok (.iload 5, 2) := by decide +kernel
theorem dX7_field_52 : decode cX7_field 52 = .ok (.iconst 0, 1) := by decide +kernel
theorem dX7_field_53 : decode cX7_field 53 = .ok (.sipush 10000, 3) := by decide +kernel
theorem dX7_field_56 : decode cX7_field 56 = .ok (.invokestatic 80, 3) := by decide +kernel
theorem dX7_field_59 : decode cX7_field 59 = .ok (.ifCond .ne 5, 3) := by decide +kernel
theorem dX7_field_62 : decode cX7_field 62 = .ok (.iconst (-1), 1) := by decide +kernel
theorem dX7_field_63 : decode cX7_field 63 = .ok (.ireturn, 1) := by decide +kernel
theorem dX7_field_64 : decode cX7_field 64 = .ok (.aload_n 0, 1) := by decide +kernel
theorem dX7_field_65 : decode cX7_field 65 = .ok (.getfield 18, 3) := by decide +kernel
theorem dX7_field_68 : decode cX7_field 68 = .ok (.aload_n 0, 1) := by decide +kernel
theorem dX7_field_69 : decode cX7_field 69 = .ok (.getfield 77, 3) := by decide +kernel
theorem dX7_field_72 : decode cX7_field 72 = .ok (.aaload, 1) := by decide +kernel
theorem dX7_field_73 : decode cX7_field 73 = .ok (.astore 6, 2) := by decide +kernel
theorem dX7_field_75 : decode cX7_field 75 = .ok (.aload 6, 2) := by decide +kernel
theorem dX7_field_77 : decode cX7_field 77 = .ok (.iload_n 1, 1) := by decide +kernel
theorem dX7_field_78 : decode cX7_field 78 = .ok (.putfield 84, 3) := by decide +kernel
theorem dX7_field_81 : decode cX7_field 81 = .ok (.aload 6, 2) := by decide +kernel
theorem dX7_field_83 : decode cX7_field 83 = .ok (.iload_n 2, 1) := by decide +kernel
theorem dX7_field_84 : decode cX7_field 84 = .ok (.putfield 87, 3) := by decide +kernel
theorem dX7_field_87 : decode cX7_field 87 = .ok (.aload 6, 2) := by decide +kernel
theorem dX7_field_89 : decode cX7_field 89 = .ok (.iload_n 3, 1) := by decide +kernel
theorem dX7_field_90 : decode cX7_field 90 = .ok (.putfield 90, 3) := by decide +kernel
theorem dX7_field_93 : decode cX7_field 93 = .ok (.aload 6, 2) := by decide +kernel
theorem dX7_field_95 : decode cX7_field 95 = .ok (.iload 4, 2) := by decide +kernel
theorem dX7_field_97 : decode cX7_field 97 = .ok (.putfield 93, 3) := by decide +kernel
theorem dX7_field_100 : decode cX7_field 100 = .ok (.aload 6, 2) := by decide +kernel
theorem dX7_field_102 : decode cX7_field 102 = .ok (.iload 5, 2) := by decide +kernel
theorem dX7_field_104 : decode cX7_field 104 = .ok (.putfield 96, 3) := by decide +kernel
theorem dX7_field_107 : decode cX7_field 107 = .ok (.aload_n 0, 1) := by decide +kernel
theorem dX7_field_108 : decode cX7_field 108 = .ok (.dup, 1) := by decide +kernel
theorem dX7_field_109 : decode cX7_field 109 = .ok (.getfield 77, 3) := by decide +kernel
theorem dX7_field_112 : decode cX7_field 112 = .ok (.iconst 1, 1) := by decide +kernel
theorem dX7_field_113 : decode cX7_field 113 = .ok (.iadd, 1) := by decide +kernel
theorem dX7_field_114 : decode cX7_field 114 = .ok (.putfield 77, 3) := by decide +kernel
theorem dX7_field_117 : decode cX7_field 117 = .ok (.aload_n 0, 1) := by decide +kernel
theorem dX7_field_118 : decode cX7_field 118 = .ok (.getfield 77, 3) := by decide +kernel
theorem dX7_field_121 : decode cX7_field 121 = .ok (.iconst 1, 1) := by decide +kernel
theorem dX7_field_122 : decode cX7_field 122 = .ok (.isub, 1) := by decide +kernel
theorem dX7_field_123 : decode cX7_field 123 = .ok (.ireturn, 1) := by decide +kernel
theorem dX7_workDone_0 : decode cX7_workDone 0 = .ok (.aload_n 1, 1) := by decide +kernel
theorem dX7_workDone_1 : decode cX7_workDone 1 = .ok (.dup, 1) := by decide +kernel
theorem dX7_workDone_2 : decode cX7_workDone 2 = .ok (.getfield 90, 3) := by decide +kernel
theorem dX7_workDone_5 : decode cX7_workDone 5 = .ok (.iload_n 2, 1) := by decide +kernel
theorem dX7_workDone_6 : decode cX7_workDone 6 = .ok (.isub, 1) := by decide +kernel
theorem dX7_workDone_7 : decode cX7_workDone 7 = .ok (.putfield 90, 3) := by decide +kernel
theorem dX7_workDone_10 : decode cX7_workDone 10 = .ok (.aload_n 1, 1) := by decide +kernel
theorem dX7_workDone_11 : decode cX7_workDone 11 = .ok (.getfield 90, 3) := by decide +kernel
theorem dX7_workDone_14 : decode cX7_workDone 14 = .ok (.ifCond .ne 61, 3) := by decide +kernel
theorem dX7_workDone_17 : decode cX7_workDone 17 = .ok (.aload_n 1, 1) := by decide +kernel
theorem dX7_workDone_18 : decode cX7_workDone 18 = .ok (.aload_n 0, 1) := by decide +kernel
theorem dX7_workDone_19 : decode cX7_workDone 19 = .ok (.getfield 129, 3) := by decide +kernel
theorem dX7_workDone_22 : decode cX7_workDone 22 = .ok (.putfield 177, 3) := by decide +kernel
theorem dX7_workDone_25 : decode cX7_workDone 25 = .ok (.aload_n 1, 1) := by decide +kernel
theorem dX7_workDone_26 : decode cX7_workDone 26 = .ok (.aload_n 1, 1) := by decide +kernel
theorem dX7_workDone_27 : decode cX7_workDone 27 = .ok (.getfield 96, 3) := by decide +kernel
theorem dX7_workDone_30 : decode cX7_workDone 30 = .ok (.aload_n 0, 1) := by decide +kernel
theorem dX7_workDone_31 : decode cX7_workDone 31 = .ok (.getfield 129, 3) := by decide +kernel
theorem dX7_workDone_34 : decode cX7_workDone 34 = .ok (.aload_n 1, 1) := by decide +kernel
theorem dX7_workDone_35 : decode cX7_workDone 35 = .ok (.getfield 93, 3) := by decide +kernel
theorem dX7_workDone_38 : decode cX7_workDone 38 = .ok (.isub, 1) := by decide +kernel
theorem dX7_workDone_39 : decode cX7_workDone 39 = .ok (.aload_n 0, 1) := by decide +kernel
theorem dX7_workDone_40 : decode cX7_workDone 40 = .ok (.getfield 23, 3) := by decide +kernel
theorem dX7_workDone_43 : decode cX7_workDone 43 = .ok (.invokestatic 242, 3) := by decide +kernel
theorem dX7_workDone_46 : decode cX7_workDone 46 = .ok (.putfield 180, 3) := by decide +kernel
theorem dX7_workDone_49 : decode cX7_workDone 49 = .ok (.aload_n 0, 1) := by decide +kernel
theorem dX7_workDone_50 : decode cX7_workDone 50 = .ok (.aload_n 1, 1) := by decide +kernel
theorem dX7_workDone_51 : decode cX7_workDone 51 = .ok (.getfield 84, 3) := by decide +kernel
theorem dX7_workDone_54 : decode cX7_workDone 54 = .ok (.invokevirtual 73, 3) := by decide +kernel
theorem dX7_workDone_57 : decode cX7_workDone 57 = .ok (.astore_n 3, 1) := by decide +kernel
theorem dX7_workDone_58 : decode cX7_workDone 58 = .ok (.aload_n 3, 1) := by decide +kernel
theorem dX7_workDone_59 : decode cX7_workDone 59 = .ok (.ifnull 16, 3) := by decide +kernel
theorem dX7_workDone_62 : decode cX7_workDone 62 = .ok (.aload_n 3, 1) := by decide +kernel
theorem dX7_workDone_63 : decode cX7_workDone 63 = .ok (.dup, 1) := by decide +kernel
theorem dX7_workDone_64 : decode cX7_workDone 64 = .ok (.getfield 174, 3) := by decide +kernel
theorem dX7_workDone_67 : decode cX7_workDone 67 = .ok (.aload_n 1, 1) := by decide +kernel
theorem dX7_workDone_68 : decode cX7_workDone 68 = .ok (.getfield 180, 3) := by decide +kernel
theorem dX7_workDone_71 : decode cX7_workDone 71 = .ok (.iadd, 1) := by decide +kernel
theorem dX7_workDone_72 : decode cX7_workDone 72 = .ok (.putfield 174, 3) := by decide +kernel
theorem dX7_workDone_75 : decode cX7_workDone 75 = .ok (.aload_n 1, 1) := by decide +kernel
theorem dX7_workDone_76 : decode cX7_workDone 76 = .ok (.getfield 90, 3) := by decide +kernel
theorem dX7_workDone_79 : decode cX7_workDone 79 = .ok (.ireturn, 1) := by decide +kernel
theorem dX7_oweForWork_0 : decode cX7_oweForWork 0 = .ok (.aload_n 0, 1) := by decide +kernel
theorem dX7_oweForWork_1 : decode cX7_oweForWork 1 = .ok (.iload_n 1, 1) := by decide +kernel
theorem dX7_oweForWork_2 : decode cX7_oweForWork 2 = .ok (.invokevirtual 73, 3) := by decide +kernel
theorem dX7_oweForWork_5 : decode cX7_oweForWork 5 = .ok (.astore 4, 2) := by decide +kernel
theorem dX7_oweForWork_7 : decode cX7_oweForWork 7 = .ok (.aload_n 0, 1) := by decide +kernel
theorem dX7_oweForWork_8 : decode cX7_oweForWork 8 = .ok (.aload_n 2, 1) := by decide +kernel
theorem dX7_oweForWork_9 : decode cX7_oweForWork 9 = .ok (.getfield 84, 3) := by decide +kernel
theorem dX7_oweForWork_12 : decode cX7_oweForWork 12 = .ok (.invokevirtual 73, 3) := by decide +kernel
theorem dX7_oweForWork_15 : decode cX7_oweForWork 15 = .ok (.astore 5, 2) := by decide +kernel
theorem dX7_oweForWork_17 : decode cX7_oweForWork 17 = .ok (.aload 4, 2) := by decide +kernel
theorem dX7_oweForWork_19 : decode cX7_oweForWork 19 = .ok (.ifnull 20, 3) := by decide +kernel
theorem dX7_oweForWork_22 : decode cX7_oweForWork 22 = .ok (.aload 5, 2) := by decide +kernel
theorem dX7_oweForWork_24 : decode cX7_oweForWork 24 = .ok (.ifnull 15, 3) := by decide +kernel
theorem dX7_oweForWork_27 : decode cX7_oweForWork 27 = .ok (.aload_n 2, 1) := by decide +kernel
theorem dX7_oweForWork_28 : decode cX7_oweForWork 28 = .ok (.getfield 87, 3) := by decide +kernel
theorem dX7_oweForWork_31 : decode cX7_oweForWork 31 = .ok (.iconst 0, 1) := by decide +kernel
theorem dX7_oweForWork_32 : decode cX7_oweForWork 32 = .ok (.iconst 2, 1) := by decide +kernel
theorem dX7_oweForWork_33 : decode cX7_oweForWork 33 = .ok (.invokestatic 80, 3) := by decide +kernel
theorem dX7_oweForWork_36 : decode cX7_oweForWork 36 = .ok (.ifCond .ne 4, 3) := by decide +kernel
theorem dX7_oweForWork_39 : decode cX7_oweForWork 39 = .ok (.return_, 1) := by decide +kernel
theorem dX7_oweForWork_40 : decode cX7_oweForWork 40 = .ok (.aload_n 0, 1) := by decide +kernel
theorem dX7_oweForWork_41 : decode cX7_oweForWork 41 = .ok (.getfield 44, 3) := by decide +kernel
theorem dX7_oweForWork_44 : decode cX7_oweForWork 44 = .ok (.iload_n 1, 1) := by decide +kernel
theorem dX7_oweForWork_45 : decode cX7_oweForWork 45 = .ok (.aload_n 2, 1) := by decide +kernel
theorem dX7_oweForWork_46 : decode cX7_oweForWork 46 = .ok (.getfield 84, 3) := by decide +kernel
theorem dX7_oweForWork_49 : decode cX7_oweForWork 49 = .ok (.iload_n 3, 1) := by decide +kernel
theorem dX7_oweForWork_50 : decode cX7_oweForWork 50 = .ok (.aload_n 0, 1) := by decide +kernel
theorem dX7_oweForWork_51 : decode cX7_oweForWork 51 = .ok (.getfield 37, 3) := by decide +kernel
theorem dX7_oweForWork_54 : decode cX7_oweForWork 54 = .ok (.getfield 116, 3) := by decide +kernel
theorem dX7_oweForWork_57 : decode cX7_oweForWork 57 = .ok (.aload_n 2, 1) := by decide +kernel
theorem dX7_oweForWork_58 : decode cX7_oweForWork 58 = .ok (.getfield 87, 3) := by decide +kernel
theorem dX7_oweForWork_61 : decode cX7_oweForWork 61 = .ok (.iaload, 1) := by decide +kernel
theorem dX7_oweForWork_62 : decode cX7_oweForWork 62 = .ok (.imul, 1) := by decide +kernel
theorem dX7_oweForWork_63 : decode cX7_oweForWork 63 = .ok (.invokevirtual 234, 3) := by decide +kernel
theorem dX7_oweForWork_66 : decode cX7_oweForWork 66 = .ok (.istore 6, 2) := by decide +kernel
theorem dX7_oweForWork_68 : decode cX7_oweForWork 68 = .ok (.aload_n 0, 1) := by decide +kernel
theorem dX7_oweForWork_69 : decode cX7_oweForWork 69 = .ok (.getfield 44, 3) := by decide +kernel
theorem dX7_oweForWork_72 : decode cX7_oweForWork 72 = .ok (.aload_n 2, 1) := by decide +kernel
theorem dX7_oweForWork_73 : decode cX7_oweForWork 73 = .ok (.getfield 84, 3) := by decide +kernel
theorem dX7_oweForWork_76 : decode cX7_oweForWork 76 = .ok (.iload_n 1, 1) := by decide +kernel
theorem dX7_oweForWork_77 : decode cX7_oweForWork 77 = .ok (.aload_n 0, 1) := by decide +kernel
theorem dX7_oweForWork_78 : decode cX7_oweForWork 78 = .ok (.getfield 129, 3) := by decide +kernel
theorem dX7_oweForWork_81 : decode cX7_oweForWork 81 = .ok (.iload 6, 2) := by decide +kernel
theorem dX7_oweForWork_83 : decode cX7_oweForWork 83 = .ok (.invokevirtual 238, 3) := by decide +kernel
theorem dX7_oweForWork_86 : decode cX7_oweForWork 86 = .ok (.iload_n 3, 1) := by decide +kernel
theorem dX7_oweForWork_87 : decode cX7_oweForWork 87 = .ok (.aload_n 0, 1) := by decide +kernel
theorem dX7_oweForWork_88 : decode cX7_oweForWork 88 = .ok (.getfield 37, 3) := by decide +kernel
theorem dX7_oweForWork_91 : decode cX7_oweForWork 91 = .ok (.getfield 116, 3) := by decide +kernel
theorem dX7_oweForWork_94 : decode cX7_oweForWork 94 = .ok (.iconst 5, 1) := by decide +kernel
theorem dX7_oweForWork_95 : decode cX7_oweForWork 95 = .ok (.iaload, 1) := by decide +kernel
theorem dX7_oweForWork_96 : decode cX7_oweForWork 96 = .ok (.imul, 1) := by decide +kernel
theorem dX7_oweForWork_97 : decode cX7_oweForWork 97 = .ok (.istore 7, 2) := by decide +kernel
theorem dX7_oweForWork_99 : decode cX7_oweForWork 99 = .ok (.aload 4, 2) := by decide +kernel
theorem dX7_oweForWork_101 : decode cX7_oweForWork 101 = .ok (.dup, 1) := by decide +kernel
theorem dX7_oweForWork_102 : decode cX7_oweForWork 102 = .ok (.getfield 165, 3) := by decide +kernel
theorem dX7_oweForWork_105 : decode cX7_oweForWork 105 = .ok (.iload 7, 2) := by decide +kernel
theorem dX7_oweForWork_107 : decode cX7_oweForWork 107 = .ok (.iadd, 1) := by decide +kernel
theorem dX7_oweForWork_108 : decode cX7_oweForWork 108 = .ok (.putfield 165, 3) := by decide +kernel
theorem dX7_oweForWork_111 : decode cX7_oweForWork 111 = .ok (.aload 5, 2) := by decide +kernel
theorem dX7_oweForWork_113 : decode cX7_oweForWork 113 = .ok (.dup, 1) := by decide +kernel
theorem dX7_oweForWork_114 : decode cX7_oweForWork 114 = .ok (.getfield 168, 3) := by decide +kernel
theorem dX7_oweForWork_117 : decode cX7_oweForWork 117 = .ok (.iload 7, 2) := by decide +kernel
theorem dX7_oweForWork_119 : decode cX7_oweForWork 119 = .ok (.iadd, 1) := by decide +kernel
theorem dX7_oweForWork_120 : decode cX7_oweForWork 120 = .ok (.putfield 168, 3) := by decide +kernel
theorem dX7_oweForWork_123 : decode cX7_oweForWork 123 = .ok (.return_, 1) := by decide +kernel
set_option maxHeartbeats 4000000 in
set_option maxRecDepth 100000 in
theorem k_takes (l : Launch) (dC : Nat → ClassId) (dI : Nat → Nat → Nat) (ad : Nat) (V : Nat → Nat → Int32) (p0 : Int32) (p1 : Int32) (L : List Nat) (K : Nat → Nat) (sz : Nat) (hm : ad ∈ L) (hk : K ad = 3) : Met l yX3_takes (zz_w yX3_takes cX3_takes 3 (some .boolean)) ({ frames := 0, cells := 0, slots := 0, locals := 0 }) (va_Pc [.ref ad, .int p0, .int p1] (zz_B (dC, dI) sz ([] ++ va_pl L (zz_F K V)) [])) (va_Qi (fun (r : Int32) (_ : Unit) => r = 0 ∨ r = 1) (fun _ _ => True) (va_A [] sz)) 0 0 (va_A [] sz) := by
  refine Met.ofW (cc := cX3_takes) (maxL := 3) (ret := (some .boolean)) (by decide) rfl ?_
  intro p e s m args below meth c s₁ B hml hv
  obtain ⟨rfl, hsz, hP, hK, hD0, hN⟩ := hv
  have hx := B.exec
  have hb := B.bytes
  have hr := B.returns
  have hts := atoms_spec (ws := zz_w yX3_takes cX3_takes 3 (some .boolean)) B.pre
  have hw : ∀ w ∈ zz_all, w.before _ s = true := fun w h => hts w (List.mem_cons_of_mem _ h)
  have hown : s.vm.findClass RX3 = some m.cls := findClass_of_methodNamed B.named
  have hlocks := B.notSynchronized
  subst hsz
  have hD := hD0
  generalize hAe : va_A [] s.heap.size = A
  have hA : ∀ q : Nat, s.heap.size ≤ q → A q := fun q h => by rw [← hAe]; exact Or.inr h
  have hS : va_S A s.heap s.heap [] := va_S.rf
  have hP : va_P (dC, dI) vwCl ([] ++ va_pl L (zz_F K V)) s.heap := hP
  have hl := lv_entry ([.ref ad, .int p0, .int p1]) (n := 3) (Nat.le_of_ble_eq_true rfl)
  rw [lg_entry_eq]
  generalize (lg_sl ([.ref ad, .int p0, .int p1]) ++ List.replicate (3 - (lg_sl ([.ref ad, .int p0, .int p1])).length) Slot.unset).toArray = ls at hl ⊢
  have hl : lv_has ls 3 [(0, .ref ad), (1, .int p0), (2, .int p1)] := hl
  refine lv_iload_n hx hb dX3_takes_0 rfl (lv_at hl 2 rfl) ?_
  refine lv_aload_n hx hb dX3_takes_1 rfl (lv_at hl 0 rfl) ?_
  obtain ⟨kq_1, hq_1⟩ := zz_pg3 (X := []) (V := V) hm hk
  have hDo := hD
  refine va_get (D := (dC, dI)) (ci := 3) (v := .int (V ad 3)) (C := RX3) (T := TX3) (N := 7) hx hb hw zz_inX3 hown hK hP kq_1 hq_1 rfl 3 (by decide) (hw _ tw_30) (fun _ h9 => h9) rfl dX3_takes_2 ?_
  refine lv_icmp_lt (tgt := 25) hx hb dX3_takes_5 (by decide) (fun c_2 => ?_) (fun c_2 => ?_)
  · have zc_2 := c_2
    rw [Int32.lt_iff_toInt_lt] at zc_2
    refine lv_iconst (v := 0) hx hb dX3_takes_25 (by decide) ?_
    exact W.zret (v := 0) hx hb hr (rfl) (fun t ht hW => ⟨⟨0, (), rfl, Or.inl rfl, trivial⟩, hS.F ht⟩) hS.2.2 dX3_takes_26
  · have zc_2 := c_2
    rw [Int32.lt_iff_toInt_lt] at zc_2
    refine lv_iload_n hx hb dX3_takes_8 rfl (lv_at hl 1 rfl) ?_
    refine lv_iconst (v := 1) hx hb dX3_takes_9 (by decide) ?_
    refine lv_icmp_lt (tgt := 25) hx hb dX3_takes_10 (by decide) (fun c_3 => ?_) (fun c_3 => ?_)
    · have zc_3 := c_3
      rw [Int32.lt_iff_toInt_lt] at zc_3
      try rw [show (1 : Int32).toInt = 1 from by decide] at zc_3
      refine lv_iconst (v := 0) hx hb dX3_takes_25 (by decide) ?_
      exact W.zret (v := 0) hx hb hr (rfl) (fun t ht hW => ⟨⟨0, (), rfl, Or.inl rfl, trivial⟩, hS.F ht⟩) hS.2.2 dX3_takes_26
    · have zc_3 := c_3
      rw [Int32.lt_iff_toInt_lt] at zc_3
      try rw [show (1 : Int32).toInt = 1 from by decide] at zc_3
      refine lv_iload_n hx hb dX3_takes_13 rfl (lv_at hl 1 rfl) ?_
      refine lv_aload_n hx hb dX3_takes_14 rfl (lv_at hl 0 rfl) ?_
      obtain ⟨kq_4, hq_4⟩ := zz_pg3 (X := []) (V := V) hm hk
      have hDo := hD
      refine va_get (D := (dC, dI)) (ci := 3) (v := .int (V ad 2)) (C := RX3) (T := TX3) (N := 7) hx hb hw zz_inX3 hown hK hP kq_4 hq_4 rfl 2 (by decide) (hw _ tw_31) (fun _ h9 => h9) rfl dX3_takes_15 ?_
      refine lv_icmp_gt (tgt := 25) hx hb dX3_takes_18 (by decide) (fun c_5 => ?_) (fun c_5 => ?_)
      · have zc_5 := c_5
        rw [Int32.lt_iff_toInt_lt] at zc_5
        refine lv_iconst (v := 0) hx hb dX3_takes_25 (by decide) ?_
        exact W.zret (v := 0) hx hb hr (rfl) (fun t ht hW => ⟨⟨0, (), rfl, Or.inl rfl, trivial⟩, hS.F ht⟩) hS.2.2 dX3_takes_26
      · have zc_5 := c_5
        rw [Int32.lt_iff_toInt_lt] at zc_5
        refine lv_iconst (v := 1) hx hb dX3_takes_21 (by decide) ?_
        refine lv_goto (tgt := 26) hx hb dX3_takes_22 (by decide) ?_
        exact W.zret (v := 1) hx hb hr (rfl) (fun t ht hW => ⟨⟨1, (), rfl, Or.inr rfl, trivial⟩, hS.F ht⟩) hS.2.2 dX3_takes_26

set_option maxHeartbeats 4000000 in
set_option maxRecDepth 100000 in
theorem k_freeHands (l : Launch) (dC : Nat → ClassId) (dI : Nat → Nat → Nat) (ad : Nat) (V : Nat → Nat → Int32) (L : List Nat) (K : Nat → Nat) (sz : Nat) (hm : ad ∈ L) (hk : K ad = 4) : Met l yX4_freeHands (zz_w yX4_freeHands cX4_freeHands 1 (some .int)) ({ frames := 0, cells := 0, slots := 0, locals := 0 }) (va_Pc [.ref ad] (zz_B (dC, dI) sz ([] ++ va_pl L (zz_F K V)) [])) (va_Qi (fun (_ : Int32) (_ : Unit) => True) (fun _ _ => True) (va_A [] sz)) 0 0 (va_A [] sz) := by
  refine Met.ofW (cc := cX4_freeHands) (maxL := 1) (ret := (some .int)) (by decide) rfl ?_
  intro p e s m args below meth c s₁ B hml hv
  obtain ⟨rfl, hsz, hP, hK, hD0, hN⟩ := hv
  have hx := B.exec
  have hb := B.bytes
  have hr := B.returns
  have hts := atoms_spec (ws := zz_w yX4_freeHands cX4_freeHands 1 (some .int)) B.pre
  have hw : ∀ w ∈ zz_all, w.before _ s = true := fun w h => hts w (List.mem_cons_of_mem _ h)
  have hown : s.vm.findClass RX4 = some m.cls := findClass_of_methodNamed B.named
  have hlocks := B.notSynchronized
  subst hsz
  have hD := hD0
  generalize hAe : va_A [] s.heap.size = A
  have hA : ∀ q : Nat, s.heap.size ≤ q → A q := fun q h => by rw [← hAe]; exact Or.inr h
  have hS : va_S A s.heap s.heap [] := va_S.rf
  have hP : va_P (dC, dI) vwCl ([] ++ va_pl L (zz_F K V)) s.heap := hP
  have hl := lv_entry ([.ref ad]) (n := 1) (Nat.le_of_ble_eq_true rfl)
  rw [lg_entry_eq]
  generalize (lg_sl ([.ref ad]) ++ List.replicate (1 - (lg_sl ([.ref ad])).length) Slot.unset).toArray = ls at hl ⊢
  have hl : lv_has ls 1 [(0, .ref ad)] := hl
  refine lv_aload_n hx hb dX4_freeHands_0 rfl (lv_at hl 0 rfl) ?_
  obtain ⟨kq_1, hq_1⟩ := zz_pg4 (X := []) (V := V) hm hk
  have hDo := hD
  refine va_get (D := (dC, dI)) (ci := 4) (v := .int (V ad 2)) (C := RX4) (T := TX4) (N := 9) hx hb hw zz_inX4 hown hK hP kq_1 hq_1 rfl 2 (by decide) (hw _ tw_32) (fun _ h9 => h9) rfl dX4_freeHands_1 ?_
  refine lv_if_le (tgt := 11) hx hb dX4_freeHands_4 (by decide) (fun c_2 => ?_) (fun c_2 => ?_)
  · have zc_2 := c_2
    rw [Int32.le_iff_toInt_le] at zc_2
    try rw [show (0 : Int32).toInt = 0 from by decide] at zc_2
    refine lv_aload_n hx hb dX4_freeHands_11 rfl (lv_at hl 0 rfl) ?_
    obtain ⟨kq_3, hq_3⟩ := zz_pg4 (X := []) (V := V) hm hk
    have hDo := hD
    refine va_get (D := (dC, dI)) (ci := 4) (v := .int (V ad 0)) (C := RX4) (T := TX4) (N := 9) hx hb hw zz_inX4 hown hK hP kq_3 hq_3 rfl 0 (by decide) (hw _ tw_33) (fun _ h9 => h9) rfl dX4_freeHands_12 ?_
    refine lv_aload_n hx hb dX4_freeHands_15 rfl (lv_at hl 0 rfl) ?_
    obtain ⟨kq_4, hq_4⟩ := zz_pg4 (X := []) (V := V) hm hk
    have hDo := hD
    refine va_get (D := (dC, dI)) (ci := 4) (v := .int (V ad 3)) (C := RX4) (T := TX4) (N := 9) hx hb hw zz_inX4 hown hK hP kq_4 hq_4 rfl 3 (by decide) (hw _ tw_34) (fun _ h9 => h9) rfl dX4_freeHands_16 ?_
    refine lv_isub hx hb dX4_freeHands_19 ?_
    exact W.iret (v := ((V ad 0) - (V ad 3))) hx hb hr (fun t ht hW => ⟨⟨((V ad 0) - (V ad 3)), (), rfl, trivial, trivial⟩, hS.F ht⟩) hS.2.2 dX4_freeHands_20
  · have zc_2 := c_2
    rw [Int32.le_iff_toInt_le] at zc_2
    try rw [show (0 : Int32).toInt = 0 from by decide] at zc_2
    refine lv_iconst (v := 0) hx hb dX4_freeHands_7 (by decide) ?_
    refine lv_goto (tgt := 20) hx hb dX4_freeHands_8 (by decide) ?_
    exact W.iret (v := 0) hx hb hr (fun t ht hW => ⟨⟨0, (), rfl, trivial, trivial⟩, hS.F ht⟩) hS.2.2 dX4_freeHands_20

set_option maxHeartbeats 4000000 in
set_option maxRecDepth 100000 in
theorem k_proceedsOf (l : Launch) (dC : Nat → ClassId) (dI : Nat → Nat → Nat) (a : Nat → Nat) (cI : ClassId) (fl : Nat → Int32) (p0 : Int32) (p1 : Int32) (sz : Nat) : Met l yX7_proceedsOf (zz_w yX7_proceedsOf cX7_proceedsOf 5 (some .int)) ({ frames := 1, cells := 0, slots := 0, locals := 14 }) (va_Pc [.int p0, .int p1, .ref (a 23)] (zz_B (dC, dI) sz [(a 23, .inl (cI, 10, .inl fl))] [(cI, .int)])) (va_Qi (fun (_ : Int32) (_ : Unit) => True) (fun _ _ => True) (va_A [] sz)) 0 0 (va_A [] sz) := by
  refine Met.ofW (cc := cX7_proceedsOf) (maxL := 5) (ret := (some .int)) (by decide) rfl ?_
  intro p e s m args below meth c s₁ B hml hv
  obtain ⟨rfl, hsz, hP, hK, hD0, hN⟩ := hv
  have hx := B.exec
  have hb := B.bytes
  have hr := B.returns
  have hts := atoms_spec (ws := zz_w yX7_proceedsOf cX7_proceedsOf 5 (some .int)) B.pre
  have hw : ∀ w ∈ zz_all, w.before _ s = true := fun w h => hts w (List.mem_cons_of_mem _ h)
  have hown : s.vm.findClass RX7 = some m.cls := findClass_of_methodNamed B.named
  have hlocks := B.notSynchronized
  subst hsz
  have hD := hD0
  generalize hAe : va_A [] s.heap.size = A
  have hA : ∀ q : Nat, s.heap.size ≤ q → A q := fun q h => by rw [← hAe]; exact Or.inr h
  have hS : va_S A s.heap s.heap [] := va_S.rf
  have hP : va_P (dC, dI) vwCl [(a 23, .inl (cI, 10, .inl fl))] s.heap := hP
  have hl := lv_entry ([.int p0, .int p1, .ref (a 23)]) (n := 5) (Nat.le_of_ble_eq_true rfl)
  rw [lg_entry_eq]
  generalize (lg_sl ([.int p0, .int p1, .ref (a 23)]) ++ List.replicate (5 - (lg_sl ([.int p0, .int p1, .ref (a 23)])).length) Slot.unset).toArray = ls at hl ⊢
  have hl : lv_has ls 5 [(0, .int p0), (1, .int p1), (2, .ref (a 23))] := hl
  refine lv_iconst (v := 0) hx hb dX7_proceedsOf_0 (by decide) ?_
  refine lv_iload_n hx hb dX7_proceedsOf_1 rfl (lv_at hl 1 rfl) ?_
  refine lv_bipush (v := 9) hx hb dX7_proceedsOf_2 (by decide) ?_
  refine va_mmin hx hb (by rw [hml]; exact hl.1.symm) hown (hw _ tw_35) (hw _ tw_27) (hw _ tw_28) (hw _ tw_29) (Nat.le_of_ble_eq_true rfl) (Nat.le_of_ble_eq_true rfl) (Nat.le_of_ble_eq_true rfl) (Nat.le_of_ble_eq_true rfl) dX7_proceedsOf_4 ?_
  refine va_mmax hx hb (by rw [hml]; exact hl.1.symm) hown (hw _ tw_36) (hw _ tw_37) (hw _ tw_28) (hw _ tw_38) (Nat.le_of_ble_eq_true rfl) (Nat.le_of_ble_eq_true rfl) (Nat.le_of_ble_eq_true rfl) (Nat.le_of_ble_eq_true rfl) dX7_proceedsOf_7 ?_
  refine lv_istore_n (lv' := [(3, .int (if 0 < (if 9 < p1 then 9 else p1) then (if 9 < p1 then 9 else p1) else 0)), (0, .int p0), (1, .int p1), (2, .ref (a 23))]) hx hb dX7_proceedsOf_10 rfl hl (by decide) rfl (fun ls hl => ?_)
  refine lv_iload_n hx hb dX7_proceedsOf_11 rfl (lv_at hl 0 rfl) ?_
  refine lv_aload_n hx hb dX7_proceedsOf_12 rfl (lv_at hl 3 rfl) ?_
  refine va_alen (v := 10) hx hb hK hP 0 0 rfl rfl rfl dX7_proceedsOf_13 ?_
  refine lv_icmp_ge (tgt := 23) hx hb dX7_proceedsOf_14 (by decide) (fun c_1 => ?_) (fun c_1 => ?_)
  · have zc_1 := c_1
    rw [Int32.le_iff_toInt_le] at zc_1
    try rw [show (10 : Int32).toInt = 10 from by decide] at zc_1
    refine lv_iconst (v := 0) hx hb dX7_proceedsOf_23 (by decide) ?_
    refine lv_istore (lv' := [(4, .int 0), (3, .int (if 0 < (if 9 < p1 then 9 else p1) then (if 9 < p1 then 9 else p1) else 0)), (0, .int p0), (1, .int p1), (2, .ref (a 23))]) hx hb dX7_proceedsOf_24 hl (by decide) rfl (fun ls hl => ?_)
    refine lv_iload_n hx hb dX7_proceedsOf_26 rfl (lv_at hl 2 rfl) ?_
    refine lv_bipush (v := 100) hx hb dX7_proceedsOf_27 (by decide) ?_
    refine lv_iload hx hb dX7_proceedsOf_29 (lv_at hl 0 rfl) ?_
    refine lv_isub hx hb dX7_proceedsOf_31 ?_
    refine zz_seti 100 (by decide) ?_
    refine lv_imul hx hb dX7_proceedsOf_32 ?_
    refine lv_bipush (v := 100) hx hb dX7_proceedsOf_33 (by decide) ?_
    refine lv_idiv hx hb dX7_proceedsOf_35 (by decide) ?_
    exact W.iret (v := ((p0 * 100) / 100)) hx hb hr (fun t ht hW => ⟨⟨((p0 * 100) / 100), (), rfl, trivial, trivial⟩, hS.F ht⟩) hS.2.2 dX7_proceedsOf_36
  · have zc_1 := c_1
    rw [Int32.le_iff_toInt_le] at zc_1
    try rw [show (10 : Int32).toInt = 10 from by decide] at zc_1
    refine lv_aload_n hx hb dX7_proceedsOf_17 rfl (lv_at hl 3 rfl) ?_
    refine lv_iload_n hx hb dX7_proceedsOf_18 rfl (lv_at hl 0 rfl) ?_
    refine va_iald hx hb hK hP 0 0 rfl rfl (zz_k9 _) dX7_proceedsOf_19 ?_
    refine lv_goto (tgt := 24) hx hb dX7_proceedsOf_20 (by decide) ?_
    refine lv_istore (lv' := [(4, .int (fl (Int32.toNatClampNeg (if 0 < (if 9 < p1 then 9 else p1) then (if 9 < p1 then 9 else p1) else 0)))), (3, .int (if 0 < (if 9 < p1 then 9 else p1) then (if 9 < p1 then 9 else p1) else 0)), (0, .int p0), (1, .int p1), (2, .ref (a 23))]) hx hb dX7_proceedsOf_24 hl (by decide) rfl (fun ls hl => ?_)
    refine lv_iload_n hx hb dX7_proceedsOf_26 rfl (lv_at hl 2 rfl) ?_
    refine lv_bipush (v := 100) hx hb dX7_proceedsOf_27 (by decide) ?_
    refine lv_iload hx hb dX7_proceedsOf_29 (lv_at hl 0 rfl) ?_
    refine lv_isub hx hb dX7_proceedsOf_31 ?_
    refine lv_imul hx hb dX7_proceedsOf_32 ?_
    refine lv_bipush (v := 100) hx hb dX7_proceedsOf_33 (by decide) ?_
    refine lv_idiv hx hb dX7_proceedsOf_35 (by decide) ?_
    exact W.iret (v := ((p0 * (100 - (fl (Int32.toNatClampNeg (if 0 < (if 9 < p1 then 9 else p1) then (if 9 < p1 then 9 else p1) else 0))))) / 100)) hx hb hr (fun t ht hW => ⟨⟨((p0 * (100 - (fl (Int32.toNatClampNeg (if 0 < (if 9 < p1 then 9 else p1) then (if 9 < p1 then 9 else p1) else 0))))) / 100), (), rfl, trivial, trivial⟩, hS.F ht⟩) hS.2.2 dX7_proceedsOf_36

set_option maxHeartbeats 4000000 in
set_option maxRecDepth 100000 in
theorem k_field (l : Launch) (dC : Nat → ClassId) (dI : Nat → Nat → Nat) (a : Nat → Nat) (nh : Nat) (nf : Nat) (clk : Int32) (hi : Int32) (cH : ClassId) (fH : Nat → Option Nat) (cF : ClassId) (fF : Nat → Option Nat) (V : Nat → Nat → Int32) (p0 : Int32) (p1 : Int32) (p2 : Int32) (p3 : Int32) (p4 : Int32) (L : List Nat) (K : Nat → Nat) (sz : Nat) (hc8 : nh ≤ 8) (hf12 : nf ≤ 12) (hfH : ∀ k, k < 8 → fH k = some (a (2 + k))) (hfF : ∀ k, k < 12 → fF k = some (a (11 + k))) (hH : ∀ k, k < 8 → a (2 + k) ∈ L ∧ K (a (2 + k)) = 4) (hF : ∀ k, k < 12 → a (11 + k) ∈ L ∧ K (a (11 + k)) = 3) : Met l yX7_field (zz_w yX7_field cX7_field 7 (some .int)) ({ frames := 2, cells := 0, slots := 0, locals := 43 }) (va_Pc [.ref (a 0), .int p0, .int p1, .int p2, .int p3, .int p4] (zz_B (dC, dI) sz ([(a 0, .inr (7, [.ref (a 1), .ref (a 10), .ref (a 23), .ref (a 24), .ref (a 26), .ref (a 29), .ref (a 34), .ref (a 43), .int (nI nh), .int (nI nf), .int clk, .int hi])), (a 1, .inl (cH, 8, .inr (.inr (.inr (.inr fH))))), (a 10, .inl (cF, 12, .inr (.inr (.inr (.inr fF)))))] ++ va_pl L (zz_F K V)) [(cH, .object RX4), (cF, .object RX3)])) (va_Qi (fun (r : Int32) (u : Nat × (Nat → Nat → Int32)) => match u with | (f2, _) => (((0 ≤ p0.toInt ∧ p0.toInt < (nh : Int)) ∧ (0 ≤ p1.toInt ∧ p1.toInt ≤ 2) ∧ (1 ≤ p2.toInt ∧ p2.toInt ≤ 60) ∧ (0 ≤ p3.toInt ∧ p3.toInt ≤ 400) ∧ (0 ≤ p4.toInt ∧ p4.toInt ≤ 10000) ∧ nf < 12) ∧ r = nI nf ∧ f2 = (nf + 1)) ∨ (¬ ((0 ≤ p0.toInt ∧ p0.toInt < (nh : Int)) ∧ (0 ≤ p1.toInt ∧ p1.toInt ≤ 2) ∧ (1 ≤ p2.toInt ∧ p2.toInt ≤ 60) ∧ (0 ≤ p3.toInt ∧ p3.toInt ≤ 400) ∧ (0 ≤ p4.toInt ∧ p4.toInt ≤ 10000) ∧ nf < 12) ∧ r = -1 ∧ f2 = nf)) (fun (u : Nat × (Nat → Nat → Int32)) (t : State) => match u with | (u0, u1) => va_P (dC, dI) vwCl ([(a 0, .inr (7, [.ref (a 1), .ref (a 10), .ref (a 23), .ref (a 24), .ref (a 26), .ref (a 29), .ref (a 34), .ref (a 43), .int (nI nh), .int (nI u0), .int clk, .int hi])), (a 1, .inl (cH, 8, .inr (.inr (.inr (.inr fH))))), (a 10, .inl (cF, 12, .inr (.inr (.inr (.inr fF)))))] ++ va_pl L (zz_F K u1)) t.heap ∧ va_K (dC, dI) vwCl [(cH, .object RX4), (cF, .object RX3)] t ∧ va_D (va_A ([(a 0, .inr (7, [.ref (a 1), .ref (a 10), .ref (a 23), .ref (a 24), .ref (a 26), .ref (a 29), .ref (a 34), .ref (a 43), .int (nI nh), .int (nI nf), .int clk, .int hi])), (a 1, .inl (cH, 8, .inr (.inr (.inr (.inr fH))))), (a 10, .inl (cF, 12, .inr (.inr (.inr (.inr fF)))))] ++ va_pl L (zz_F K V)) sz) ([(a 0, .inr (7, [.ref (a 1), .ref (a 10), .ref (a 23), .ref (a 24), .ref (a 26), .ref (a 29), .ref (a 34), .ref (a 43), .int (nI nh), .int (nI u0), .int clk, .int hi])), (a 1, .inl (cH, 8, .inr (.inr (.inr (.inr fH))))), (a 10, .inl (cF, 12, .inr (.inr (.inr (.inr fF)))))] ++ va_pl L (zz_F K u1))) (va_A ([(a 0, .inr (7, [.ref (a 1), .ref (a 10), .ref (a 23), .ref (a 24), .ref (a 26), .ref (a 29), .ref (a 34), .ref (a 43), .int (nI nh), .int (nI nf), .int clk, .int hi])), (a 1, .inl (cH, 8, .inr (.inr (.inr (.inr fH))))), (a 10, .inl (cF, 12, .inr (.inr (.inr (.inr fF)))))] ++ va_pl L (zz_F K V)) sz)) 0 0 (va_A ([(a 0, .inr (7, [.ref (a 1), .ref (a 10), .ref (a 23), .ref (a 24), .ref (a 26), .ref (a 29), .ref (a 34), .ref (a 43), .int (nI nh), .int (nI nf), .int clk, .int hi])), (a 1, .inl (cH, 8, .inr (.inr (.inr (.inr fH))))), (a 10, .inl (cF, 12, .inr (.inr (.inr (.inr fF)))))] ++ va_pl L (zz_F K V)) sz) := by
  refine Met.ofW (cc := cX7_field) (maxL := 7) (ret := (some .int)) (by decide) rfl ?_
  intro p e s m args below meth c s₁ B hml hv
  obtain ⟨rfl, hsz, hP, hK, hD0, hN⟩ := hv
  have hx := B.exec
  have hb := B.bytes
  have hr := B.returns
  have hts := atoms_spec (ws := zz_w yX7_field cX7_field 7 (some .int)) B.pre
  have hw : ∀ w ∈ zz_all, w.before _ s = true := fun w h => hts w (List.mem_cons_of_mem _ h)
  have hown : s.vm.findClass RX7 = some m.cls := findClass_of_methodNamed B.named
  have hlocks := B.notSynchronized
  subst hsz
  have hD := hD0.self (sz := s.heap.size)
  generalize hAe : va_A ([(a 0, .inr (7, [.ref (a 1), .ref (a 10), .ref (a 23), .ref (a 24), .ref (a 26), .ref (a 29), .ref (a 34), .ref (a 43), .int (nI nh), .int (nI nf), .int clk, .int hi])), (a 1, .inl (cH, 8, .inr (.inr (.inr (.inr fH))))), (a 10, .inl (cF, 12, .inr (.inr (.inr (.inr fF)))))] ++ va_pl L (zz_F K V)) s.heap.size = A at hD ⊢
  have hA : ∀ q : Nat, s.heap.size ≤ q → A q := fun q h => by rw [← hAe]; exact Or.inr h
  have hS : va_S A s.heap s.heap [] := va_S.rf
  have hP : va_P (dC, dI) vwCl ([(a 0, .inr (7, [.ref (a 1), .ref (a 10), .ref (a 23), .ref (a 24), .ref (a 26), .ref (a 29), .ref (a 34), .ref (a 43), .int (nI nh), .int (nI nf), .int clk, .int hi])), (a 1, .inl (cH, 8, .inr (.inr (.inr (.inr fH))))), (a 10, .inl (cF, 12, .inr (.inr (.inr (.inr fF)))))] ++ va_pl L (zz_F K V)) s.heap := hP
  have hl := lv_entry ([.ref (a 0), .int p0, .int p1, .int p2, .int p3, .int p4]) (n := 7) (Nat.le_of_ble_eq_true rfl)
  rw [lg_entry_eq]
  generalize (lg_sl ([.ref (a 0), .int p0, .int p1, .int p2, .int p3, .int p4]) ++ List.replicate (7 - (lg_sl ([.ref (a 0), .int p0, .int p1, .int p2, .int p3, .int p4])).length) Slot.unset).toArray = ls at hl ⊢
  have hl : lv_has ls 7 [(0, .ref (a 0)), (1, .int p0), (2, .int p1), (3, .int p2), (4, .int p3), (5, .int p4)] := hl
  refine lv_aload_n hx hb dX7_field_0 rfl (lv_at hl 0 rfl) ?_
  refine lv_iload_n hx hb dX7_field_1 rfl (lv_at hl 1 rfl) ?_
  have hPc := hP.sub (ws' := [(a 0, .inr (7, [.ref (a 1), .ref (a 10), .ref (a 23), .ref (a 24), .ref (a 26), .ref (a 29), .ref (a 34), .ref (a 43), .int (nI nh), .int (nI nf), .int clk, .int hi])), (a 1, .inl (cH, 8, .inr (.inr (.inr (.inr fH)))))]) [0, 1] rfl
  have hDc := hD.sub (ws' := [(a 0, .inr (7, [.ref (a 1), .ref (a 10), .ref (a 23), .ref (a 24), .ref (a 26), .ref (a 29), .ref (a 34), .ref (a 43), .int (nI nh), .int (nI nf), .int clk, .int hi])), (a 1, .inl (cH, 8, .inr (.inr (.inr (.inr fH)))))]) [0, 1] (by decide) rfl
  have hKc := hK.sub (tys' := [(cH, .object RX4)]) [0] rfl
  have hFc := zz_free0 hS hA
  refine va_callq (va_runV (As := [.int p0]) (rest := []) ⟨hx, hb, hml, hown, hw⟩ (k_houseAt l dC dI a nh nf clk hi cH fH p0 s.heap.size (by omega) (by omega) hfH) ⟨callB_of 1 hw (zz_good tw_8) rfl rfl rfl (hw _ tw_2) (hw _ tw_9) (by decide +kernel) ⟨Nat.le_of_ble_eq_true rfl, Nat.le_of_ble_eq_true rfl⟩, (hw _ tw_10), (hw _ tw_11)⟩ ⟨zz_blind, va_recv hKc hPc (ci := 7) (q0 := 0) rfl rfl, zz_pre hPc hKc hDc hN⟩ rfl rfl hl.1 rfl (lv_room (Nat.le_of_ble_eq_true rfl)) dX7_field_2 ⟨Nat.le_of_ble_eq_true rfl, Nat.le_of_ble_eq_true rfl⟩) hS (fun q _ h => hFc q h) hFc (fun r_1 u_1 t H1 locs ht hvm e_1 hB hz1 hk1 hS => ?_)
  try dsimp only at e_1
  have hP := zz_keep hP hk1
  clear hk1 hB ht hvm
  generalize H1 = H at hP hS ⊢
  have hP : va_P (dC, dI) vwCl ([(a 0, .inr (7, [.ref (a 1), .ref (a 10), .ref (a 23), .ref (a 24), .ref (a 26), .ref (a 29), .ref (a 34), .ref (a 43), .int (nI nh), .int (nI nf), .int clk, .int hi])), (a 1, .inl (cH, 8, .inr (.inr (.inr (.inr fH))))), (a 10, .inl (cF, 12, .inr (.inr (.inr (.inr fF)))))] ++ va_pl L (zz_F K V)) H := hP
  have hD : va_D A ([(a 0, .inr (7, [.ref (a 1), .ref (a 10), .ref (a 23), .ref (a 24), .ref (a 26), .ref (a 29), .ref (a 34), .ref (a 43), .int (nI nh), .int (nI nf), .int clk, .int hi])), (a 1, .inl (cH, 8, .inr (.inr (.inr (.inr fH))))), (a 10, .inl (cF, 12, .inr (.inr (.inr (.inr fF)))))] ++ va_pl L (zz_F K V)) := hD
  rcases e_1 with ⟨er_1, nk_1⟩ | ⟨er_1, nk_1⟩
  · refine zz_setv (.null) (congrArg va_rf er_1) ?_
    refine lv_ifnullN (tgt := 17) hx hb dX7_field_5 (by decide) ?_
    refine lv_iconst (v := (-1)) hx hb dX7_field_17 (by decide) ?_
    have hP9 := hP.part (cx := [(a 0, .inr (7, [.ref (a 1), .ref (a 10), .ref (a 23), .ref (a 24), .ref (a 26), .ref (a 29), .ref (a 34), .ref (a 43), .int (nI nh), .int (nI nf), .int clk, .int hi])), (a 1, .inl (cH, 8, .inr (.inr (.inr (.inr fH))))), (a 10, .inl (cF, 12, .inr (.inr (.inr (.inr fF)))))]) [0, 1, 2] rfl
    have hD9 := hD.part (cx := [(a 0, .inr (7, [.ref (a 1), .ref (a 10), .ref (a 23), .ref (a 24), .ref (a 26), .ref (a 29), .ref (a 34), .ref (a 43), .int (nI nh), .int (nI nf), .int clk, .int hi])), (a 1, .inl (cH, 8, .inr (.inr (.inr (.inr fH))))), (a 10, .inl (cF, 12, .inr (.inr (.inr (.inr fF)))))]) [0, 1, 2] (by decide) rfl
    have hK9 := hK.sub (tys' := [(cH, .object RX4), (cF, .object RX3)]) [0, 1] rfl
    exact W.iret (v := (-1)) hx hb hr (fun t ht hW => ⟨⟨(-1), (nf, V), rfl, (by first | exact Or.inl ⟨by omega, rfl, rfl⟩ | exact Or.inr ⟨by omega, rfl, rfl⟩), by rw [ht]; exact hP9, va_K.moved hW.alike hK9, hD9⟩, hS.F ht⟩) hS.2.2 dX7_field_18
  · refine zz_setv (.ref (a (2 + (Int32.toNatClampNeg p0)))) (congrArg va_rf er_1) ?_
    refine lv_ifnull hx hb dX7_field_5 ?_
    refine lv_aload_n hx hb dX7_field_8 rfl (lv_at hl 0 rfl) ?_
    refine va_get (D := (dC, dI)) (ci := 7) (v := .int (nI nf)) (C := RX7) (T := TX7) (N := 12) hx hb hw zz_inX7 hown hK hP 0 rfl rfl 9 (by decide) (hw _ tw_6) (fun _ h9 => h9) rfl dX7_field_9 ?_
    refine lv_bipush (v := 12) hx hb dX7_field_12 (by decide) ?_
    refine lv_icmp_lt (tgt := 19) hx hb dX7_field_14 (by decide) (fun c_2 => ?_) (fun c_2 => ?_)
    · have zc_2 := c_2
      rw [Int32.lt_iff_toInt_lt] at zc_2
      try rw [zz_toInt nf (by omega)] at zc_2
      try rw [show (12 : Int32).toInt = 12 from by decide] at zc_2
      refine lv_iload_n hx hb dX7_field_19 rfl (lv_at hl 2 rfl) ?_
      refine lv_iconst (v := 0) hx hb dX7_field_20 (by decide) ?_
      refine lv_iconst (v := 2) hx hb dX7_field_21 (by decide) ?_
      have hPc := hP.sub (ws' := []) [] rfl
      have hDc := hD.sub (ws' := []) [] (by decide) rfl
      have hKc := hK.sub (tys' := []) [] rfl
      have hFc := zz_free0 hS hA
      refine va_calli (va_runS (As := [.int p1, .int 0, .int 2]) (rest := []) ⟨hx, hb, hml, hown, hw⟩ (k_within l dC dI p1 0 2 H.size) ⟨callB_of 3 hw (zz_good tw_1) rfl rfl rfl (hw _ tw_2) (hw _ tw_3) (by decide +kernel) ⟨Nat.le_of_ble_eq_true rfl, Nat.le_of_ble_eq_true rfl⟩, (hw _ tw_4)⟩ ⟨zz_blind, zz_pre hPc hKc hDc hN⟩ rfl rfl hl.1 rfl (lv_room (Nat.le_of_ble_eq_true rfl)) dX7_field_22 ⟨Nat.le_of_ble_eq_true rfl, Nat.le_of_ble_eq_true rfl⟩) hS (fun q _ h => hFc q h) hFc (fun r_3 u_3 t H1 locs ht hvm e_3 hB hz1 hk1 hS => ?_)
      try dsimp only at e_3
      have hP := zz_keep hP hk1
      clear hk1 hB ht hvm
      generalize H1 = H at hP hS ⊢
      have hP : va_P (dC, dI) vwCl ([(a 0, .inr (7, [.ref (a 1), .ref (a 10), .ref (a 23), .ref (a 24), .ref (a 26), .ref (a 29), .ref (a 34), .ref (a 43), .int (nI nh), .int (nI nf), .int clk, .int hi])), (a 1, .inl (cH, 8, .inr (.inr (.inr (.inr fH))))), (a 10, .inl (cF, 12, .inr (.inr (.inr (.inr fF)))))] ++ va_pl L (zz_F K V)) H := hP
      have hD : va_D A ([(a 0, .inr (7, [.ref (a 1), .ref (a 10), .ref (a 23), .ref (a 24), .ref (a 26), .ref (a 29), .ref (a 34), .ref (a 43), .int (nI nh), .int (nI nf), .int clk, .int hi])), (a 1, .inl (cH, 8, .inr (.inr (.inr (.inr fH))))), (a 10, .inl (cF, 12, .inr (.inr (.inr (.inr fF)))))] ++ va_pl L (zz_F K V)) := hD
      refine lv_if_eq (tgt := 62) hx hb dX7_field_25 (by decide) (fun c_4 => ?_) (fun c_4 => ?_)
      · have zc_4 := c_4
        rw [e_3, zz_in0, Int32.le_iff_toInt_le, Int32.le_iff_toInt_le] at zc_4
        try rw [show (0 : Int32).toInt = 0 from by decide] at zc_4
        try rw [show (2 : Int32).toInt = 2 from by decide] at zc_4
        refine lv_iconst (v := (-1)) hx hb dX7_field_62 (by decide) ?_
        have hP9 := hP.part (cx := [(a 0, .inr (7, [.ref (a 1), .ref (a 10), .ref (a 23), .ref (a 24), .ref (a 26), .ref (a 29), .ref (a 34), .ref (a 43), .int (nI nh), .int (nI nf), .int clk, .int hi])), (a 1, .inl (cH, 8, .inr (.inr (.inr (.inr fH))))), (a 10, .inl (cF, 12, .inr (.inr (.inr (.inr fF)))))]) [0, 1, 2] rfl
        have hD9 := hD.part (cx := [(a 0, .inr (7, [.ref (a 1), .ref (a 10), .ref (a 23), .ref (a 24), .ref (a 26), .ref (a 29), .ref (a 34), .ref (a 43), .int (nI nh), .int (nI nf), .int clk, .int hi])), (a 1, .inl (cH, 8, .inr (.inr (.inr (.inr fH))))), (a 10, .inl (cF, 12, .inr (.inr (.inr (.inr fF)))))]) [0, 1, 2] (by decide) rfl
        have hK9 := hK.sub (tys' := [(cH, .object RX4), (cF, .object RX3)]) [0, 1] rfl
        exact W.iret (v := (-1)) hx hb hr (fun t ht hW => ⟨⟨(-1), (nf, V), rfl, (by first | exact Or.inl ⟨by omega, rfl, rfl⟩ | exact Or.inr ⟨by omega, rfl, rfl⟩), by rw [ht]; exact hP9, va_K.moved hW.alike hK9, hD9⟩, hS.F ht⟩) hS.2.2 dX7_field_63
      · have zc_4 := c_4
        rw [e_3, zz_in0, Int32.le_iff_toInt_le, Int32.le_iff_toInt_le] at zc_4
        try rw [show (0 : Int32).toInt = 0 from by decide] at zc_4
        try rw [show (2 : Int32).toInt = 2 from by decide] at zc_4
        refine lv_iload_n hx hb dX7_field_28 rfl (lv_at hl 3 rfl) ?_
        refine lv_iconst (v := 1) hx hb dX7_field_29 (by decide) ?_
        refine lv_bipush (v := 60) hx hb dX7_field_30 (by decide) ?_
        have hPc := hP.sub (ws' := []) [] rfl
        have hDc := hD.sub (ws' := []) [] (by decide) rfl
        have hKc := hK.sub (tys' := []) [] rfl
        have hFc := zz_free0 hS hA
        refine va_calli (va_runS (As := [.int p2, .int 1, .int 60]) (rest := []) ⟨hx, hb, hml, hown, hw⟩ (k_within l dC dI p2 1 60 H.size) ⟨callB_of 3 hw (zz_good tw_1) rfl rfl rfl (hw _ tw_2) (hw _ tw_3) (by decide +kernel) ⟨Nat.le_of_ble_eq_true rfl, Nat.le_of_ble_eq_true rfl⟩, (hw _ tw_4)⟩ ⟨zz_blind, zz_pre hPc hKc hDc hN⟩ rfl rfl hl.1 rfl (lv_room (Nat.le_of_ble_eq_true rfl)) dX7_field_32 ⟨Nat.le_of_ble_eq_true rfl, Nat.le_of_ble_eq_true rfl⟩) hS (fun q _ h => hFc q h) hFc (fun r_5 u_5 t H1 locs ht hvm e_5 hB hz1 hk1 hS => ?_)
        try dsimp only at e_5
        have hP := zz_keep hP hk1
        clear hk1 hB ht hvm
        generalize H1 = H at hP hS ⊢
        have hP : va_P (dC, dI) vwCl ([(a 0, .inr (7, [.ref (a 1), .ref (a 10), .ref (a 23), .ref (a 24), .ref (a 26), .ref (a 29), .ref (a 34), .ref (a 43), .int (nI nh), .int (nI nf), .int clk, .int hi])), (a 1, .inl (cH, 8, .inr (.inr (.inr (.inr fH))))), (a 10, .inl (cF, 12, .inr (.inr (.inr (.inr fF)))))] ++ va_pl L (zz_F K V)) H := hP
        have hD : va_D A ([(a 0, .inr (7, [.ref (a 1), .ref (a 10), .ref (a 23), .ref (a 24), .ref (a 26), .ref (a 29), .ref (a 34), .ref (a 43), .int (nI nh), .int (nI nf), .int clk, .int hi])), (a 1, .inl (cH, 8, .inr (.inr (.inr (.inr fH))))), (a 10, .inl (cF, 12, .inr (.inr (.inr (.inr fF)))))] ++ va_pl L (zz_F K V)) := hD
        refine lv_if_eq (tgt := 62) hx hb dX7_field_35 (by decide) (fun c_6 => ?_) (fun c_6 => ?_)
        · have zc_6 := c_6
          rw [e_5, zz_in0, Int32.le_iff_toInt_le, Int32.le_iff_toInt_le] at zc_6
          try rw [show (1 : Int32).toInt = 1 from by decide] at zc_6
          try rw [show (60 : Int32).toInt = 60 from by decide] at zc_6
          refine lv_iconst (v := (-1)) hx hb dX7_field_62 (by decide) ?_
          have hP9 := hP.part (cx := [(a 0, .inr (7, [.ref (a 1), .ref (a 10), .ref (a 23), .ref (a 24), .ref (a 26), .ref (a 29), .ref (a 34), .ref (a 43), .int (nI nh), .int (nI nf), .int clk, .int hi])), (a 1, .inl (cH, 8, .inr (.inr (.inr (.inr fH))))), (a 10, .inl (cF, 12, .inr (.inr (.inr (.inr fF)))))]) [0, 1, 2] rfl
          have hD9 := hD.part (cx := [(a 0, .inr (7, [.ref (a 1), .ref (a 10), .ref (a 23), .ref (a 24), .ref (a 26), .ref (a 29), .ref (a 34), .ref (a 43), .int (nI nh), .int (nI nf), .int clk, .int hi])), (a 1, .inl (cH, 8, .inr (.inr (.inr (.inr fH))))), (a 10, .inl (cF, 12, .inr (.inr (.inr (.inr fF)))))]) [0, 1, 2] (by decide) rfl
          have hK9 := hK.sub (tys' := [(cH, .object RX4), (cF, .object RX3)]) [0, 1] rfl
          exact W.iret (v := (-1)) hx hb hr (fun t ht hW => ⟨⟨(-1), (nf, V), rfl, (by first | exact Or.inl ⟨by omega, rfl, rfl⟩ | exact Or.inr ⟨by omega, rfl, rfl⟩), by rw [ht]; exact hP9, va_K.moved hW.alike hK9, hD9⟩, hS.F ht⟩) hS.2.2 dX7_field_63
        · have zc_6 := c_6
          rw [e_5, zz_in0, Int32.le_iff_toInt_le, Int32.le_iff_toInt_le] at zc_6
          try rw [show (1 : Int32).toInt = 1 from by decide] at zc_6
          try rw [show (60 : Int32).toInt = 60 from by decide] at zc_6
          refine lv_iload hx hb dX7_field_38 (lv_at hl 4 rfl) ?_
          refine lv_iconst (v := 0) hx hb dX7_field_40 (by decide) ?_
          refine lv_sipush (v := 400) hx hb dX7_field_41 (by decide) ?_
          have hPc := hP.sub (ws' := []) [] rfl
          have hDc := hD.sub (ws' := []) [] (by decide) rfl
          have hKc := hK.sub (tys' := []) [] rfl
          have hFc := zz_free0 hS hA
          refine va_calli (va_runS (As := [.int p3, .int 0, .int 400]) (rest := []) ⟨hx, hb, hml, hown, hw⟩ (k_within l dC dI p3 0 400 H.size) ⟨callB_of 3 hw (zz_good tw_1) rfl rfl rfl (hw _ tw_2) (hw _ tw_3) (by decide +kernel) ⟨Nat.le_of_ble_eq_true rfl, Nat.le_of_ble_eq_true rfl⟩, (hw _ tw_4)⟩ ⟨zz_blind, zz_pre hPc hKc hDc hN⟩ rfl rfl hl.1 rfl (lv_room (Nat.le_of_ble_eq_true rfl)) dX7_field_44 ⟨Nat.le_of_ble_eq_true rfl, Nat.le_of_ble_eq_true rfl⟩) hS (fun q _ h => hFc q h) hFc (fun r_7 u_7 t H1 locs ht hvm e_7 hB hz1 hk1 hS => ?_)
          try dsimp only at e_7
          have hP := zz_keep hP hk1
          clear hk1 hB ht hvm
          generalize H1 = H at hP hS ⊢
          have hP : va_P (dC, dI) vwCl ([(a 0, .inr (7, [.ref (a 1), .ref (a 10), .ref (a 23), .ref (a 24), .ref (a 26), .ref (a 29), .ref (a 34), .ref (a 43), .int (nI nh), .int (nI nf), .int clk, .int hi])), (a 1, .inl (cH, 8, .inr (.inr (.inr (.inr fH))))), (a 10, .inl (cF, 12, .inr (.inr (.inr (.inr fF)))))] ++ va_pl L (zz_F K V)) H := hP
          have hD : va_D A ([(a 0, .inr (7, [.ref (a 1), .ref (a 10), .ref (a 23), .ref (a 24), .ref (a 26), .ref (a 29), .ref (a 34), .ref (a 43), .int (nI nh), .int (nI nf), .int clk, .int hi])), (a 1, .inl (cH, 8, .inr (.inr (.inr (.inr fH))))), (a 10, .inl (cF, 12, .inr (.inr (.inr (.inr fF)))))] ++ va_pl L (zz_F K V)) := hD
          refine lv_if_eq (tgt := 62) hx hb dX7_field_47 (by decide) (fun c_8 => ?_) (fun c_8 => ?_)
          · have zc_8 := c_8
            rw [e_7, zz_in0, Int32.le_iff_toInt_le, Int32.le_iff_toInt_le] at zc_8
            try rw [show (0 : Int32).toInt = 0 from by decide] at zc_8
            try rw [show (400 : Int32).toInt = 400 from by decide] at zc_8
            refine lv_iconst (v := (-1)) hx hb dX7_field_62 (by decide) ?_
            have hP9 := hP.part (cx := [(a 0, .inr (7, [.ref (a 1), .ref (a 10), .ref (a 23), .ref (a 24), .ref (a 26), .ref (a 29), .ref (a 34), .ref (a 43), .int (nI nh), .int (nI nf), .int clk, .int hi])), (a 1, .inl (cH, 8, .inr (.inr (.inr (.inr fH))))), (a 10, .inl (cF, 12, .inr (.inr (.inr (.inr fF)))))]) [0, 1, 2] rfl
            have hD9 := hD.part (cx := [(a 0, .inr (7, [.ref (a 1), .ref (a 10), .ref (a 23), .ref (a 24), .ref (a 26), .ref (a 29), .ref (a 34), .ref (a 43), .int (nI nh), .int (nI nf), .int clk, .int hi])), (a 1, .inl (cH, 8, .inr (.inr (.inr (.inr fH))))), (a 10, .inl (cF, 12, .inr (.inr (.inr (.inr fF)))))]) [0, 1, 2] (by decide) rfl
            have hK9 := hK.sub (tys' := [(cH, .object RX4), (cF, .object RX3)]) [0, 1] rfl
            exact W.iret (v := (-1)) hx hb hr (fun t ht hW => ⟨⟨(-1), (nf, V), rfl, (by first | exact Or.inl ⟨by omega, rfl, rfl⟩ | exact Or.inr ⟨by omega, rfl, rfl⟩), by rw [ht]; exact hP9, va_K.moved hW.alike hK9, hD9⟩, hS.F ht⟩) hS.2.2 dX7_field_63
          · have zc_8 := c_8
            rw [e_7, zz_in0, Int32.le_iff_toInt_le, Int32.le_iff_toInt_le] at zc_8
            try rw [show (0 : Int32).toInt = 0 from by decide] at zc_8
            try rw [show (400 : Int32).toInt = 400 from by decide] at zc_8
            refine lv_iload hx hb dX7_field_50 (lv_at hl 5 rfl) ?_
            refine lv_iconst (v := 0) hx hb dX7_field_52 (by decide) ?_
            refine lv_sipush (v := 10000) hx hb dX7_field_53 (by decide) ?_
            have hPc := hP.sub (ws' := []) [] rfl
            have hDc := hD.sub (ws' := []) [] (by decide) rfl
            have hKc := hK.sub (tys' := []) [] rfl
            have hFc := zz_free0 hS hA
            refine va_calli (va_runS (As := [.int p4, .int 0, .int 10000]) (rest := []) ⟨hx, hb, hml, hown, hw⟩ (k_within l dC dI p4 0 10000 H.size) ⟨callB_of 3 hw (zz_good tw_1) rfl rfl rfl (hw _ tw_2) (hw _ tw_3) (by decide +kernel) ⟨Nat.le_of_ble_eq_true rfl, Nat.le_of_ble_eq_true rfl⟩, (hw _ tw_4)⟩ ⟨zz_blind, zz_pre hPc hKc hDc hN⟩ rfl rfl hl.1 rfl (lv_room (Nat.le_of_ble_eq_true rfl)) dX7_field_56 ⟨Nat.le_of_ble_eq_true rfl, Nat.le_of_ble_eq_true rfl⟩) hS (fun q _ h => hFc q h) hFc (fun r_9 u_9 t H1 locs ht hvm e_9 hB hz1 hk1 hS => ?_)
            try dsimp only at e_9
            have hP := zz_keep hP hk1
            clear hk1 hB ht hvm
            generalize H1 = H at hP hS ⊢
            have hP : va_P (dC, dI) vwCl ([(a 0, .inr (7, [.ref (a 1), .ref (a 10), .ref (a 23), .ref (a 24), .ref (a 26), .ref (a 29), .ref (a 34), .ref (a 43), .int (nI nh), .int (nI nf), .int clk, .int hi])), (a 1, .inl (cH, 8, .inr (.inr (.inr (.inr fH))))), (a 10, .inl (cF, 12, .inr (.inr (.inr (.inr fF)))))] ++ va_pl L (zz_F K V)) H := hP
            have hD : va_D A ([(a 0, .inr (7, [.ref (a 1), .ref (a 10), .ref (a 23), .ref (a 24), .ref (a 26), .ref (a 29), .ref (a 34), .ref (a 43), .int (nI nh), .int (nI nf), .int clk, .int hi])), (a 1, .inl (cH, 8, .inr (.inr (.inr (.inr fH))))), (a 10, .inl (cF, 12, .inr (.inr (.inr (.inr fF)))))] ++ va_pl L (zz_F K V)) := hD
            refine lv_if_ne (tgt := 64) hx hb dX7_field_59 (by decide) (fun c_10 => ?_) (fun c_10 => ?_)
            · have zc_10 := c_10
              rw [e_9, zz_in0, Int32.le_iff_toInt_le, Int32.le_iff_toInt_le] at zc_10
              try rw [show (0 : Int32).toInt = 0 from by decide] at zc_10
              try rw [show (10000 : Int32).toInt = 10000 from by decide] at zc_10
              refine lv_aload_n hx hb dX7_field_64 rfl (lv_at hl 0 rfl) ?_
              refine va_get (D := (dC, dI)) (ci := 7) (v := .ref (a 10)) (C := RX7) (T := TX7) (N := 12) hx hb hw zz_inX7 hown hK hP 0 rfl rfl 1 (by decide) (hw _ tw_7) (fun _ h9 => h9) rfl dX7_field_65 ?_
              refine lv_aload_n hx hb dX7_field_68 rfl (lv_at hl 0 rfl) ?_
              refine va_get (D := (dC, dI)) (ci := 7) (v := .int (nI nf)) (C := RX7) (T := TX7) (N := 12) hx hb hw zz_inX7 hown hK hP 0 rfl rfl 9 (by decide) (hw _ tw_6) (fun _ h9 => h9) rfl dX7_field_69 ?_
              refine va_aldq hx hb hK hP 2 1 rfl rfl (vp_in_iff.mpr (by rw [zz_toInt nf (by omega)]; constructor <;> omega)) dX7_field_72 ?_
              refine zz_setv (.ref (a (11 + nf))) (by rw [zz_cl (by omega)]; exact congrArg va_rf (hfF nf (by omega))) ?_
              refine lv_astore (lv' := [(6, .ref (a (11 + nf))), (0, .ref (a 0)), (1, .int p0), (2, .int p1), (3, .int p2), (4, .int p3), (5, .int p4)]) hx hb dX7_field_73 hl (by decide) rfl (fun ls hl => ?_)
              refine lv_aload hx hb dX7_field_75 (lv_at hl 0 rfl) ?_
              refine lv_iload_n hx hb dX7_field_77 rfl (lv_at hl 2 rfl) ?_
              obtain ⟨kq_11, hq_11⟩ := zz_pg3 (X := [(a 0, .inr (7, [.ref (a 1), .ref (a 10), .ref (a 23), .ref (a 24), .ref (a 26), .ref (a 29), .ref (a 34), .ref (a 43), .int (nI nh), .int (nI nf), .int clk, .int hi])), (a 1, .inl (cH, 8, .inr (.inr (.inr (.inr fH))))), (a 10, .inl (cF, 12, .inr (.inr (.inr (.inr fF)))))]) (V := V) (hF nf (by omega)).1 (hF nf (by omega)).2
              have hDo := hD
              refine va_putN (D := (dC, dI)) (ci := 3) (v := .int p0) (ty := .int) (C := RX3) (T := TX3) (N := 7) hx hb hw zz_inX3 tyX3 tyX3_ok nmX3 hown hK hP hD hS kq_11 hq_11 rfl 0 (by decide) (hN.use zz_n11) (fun _ h9 => h9) rfl (by decide +kernel) rfl rfl (Nat.le_of_ble_eq_true rfl) dX7_field_78 (fun H locs hP hD hS => ?_)
              have hP : va_P (dC, dI) vwCl (List.set (α := Nat × va_E) ([(a 0, .inr (7, [.ref (a 1), .ref (a 10), .ref (a 23), .ref (a 24), .ref (a 26), .ref (a 29), .ref (a 34), .ref (a 43), .int (nI nh), .int (nI nf), .int clk, .int hi])), (a 1, .inl (cH, 8, .inr (.inr (.inr (.inr fH))))), (a 10, .inl (cF, 12, .inr (.inr (.inr (.inr fF)))))] ++ va_pl L (zz_F K V)) kq_11 (a (11 + nf), .inr (3, [.int p0, .int (V (a (11 + nf)) 1), .int (V (a (11 + nf)) 2), .int (V (a (11 + nf)) 3), .int (V (a (11 + nf)) 4), .int (V (a (11 + nf)) 5), .int (V (a (11 + nf)) 6)]))) H := hP
              have hD : va_D A (List.set (α := Nat × va_E) ([(a 0, .inr (7, [.ref (a 1), .ref (a 10), .ref (a 23), .ref (a 24), .ref (a 26), .ref (a 29), .ref (a 34), .ref (a 43), .int (nI nh), .int (nI nf), .int clk, .int hi])), (a 1, .inl (cH, 8, .inr (.inr (.inr (.inr fH))))), (a 10, .inl (cF, 12, .inr (.inr (.inr (.inr fF)))))] ++ va_pl L (zz_F K V)) kq_11 (a (11 + nf), .inr (3, [.int p0, .int (V (a (11 + nf)) 1), .int (V (a (11 + nf)) 2), .int (V (a (11 + nf)) 3), .int (V (a (11 + nf)) 4), .int (V (a (11 + nf)) 5), .int (V (a (11 + nf)) 6)]))) := hD
              rw [zz_ps3_0 hDo (hF nf (by omega)).1 (hF nf (by omega)).2 hq_11] at hP hD
              have hP : va_P (dC, dI) vwCl ([(a 0, .inr (7, [.ref (a 1), .ref (a 10), .ref (a 23), .ref (a 24), .ref (a 26), .ref (a 29), .ref (a 34), .ref (a 43), .int (nI nh), .int (nI nf), .int clk, .int hi])), (a 1, .inl (cH, 8, .inr (.inr (.inr (.inr fH))))), (a 10, .inl (cF, 12, .inr (.inr (.inr (.inr fF)))))] ++ va_pl L (zz_F K (zz_put V (a (11 + nf)) 0 p0))) H := hP
              have hD : va_D A ([(a 0, .inr (7, [.ref (a 1), .ref (a 10), .ref (a 23), .ref (a 24), .ref (a 26), .ref (a 29), .ref (a 34), .ref (a 43), .int (nI nh), .int (nI nf), .int clk, .int hi])), (a 1, .inl (cH, 8, .inr (.inr (.inr (.inr fH))))), (a 10, .inl (cF, 12, .inr (.inr (.inr (.inr fF)))))] ++ va_pl L (zz_F K (zz_put V (a (11 + nf)) 0 p0))) := hD
              refine lv_aload hx hb dX7_field_81 (lv_at hl 0 rfl) ?_
              refine lv_iload_n hx hb dX7_field_83 rfl (lv_at hl 3 rfl) ?_
              obtain ⟨kq_12, hq_12⟩ := zz_pg3 (X := [(a 0, .inr (7, [.ref (a 1), .ref (a 10), .ref (a 23), .ref (a 24), .ref (a 26), .ref (a 29), .ref (a 34), .ref (a 43), .int (nI nh), .int (nI nf), .int clk, .int hi])), (a 1, .inl (cH, 8, .inr (.inr (.inr (.inr fH))))), (a 10, .inl (cF, 12, .inr (.inr (.inr (.inr fF)))))]) (V := (zz_put V (a (11 + nf)) 0 p0)) (hF nf (by omega)).1 (hF nf (by omega)).2
              have hDo := hD
              refine va_putN (D := (dC, dI)) (ci := 3) (v := .int p1) (ty := .int) (C := RX3) (T := TX3) (N := 7) hx hb hw zz_inX3 tyX3 tyX3_ok nmX3 hown hK hP hD hS kq_12 hq_12 rfl 1 (by decide) (hN.use zz_n12) (fun _ h9 => h9) rfl (by decide +kernel) rfl rfl (Nat.le_of_ble_eq_true rfl) dX7_field_84 (fun H locs hP hD hS => ?_)
              have hP : va_P (dC, dI) vwCl (List.set (α := Nat × va_E) ([(a 0, .inr (7, [.ref (a 1), .ref (a 10), .ref (a 23), .ref (a 24), .ref (a 26), .ref (a 29), .ref (a 34), .ref (a 43), .int (nI nh), .int (nI nf), .int clk, .int hi])), (a 1, .inl (cH, 8, .inr (.inr (.inr (.inr fH))))), (a 10, .inl (cF, 12, .inr (.inr (.inr (.inr fF)))))] ++ va_pl L (zz_F K (zz_put V (a (11 + nf)) 0 p0))) kq_12 (a (11 + nf), .inr (3, [.int ((zz_put V (a (11 + nf)) 0 p0) (a (11 + nf)) 0), .int p1, .int ((zz_put V (a (11 + nf)) 0 p0) (a (11 + nf)) 2), .int ((zz_put V (a (11 + nf)) 0 p0) (a (11 + nf)) 3), .int ((zz_put V (a (11 + nf)) 0 p0) (a (11 + nf)) 4), .int ((zz_put V (a (11 + nf)) 0 p0) (a (11 + nf)) 5), .int ((zz_put V (a (11 + nf)) 0 p0) (a (11 + nf)) 6)]))) H := hP
              have hD : va_D A (List.set (α := Nat × va_E) ([(a 0, .inr (7, [.ref (a 1), .ref (a 10), .ref (a 23), .ref (a 24), .ref (a 26), .ref (a 29), .ref (a 34), .ref (a 43), .int (nI nh), .int (nI nf), .int clk, .int hi])), (a 1, .inl (cH, 8, .inr (.inr (.inr (.inr fH))))), (a 10, .inl (cF, 12, .inr (.inr (.inr (.inr fF)))))] ++ va_pl L (zz_F K (zz_put V (a (11 + nf)) 0 p0))) kq_12 (a (11 + nf), .inr (3, [.int ((zz_put V (a (11 + nf)) 0 p0) (a (11 + nf)) 0), .int p1, .int ((zz_put V (a (11 + nf)) 0 p0) (a (11 + nf)) 2), .int ((zz_put V (a (11 + nf)) 0 p0) (a (11 + nf)) 3), .int ((zz_put V (a (11 + nf)) 0 p0) (a (11 + nf)) 4), .int ((zz_put V (a (11 + nf)) 0 p0) (a (11 + nf)) 5), .int ((zz_put V (a (11 + nf)) 0 p0) (a (11 + nf)) 6)]))) := hD
              rw [zz_ps3_1 hDo (hF nf (by omega)).1 (hF nf (by omega)).2 hq_12] at hP hD
              have hP : va_P (dC, dI) vwCl ([(a 0, .inr (7, [.ref (a 1), .ref (a 10), .ref (a 23), .ref (a 24), .ref (a 26), .ref (a 29), .ref (a 34), .ref (a 43), .int (nI nh), .int (nI nf), .int clk, .int hi])), (a 1, .inl (cH, 8, .inr (.inr (.inr (.inr fH))))), (a 10, .inl (cF, 12, .inr (.inr (.inr (.inr fF)))))] ++ va_pl L (zz_F K (zz_put (zz_put V (a (11 + nf)) 0 p0) (a (11 + nf)) 1 p1))) H := hP
              have hD : va_D A ([(a 0, .inr (7, [.ref (a 1), .ref (a 10), .ref (a 23), .ref (a 24), .ref (a 26), .ref (a 29), .ref (a 34), .ref (a 43), .int (nI nh), .int (nI nf), .int clk, .int hi])), (a 1, .inl (cH, 8, .inr (.inr (.inr (.inr fH))))), (a 10, .inl (cF, 12, .inr (.inr (.inr (.inr fF)))))] ++ va_pl L (zz_F K (zz_put (zz_put V (a (11 + nf)) 0 p0) (a (11 + nf)) 1 p1))) := hD
              refine lv_aload hx hb dX7_field_87 (lv_at hl 0 rfl) ?_
              refine lv_iload_n hx hb dX7_field_89 rfl (lv_at hl 4 rfl) ?_
              obtain ⟨kq_13, hq_13⟩ := zz_pg3 (X := [(a 0, .inr (7, [.ref (a 1), .ref (a 10), .ref (a 23), .ref (a 24), .ref (a 26), .ref (a 29), .ref (a 34), .ref (a 43), .int (nI nh), .int (nI nf), .int clk, .int hi])), (a 1, .inl (cH, 8, .inr (.inr (.inr (.inr fH))))), (a 10, .inl (cF, 12, .inr (.inr (.inr (.inr fF)))))]) (V := (zz_put (zz_put V (a (11 + nf)) 0 p0) (a (11 + nf)) 1 p1)) (hF nf (by omega)).1 (hF nf (by omega)).2
              have hDo := hD
              refine va_putN (D := (dC, dI)) (ci := 3) (v := .int p2) (ty := .int) (C := RX3) (T := TX3) (N := 7) hx hb hw zz_inX3 tyX3 tyX3_ok nmX3 hown hK hP hD hS kq_13 hq_13 rfl 2 (by decide) (hN.use zz_n13) (fun _ h9 => h9) rfl (by decide +kernel) rfl rfl (Nat.le_of_ble_eq_true rfl) dX7_field_90 (fun H locs hP hD hS => ?_)
              have hP : va_P (dC, dI) vwCl (List.set (α := Nat × va_E) ([(a 0, .inr (7, [.ref (a 1), .ref (a 10), .ref (a 23), .ref (a 24), .ref (a 26), .ref (a 29), .ref (a 34), .ref (a 43), .int (nI nh), .int (nI nf), .int clk, .int hi])), (a 1, .inl (cH, 8, .inr (.inr (.inr (.inr fH))))), (a 10, .inl (cF, 12, .inr (.inr (.inr (.inr fF)))))] ++ va_pl L (zz_F K (zz_put (zz_put V (a (11 + nf)) 0 p0) (a (11 + nf)) 1 p1))) kq_13 (a (11 + nf), .inr (3, [.int ((zz_put (zz_put V (a (11 + nf)) 0 p0) (a (11 + nf)) 1 p1) (a (11 + nf)) 0), .int ((zz_put (zz_put V (a (11 + nf)) 0 p0) (a (11 + nf)) 1 p1) (a (11 + nf)) 1), .int p2, .int ((zz_put (zz_put V (a (11 + nf)) 0 p0) (a (11 + nf)) 1 p1) (a (11 + nf)) 3), .int ((zz_put (zz_put V (a (11 + nf)) 0 p0) (a (11 + nf)) 1 p1) (a (11 + nf)) 4), .int ((zz_put (zz_put V (a (11 + nf)) 0 p0) (a (11 + nf)) 1 p1) (a (11 + nf)) 5), .int ((zz_put (zz_put V (a (11 + nf)) 0 p0) (a (11 + nf)) 1 p1) (a (11 + nf)) 6)]))) H := hP
              have hD : va_D A (List.set (α := Nat × va_E) ([(a 0, .inr (7, [.ref (a 1), .ref (a 10), .ref (a 23), .ref (a 24), .ref (a 26), .ref (a 29), .ref (a 34), .ref (a 43), .int (nI nh), .int (nI nf), .int clk, .int hi])), (a 1, .inl (cH, 8, .inr (.inr (.inr (.inr fH))))), (a 10, .inl (cF, 12, .inr (.inr (.inr (.inr fF)))))] ++ va_pl L (zz_F K (zz_put (zz_put V (a (11 + nf)) 0 p0) (a (11 + nf)) 1 p1))) kq_13 (a (11 + nf), .inr (3, [.int ((zz_put (zz_put V (a (11 + nf)) 0 p0) (a (11 + nf)) 1 p1) (a (11 + nf)) 0), .int ((zz_put (zz_put V (a (11 + nf)) 0 p0) (a (11 + nf)) 1 p1) (a (11 + nf)) 1), .int p2, .int ((zz_put (zz_put V (a (11 + nf)) 0 p0) (a (11 + nf)) 1 p1) (a (11 + nf)) 3), .int ((zz_put (zz_put V (a (11 + nf)) 0 p0) (a (11 + nf)) 1 p1) (a (11 + nf)) 4), .int ((zz_put (zz_put V (a (11 + nf)) 0 p0) (a (11 + nf)) 1 p1) (a (11 + nf)) 5), .int ((zz_put (zz_put V (a (11 + nf)) 0 p0) (a (11 + nf)) 1 p1) (a (11 + nf)) 6)]))) := hD
              rw [zz_ps3_2 hDo (hF nf (by omega)).1 (hF nf (by omega)).2 hq_13] at hP hD
              have hP : va_P (dC, dI) vwCl ([(a 0, .inr (7, [.ref (a 1), .ref (a 10), .ref (a 23), .ref (a 24), .ref (a 26), .ref (a 29), .ref (a 34), .ref (a 43), .int (nI nh), .int (nI nf), .int clk, .int hi])), (a 1, .inl (cH, 8, .inr (.inr (.inr (.inr fH))))), (a 10, .inl (cF, 12, .inr (.inr (.inr (.inr fF)))))] ++ va_pl L (zz_F K (zz_put (zz_put (zz_put V (a (11 + nf)) 0 p0) (a (11 + nf)) 1 p1) (a (11 + nf)) 2 p2))) H := hP
              have hD : va_D A ([(a 0, .inr (7, [.ref (a 1), .ref (a 10), .ref (a 23), .ref (a 24), .ref (a 26), .ref (a 29), .ref (a 34), .ref (a 43), .int (nI nh), .int (nI nf), .int clk, .int hi])), (a 1, .inl (cH, 8, .inr (.inr (.inr (.inr fH))))), (a 10, .inl (cF, 12, .inr (.inr (.inr (.inr fF)))))] ++ va_pl L (zz_F K (zz_put (zz_put (zz_put V (a (11 + nf)) 0 p0) (a (11 + nf)) 1 p1) (a (11 + nf)) 2 p2))) := hD
              refine lv_aload hx hb dX7_field_93 (lv_at hl 0 rfl) ?_
              refine lv_iload hx hb dX7_field_95 (lv_at hl 5 rfl) ?_
              obtain ⟨kq_14, hq_14⟩ := zz_pg3 (X := [(a 0, .inr (7, [.ref (a 1), .ref (a 10), .ref (a 23), .ref (a 24), .ref (a 26), .ref (a 29), .ref (a 34), .ref (a 43), .int (nI nh), .int (nI nf), .int clk, .int hi])), (a 1, .inl (cH, 8, .inr (.inr (.inr (.inr fH))))), (a 10, .inl (cF, 12, .inr (.inr (.inr (.inr fF)))))]) (V := (zz_put (zz_put (zz_put V (a (11 + nf)) 0 p0) (a (11 + nf)) 1 p1) (a (11 + nf)) 2 p2)) (hF nf (by omega)).1 (hF nf (by omega)).2
              have hDo := hD
              refine va_putN (D := (dC, dI)) (ci := 3) (v := .int p3) (ty := .int) (C := RX3) (T := TX3) (N := 7) hx hb hw zz_inX3 tyX3 tyX3_ok nmX3 hown hK hP hD hS kq_14 hq_14 rfl 3 (by decide) (hN.use zz_n16) (fun _ h9 => h9) rfl (by decide +kernel) rfl rfl (Nat.le_of_ble_eq_true rfl) dX7_field_97 (fun H locs hP hD hS => ?_)
              have hP : va_P (dC, dI) vwCl (List.set (α := Nat × va_E) ([(a 0, .inr (7, [.ref (a 1), .ref (a 10), .ref (a 23), .ref (a 24), .ref (a 26), .ref (a 29), .ref (a 34), .ref (a 43), .int (nI nh), .int (nI nf), .int clk, .int hi])), (a 1, .inl (cH, 8, .inr (.inr (.inr (.inr fH))))), (a 10, .inl (cF, 12, .inr (.inr (.inr (.inr fF)))))] ++ va_pl L (zz_F K (zz_put (zz_put (zz_put V (a (11 + nf)) 0 p0) (a (11 + nf)) 1 p1) (a (11 + nf)) 2 p2))) kq_14 (a (11 + nf), .inr (3, [.int ((zz_put (zz_put (zz_put V (a (11 + nf)) 0 p0) (a (11 + nf)) 1 p1) (a (11 + nf)) 2 p2) (a (11 + nf)) 0), .int ((zz_put (zz_put (zz_put V (a (11 + nf)) 0 p0) (a (11 + nf)) 1 p1) (a (11 + nf)) 2 p2) (a (11 + nf)) 1), .int ((zz_put (zz_put (zz_put V (a (11 + nf)) 0 p0) (a (11 + nf)) 1 p1) (a (11 + nf)) 2 p2) (a (11 + nf)) 2), .int p3, .int ((zz_put (zz_put (zz_put V (a (11 + nf)) 0 p0) (a (11 + nf)) 1 p1) (a (11 + nf)) 2 p2) (a (11 + nf)) 4), .int ((zz_put (zz_put (zz_put V (a (11 + nf)) 0 p0) (a (11 + nf)) 1 p1) (a (11 + nf)) 2 p2) (a (11 + nf)) 5), .int ((zz_put (zz_put (zz_put V (a (11 + nf)) 0 p0) (a (11 + nf)) 1 p1) (a (11 + nf)) 2 p2) (a (11 + nf)) 6)]))) H := hP
              have hD : va_D A (List.set (α := Nat × va_E) ([(a 0, .inr (7, [.ref (a 1), .ref (a 10), .ref (a 23), .ref (a 24), .ref (a 26), .ref (a 29), .ref (a 34), .ref (a 43), .int (nI nh), .int (nI nf), .int clk, .int hi])), (a 1, .inl (cH, 8, .inr (.inr (.inr (.inr fH))))), (a 10, .inl (cF, 12, .inr (.inr (.inr (.inr fF)))))] ++ va_pl L (zz_F K (zz_put (zz_put (zz_put V (a (11 + nf)) 0 p0) (a (11 + nf)) 1 p1) (a (11 + nf)) 2 p2))) kq_14 (a (11 + nf), .inr (3, [.int ((zz_put (zz_put (zz_put V (a (11 + nf)) 0 p0) (a (11 + nf)) 1 p1) (a (11 + nf)) 2 p2) (a (11 + nf)) 0), .int ((zz_put (zz_put (zz_put V (a (11 + nf)) 0 p0) (a (11 + nf)) 1 p1) (a (11 + nf)) 2 p2) (a (11 + nf)) 1), .int ((zz_put (zz_put (zz_put V (a (11 + nf)) 0 p0) (a (11 + nf)) 1 p1) (a (11 + nf)) 2 p2) (a (11 + nf)) 2), .int p3, .int ((zz_put (zz_put (zz_put V (a (11 + nf)) 0 p0) (a (11 + nf)) 1 p1) (a (11 + nf)) 2 p2) (a (11 + nf)) 4), .int ((zz_put (zz_put (zz_put V (a (11 + nf)) 0 p0) (a (11 + nf)) 1 p1) (a (11 + nf)) 2 p2) (a (11 + nf)) 5), .int ((zz_put (zz_put (zz_put V (a (11 + nf)) 0 p0) (a (11 + nf)) 1 p1) (a (11 + nf)) 2 p2) (a (11 + nf)) 6)]))) := hD
              rw [zz_ps3_3 hDo (hF nf (by omega)).1 (hF nf (by omega)).2 hq_14] at hP hD
              have hP : va_P (dC, dI) vwCl ([(a 0, .inr (7, [.ref (a 1), .ref (a 10), .ref (a 23), .ref (a 24), .ref (a 26), .ref (a 29), .ref (a 34), .ref (a 43), .int (nI nh), .int (nI nf), .int clk, .int hi])), (a 1, .inl (cH, 8, .inr (.inr (.inr (.inr fH))))), (a 10, .inl (cF, 12, .inr (.inr (.inr (.inr fF)))))] ++ va_pl L (zz_F K (zz_put (zz_put (zz_put (zz_put V (a (11 + nf)) 0 p0) (a (11 + nf)) 1 p1) (a (11 + nf)) 2 p2) (a (11 + nf)) 3 p3))) H := hP
              have hD : va_D A ([(a 0, .inr (7, [.ref (a 1), .ref (a 10), .ref (a 23), .ref (a 24), .ref (a 26), .ref (a 29), .ref (a 34), .ref (a 43), .int (nI nh), .int (nI nf), .int clk, .int hi])), (a 1, .inl (cH, 8, .inr (.inr (.inr (.inr fH))))), (a 10, .inl (cF, 12, .inr (.inr (.inr (.inr fF)))))] ++ va_pl L (zz_F K (zz_put (zz_put (zz_put (zz_put V (a (11 + nf)) 0 p0) (a (11 + nf)) 1 p1) (a (11 + nf)) 2 p2) (a (11 + nf)) 3 p3))) := hD
              refine lv_aload hx hb dX7_field_100 (lv_at hl 0 rfl) ?_
              refine lv_iload hx hb dX7_field_102 (lv_at hl 6 rfl) ?_
              obtain ⟨kq_15, hq_15⟩ := zz_pg3 (X := [(a 0, .inr (7, [.ref (a 1), .ref (a 10), .ref (a 23), .ref (a 24), .ref (a 26), .ref (a 29), .ref (a 34), .ref (a 43), .int (nI nh), .int (nI nf), .int clk, .int hi])), (a 1, .inl (cH, 8, .inr (.inr (.inr (.inr fH))))), (a 10, .inl (cF, 12, .inr (.inr (.inr (.inr fF)))))]) (V := (zz_put (zz_put (zz_put (zz_put V (a (11 + nf)) 0 p0) (a (11 + nf)) 1 p1) (a (11 + nf)) 2 p2) (a (11 + nf)) 3 p3)) (hF nf (by omega)).1 (hF nf (by omega)).2
              have hDo := hD
              refine va_putN (D := (dC, dI)) (ci := 3) (v := .int p4) (ty := .int) (C := RX3) (T := TX3) (N := 7) hx hb hw zz_inX3 tyX3 tyX3_ok nmX3 hown hK hP hD hS kq_15 hq_15 rfl 4 (by decide) (hN.use zz_n17) (fun _ h9 => h9) rfl (by decide +kernel) rfl rfl (Nat.le_of_ble_eq_true rfl) dX7_field_104 (fun H locs hP hD hS => ?_)
              have hP : va_P (dC, dI) vwCl (List.set (α := Nat × va_E) ([(a 0, .inr (7, [.ref (a 1), .ref (a 10), .ref (a 23), .ref (a 24), .ref (a 26), .ref (a 29), .ref (a 34), .ref (a 43), .int (nI nh), .int (nI nf), .int clk, .int hi])), (a 1, .inl (cH, 8, .inr (.inr (.inr (.inr fH))))), (a 10, .inl (cF, 12, .inr (.inr (.inr (.inr fF)))))] ++ va_pl L (zz_F K (zz_put (zz_put (zz_put (zz_put V (a (11 + nf)) 0 p0) (a (11 + nf)) 1 p1) (a (11 + nf)) 2 p2) (a (11 + nf)) 3 p3))) kq_15 (a (11 + nf), .inr (3, [.int ((zz_put (zz_put (zz_put (zz_put V (a (11 + nf)) 0 p0) (a (11 + nf)) 1 p1) (a (11 + nf)) 2 p2) (a (11 + nf)) 3 p3) (a (11 + nf)) 0), .int ((zz_put (zz_put (zz_put (zz_put V (a (11 + nf)) 0 p0) (a (11 + nf)) 1 p1) (a (11 + nf)) 2 p2) (a (11 + nf)) 3 p3) (a (11 + nf)) 1), .int ((zz_put (zz_put (zz_put (zz_put V (a (11 + nf)) 0 p0) (a (11 + nf)) 1 p1) (a (11 + nf)) 2 p2) (a (11 + nf)) 3 p3) (a (11 + nf)) 2), .int ((zz_put (zz_put (zz_put (zz_put V (a (11 + nf)) 0 p0) (a (11 + nf)) 1 p1) (a (11 + nf)) 2 p2) (a (11 + nf)) 3 p3) (a (11 + nf)) 3), .int p4, .int ((zz_put (zz_put (zz_put (zz_put V (a (11 + nf)) 0 p0) (a (11 + nf)) 1 p1) (a (11 + nf)) 2 p2) (a (11 + nf)) 3 p3) (a (11 + nf)) 5), .int ((zz_put (zz_put (zz_put (zz_put V (a (11 + nf)) 0 p0) (a (11 + nf)) 1 p1) (a (11 + nf)) 2 p2) (a (11 + nf)) 3 p3) (a (11 + nf)) 6)]))) H := hP
              have hD : va_D A (List.set (α := Nat × va_E) ([(a 0, .inr (7, [.ref (a 1), .ref (a 10), .ref (a 23), .ref (a 24), .ref (a 26), .ref (a 29), .ref (a 34), .ref (a 43), .int (nI nh), .int (nI nf), .int clk, .int hi])), (a 1, .inl (cH, 8, .inr (.inr (.inr (.inr fH))))), (a 10, .inl (cF, 12, .inr (.inr (.inr (.inr fF)))))] ++ va_pl L (zz_F K (zz_put (zz_put (zz_put (zz_put V (a (11 + nf)) 0 p0) (a (11 + nf)) 1 p1) (a (11 + nf)) 2 p2) (a (11 + nf)) 3 p3))) kq_15 (a (11 + nf), .inr (3, [.int ((zz_put (zz_put (zz_put (zz_put V (a (11 + nf)) 0 p0) (a (11 + nf)) 1 p1) (a (11 + nf)) 2 p2) (a (11 + nf)) 3 p3) (a (11 + nf)) 0), .int ((zz_put (zz_put (zz_put (zz_put V (a (11 + nf)) 0 p0) (a (11 + nf)) 1 p1) (a (11 + nf)) 2 p2) (a (11 + nf)) 3 p3) (a (11 + nf)) 1), .int ((zz_put (zz_put (zz_put (zz_put V (a (11 + nf)) 0 p0) (a (11 + nf)) 1 p1) (a (11 + nf)) 2 p2) (a (11 + nf)) 3 p3) (a (11 + nf)) 2), .int ((zz_put (zz_put (zz_put (zz_put V (a (11 + nf)) 0 p0) (a (11 + nf)) 1 p1) (a (11 + nf)) 2 p2) (a (11 + nf)) 3 p3) (a (11 + nf)) 3), .int p4, .int ((zz_put (zz_put (zz_put (zz_put V (a (11 + nf)) 0 p0) (a (11 + nf)) 1 p1) (a (11 + nf)) 2 p2) (a (11 + nf)) 3 p3) (a (11 + nf)) 5), .int ((zz_put (zz_put (zz_put (zz_put V (a (11 + nf)) 0 p0) (a (11 + nf)) 1 p1) (a (11 + nf)) 2 p2) (a (11 + nf)) 3 p3) (a (11 + nf)) 6)]))) := hD
              rw [zz_ps3_4 hDo (hF nf (by omega)).1 (hF nf (by omega)).2 hq_15] at hP hD
              have hP : va_P (dC, dI) vwCl ([(a 0, .inr (7, [.ref (a 1), .ref (a 10), .ref (a 23), .ref (a 24), .ref (a 26), .ref (a 29), .ref (a 34), .ref (a 43), .int (nI nh), .int (nI nf), .int clk, .int hi])), (a 1, .inl (cH, 8, .inr (.inr (.inr (.inr fH))))), (a 10, .inl (cF, 12, .inr (.inr (.inr (.inr fF)))))] ++ va_pl L (zz_F K (zz_put (zz_put (zz_put (zz_put (zz_put V (a (11 + nf)) 0 p0) (a (11 + nf)) 1 p1) (a (11 + nf)) 2 p2) (a (11 + nf)) 3 p3) (a (11 + nf)) 4 p4))) H := hP
              have hD : va_D A ([(a 0, .inr (7, [.ref (a 1), .ref (a 10), .ref (a 23), .ref (a 24), .ref (a 26), .ref (a 29), .ref (a 34), .ref (a 43), .int (nI nh), .int (nI nf), .int clk, .int hi])), (a 1, .inl (cH, 8, .inr (.inr (.inr (.inr fH))))), (a 10, .inl (cF, 12, .inr (.inr (.inr (.inr fF)))))] ++ va_pl L (zz_F K (zz_put (zz_put (zz_put (zz_put (zz_put V (a (11 + nf)) 0 p0) (a (11 + nf)) 1 p1) (a (11 + nf)) 2 p2) (a (11 + nf)) 3 p3) (a (11 + nf)) 4 p4))) := hD
              refine lv_aload_n hx hb dX7_field_107 rfl (lv_at hl 1 rfl) ?_
              refine lv_dup hx hb dX7_field_108 rfl ?_
              refine va_get (D := (dC, dI)) (ci := 7) (v := .int (nI nf)) (C := RX7) (T := TX7) (N := 12) hx hb hw zz_inX7 hown hK hP 0 rfl rfl 9 (by decide) (hw _ tw_6) (fun _ h9 => h9) rfl dX7_field_109 ?_
              refine lv_iconst (v := 1) hx hb dX7_field_112 (by decide) ?_
              refine lv_iadd hx hb dX7_field_113 ?_
              refine zz_seti (nI (nf + 1)) (nI_1 _) ?_
              refine va_put (D := (dC, dI)) (ci := 7) (v := .int (nI (nf + 1))) (ty := .int) (C := RX7) (T := TX7) (N := 12) hx hb hw zz_inX7 tyX7 tyX7_ok nmX7 hown hK hP hD hS 0 rfl rfl 9 (by decide) (hw _ tw_6) (fun _ h9 => h9) rfl (by decide +kernel) rfl rfl (Nat.le_of_ble_eq_true rfl) dX7_field_114 (fun H locs hP hD hS => ?_)
              have hP : va_P (dC, dI) vwCl ([(a 0, .inr (7, [.ref (a 1), .ref (a 10), .ref (a 23), .ref (a 24), .ref (a 26), .ref (a 29), .ref (a 34), .ref (a 43), .int (nI nh), .int (nI (nf + 1)), .int clk, .int hi])), (a 1, .inl (cH, 8, .inr (.inr (.inr (.inr fH))))), (a 10, .inl (cF, 12, .inr (.inr (.inr (.inr fF)))))] ++ va_pl L (zz_F K (zz_put (zz_put (zz_put (zz_put (zz_put V (a (11 + nf)) 0 p0) (a (11 + nf)) 1 p1) (a (11 + nf)) 2 p2) (a (11 + nf)) 3 p3) (a (11 + nf)) 4 p4))) H := hP
              have hD : va_D A ([(a 0, .inr (7, [.ref (a 1), .ref (a 10), .ref (a 23), .ref (a 24), .ref (a 26), .ref (a 29), .ref (a 34), .ref (a 43), .int (nI nh), .int (nI (nf + 1)), .int clk, .int hi])), (a 1, .inl (cH, 8, .inr (.inr (.inr (.inr fH))))), (a 10, .inl (cF, 12, .inr (.inr (.inr (.inr fF)))))] ++ va_pl L (zz_F K (zz_put (zz_put (zz_put (zz_put (zz_put V (a (11 + nf)) 0 p0) (a (11 + nf)) 1 p1) (a (11 + nf)) 2 p2) (a (11 + nf)) 3 p3) (a (11 + nf)) 4 p4))) := hD
              refine lv_aload_n hx hb dX7_field_117 rfl (lv_at hl 1 rfl) ?_
              refine va_get (D := (dC, dI)) (ci := 7) (v := .int (nI (nf + 1))) (C := RX7) (T := TX7) (N := 12) hx hb hw zz_inX7 hown hK hP 0 rfl rfl 9 (by decide) (hw _ tw_6) (fun _ h9 => h9) rfl dX7_field_118 ?_
              refine lv_iconst (v := 1) hx hb dX7_field_121 (by decide) ?_
              refine lv_isub hx hb dX7_field_122 ?_
              refine zz_seti (nI nf) (nI_pred _) ?_
              have hP9 := hP.part (cx := [(a 0, .inr (7, [.ref (a 1), .ref (a 10), .ref (a 23), .ref (a 24), .ref (a 26), .ref (a 29), .ref (a 34), .ref (a 43), .int (nI nh), .int (nI (nf + 1)), .int clk, .int hi])), (a 1, .inl (cH, 8, .inr (.inr (.inr (.inr fH))))), (a 10, .inl (cF, 12, .inr (.inr (.inr (.inr fF)))))]) [0, 1, 2] rfl
              have hD9 := hD.part (cx := [(a 0, .inr (7, [.ref (a 1), .ref (a 10), .ref (a 23), .ref (a 24), .ref (a 26), .ref (a 29), .ref (a 34), .ref (a 43), .int (nI nh), .int (nI (nf + 1)), .int clk, .int hi])), (a 1, .inl (cH, 8, .inr (.inr (.inr (.inr fH))))), (a 10, .inl (cF, 12, .inr (.inr (.inr (.inr fF)))))]) [0, 1, 2] (by decide) rfl
              have hK9 := hK.sub (tys' := [(cH, .object RX4), (cF, .object RX3)]) [0, 1] rfl
              exact W.iret (v := (nI nf)) hx hb hr (fun t ht hW => ⟨⟨(nI nf), ((nf + 1), (zz_put (zz_put (zz_put (zz_put (zz_put V (a (11 + nf)) 0 p0) (a (11 + nf)) 1 p1) (a (11 + nf)) 2 p2) (a (11 + nf)) 3 p3) (a (11 + nf)) 4 p4)), rfl, (by first | exact Or.inl ⟨by omega, rfl, rfl⟩ | exact Or.inr ⟨by omega, rfl, rfl⟩), by rw [ht]; exact hP9, va_K.moved hW.alike hK9, hD9⟩, hS.F ht⟩) hS.2.2 dX7_field_123
            · have zc_10 := c_10
              rw [e_9, zz_in0, Int32.le_iff_toInt_le, Int32.le_iff_toInt_le] at zc_10
              try rw [show (0 : Int32).toInt = 0 from by decide] at zc_10
              try rw [show (10000 : Int32).toInt = 10000 from by decide] at zc_10
              refine lv_iconst (v := (-1)) hx hb dX7_field_62 (by decide) ?_
              have hP9 := hP.part (cx := [(a 0, .inr (7, [.ref (a 1), .ref (a 10), .ref (a 23), .ref (a 24), .ref (a 26), .ref (a 29), .ref (a 34), .ref (a 43), .int (nI nh), .int (nI nf), .int clk, .int hi])), (a 1, .inl (cH, 8, .inr (.inr (.inr (.inr fH))))), (a 10, .inl (cF, 12, .inr (.inr (.inr (.inr fF)))))]) [0, 1, 2] rfl
              have hD9 := hD.part (cx := [(a 0, .inr (7, [.ref (a 1), .ref (a 10), .ref (a 23), .ref (a 24), .ref (a 26), .ref (a 29), .ref (a 34), .ref (a 43), .int (nI nh), .int (nI nf), .int clk, .int hi])), (a 1, .inl (cH, 8, .inr (.inr (.inr (.inr fH))))), (a 10, .inl (cF, 12, .inr (.inr (.inr (.inr fF)))))]) [0, 1, 2] (by decide) rfl
              have hK9 := hK.sub (tys' := [(cH, .object RX4), (cF, .object RX3)]) [0, 1] rfl
              exact W.iret (v := (-1)) hx hb hr (fun t ht hW => ⟨⟨(-1), (nf, V), rfl, (by first | exact Or.inl ⟨by omega, rfl, rfl⟩ | exact Or.inr ⟨by omega, rfl, rfl⟩), by rw [ht]; exact hP9, va_K.moved hW.alike hK9, hD9⟩, hS.F ht⟩) hS.2.2 dX7_field_63
    · have zc_2 := c_2
      rw [Int32.lt_iff_toInt_lt] at zc_2
      try rw [zz_toInt nf (by omega)] at zc_2
      try rw [show (12 : Int32).toInt = 12 from by decide] at zc_2
      refine lv_iconst (v := (-1)) hx hb dX7_field_17 (by decide) ?_
      have hP9 := hP.part (cx := [(a 0, .inr (7, [.ref (a 1), .ref (a 10), .ref (a 23), .ref (a 24), .ref (a 26), .ref (a 29), .ref (a 34), .ref (a 43), .int (nI nh), .int (nI nf), .int clk, .int hi])), (a 1, .inl (cH, 8, .inr (.inr (.inr (.inr fH))))), (a 10, .inl (cF, 12, .inr (.inr (.inr (.inr fF)))))]) [0, 1, 2] rfl
      have hD9 := hD.part (cx := [(a 0, .inr (7, [.ref (a 1), .ref (a 10), .ref (a 23), .ref (a 24), .ref (a 26), .ref (a 29), .ref (a 34), .ref (a 43), .int (nI nh), .int (nI nf), .int clk, .int hi])), (a 1, .inl (cH, 8, .inr (.inr (.inr (.inr fH))))), (a 10, .inl (cF, 12, .inr (.inr (.inr (.inr fF)))))]) [0, 1, 2] (by decide) rfl
      have hK9 := hK.sub (tys' := [(cH, .object RX4), (cF, .object RX3)]) [0, 1] rfl
      exact W.iret (v := (-1)) hx hb hr (fun t ht hW => ⟨⟨(-1), (nf, V), rfl, (by first | exact Or.inl ⟨by omega, rfl, rfl⟩ | exact Or.inr ⟨by omega, rfl, rfl⟩), by rw [ht]; exact hP9, va_K.moved hW.alike hK9, hD9⟩, hS.F ht⟩) hS.2.2 dX7_field_18

set_option maxHeartbeats 4000000 in
set_option maxRecDepth 100000 in
theorem k_workDone (l : Launch) (dC : Nat → ClassId) (dI : Nat → Nat → Nat) (a : Nat → Nat) (nh : Nat) (nf : Nat) (clk : Int32) (hi : Int32) (cH : ClassId) (fH : Nat → Option Nat) (cI : ClassId) (fl : Nat → Int32) (V : Nat → Nat → Int32) (ad : Nat) (p0 : Int32) (L : List Nat) (K : Nat → Nat) (sz : Nat) (hc8 : nh ≤ 8) (hf12 : nf ≤ 12) (hfH : ∀ k, k < 8 → fH k = some (a (2 + k))) (hH : ∀ k, k < 8 → a (2 + k) ∈ L ∧ K (a (2 + k)) = 4) (hm : ad ∈ L) (hk : K ad = 3) : Met l yX7_workDone (zz_w yX7_workDone cX7_workDone 4 (some .int)) ({ frames := 2, cells := 0, slots := 0, locals := 43 }) (va_Pc [.ref (a 0), .ref ad, .int p0] (zz_B (dC, dI) sz ([(a 0, .inr (7, [.ref (a 1), .ref (a 10), .ref (a 23), .ref (a 24), .ref (a 26), .ref (a 29), .ref (a 34), .ref (a 43), .int (nI nh), .int (nI nf), .int clk, .int hi])), (a 1, .inl (cH, 8, .inr (.inr (.inr (.inr fH))))), (a 23, .inl (cI, 10, .inl fl))] ++ va_pl L (zz_F K V)) [(cH, .object RX4), (cI, .int)])) (va_Qi (fun (_ : Int32) (_ : Nat → Nat → Int32) => True) (fun (u0 : Nat → Nat → Int32) (t : State) => va_P (dC, dI) vwCl ([(a 0, .inr (7, [.ref (a 1), .ref (a 10), .ref (a 23), .ref (a 24), .ref (a 26), .ref (a 29), .ref (a 34), .ref (a 43), .int (nI nh), .int (nI nf), .int clk, .int hi])), (a 1, .inl (cH, 8, .inr (.inr (.inr (.inr fH))))), (a 23, .inl (cI, 10, .inl fl))] ++ va_pl L (zz_F K u0)) t.heap ∧ va_K (dC, dI) vwCl [(cH, .object RX4), (cI, .int)] t ∧ va_D (va_A ([(a 0, .inr (7, [.ref (a 1), .ref (a 10), .ref (a 23), .ref (a 24), .ref (a 26), .ref (a 29), .ref (a 34), .ref (a 43), .int (nI nh), .int (nI nf), .int clk, .int hi])), (a 1, .inl (cH, 8, .inr (.inr (.inr (.inr fH))))), (a 23, .inl (cI, 10, .inl fl))] ++ va_pl L (zz_F K V)) sz) ([(a 0, .inr (7, [.ref (a 1), .ref (a 10), .ref (a 23), .ref (a 24), .ref (a 26), .ref (a 29), .ref (a 34), .ref (a 43), .int (nI nh), .int (nI nf), .int clk, .int hi])), (a 1, .inl (cH, 8, .inr (.inr (.inr (.inr fH))))), (a 23, .inl (cI, 10, .inl fl))] ++ va_pl L (zz_F K u0))) (va_A ([(a 0, .inr (7, [.ref (a 1), .ref (a 10), .ref (a 23), .ref (a 24), .ref (a 26), .ref (a 29), .ref (a 34), .ref (a 43), .int (nI nh), .int (nI nf), .int clk, .int hi])), (a 1, .inl (cH, 8, .inr (.inr (.inr (.inr fH))))), (a 23, .inl (cI, 10, .inl fl))] ++ va_pl L (zz_F K V)) sz)) 0 0 (va_A ([(a 0, .inr (7, [.ref (a 1), .ref (a 10), .ref (a 23), .ref (a 24), .ref (a 26), .ref (a 29), .ref (a 34), .ref (a 43), .int (nI nh), .int (nI nf), .int clk, .int hi])), (a 1, .inl (cH, 8, .inr (.inr (.inr (.inr fH))))), (a 23, .inl (cI, 10, .inl fl))] ++ va_pl L (zz_F K V)) sz) := by
  refine Met.ofW (cc := cX7_workDone) (maxL := 4) (ret := (some .int)) (by decide) rfl ?_
  intro p e s m args below meth c s₁ B hml hv
  obtain ⟨rfl, hsz, hP, hK, hD0, hN⟩ := hv
  have hx := B.exec
  have hb := B.bytes
  have hr := B.returns
  have hts := atoms_spec (ws := zz_w yX7_workDone cX7_workDone 4 (some .int)) B.pre
  have hw : ∀ w ∈ zz_all, w.before _ s = true := fun w h => hts w (List.mem_cons_of_mem _ h)
  have hown : s.vm.findClass RX7 = some m.cls := findClass_of_methodNamed B.named
  have hlocks := B.notSynchronized
  subst hsz
  have hD := hD0.self (sz := s.heap.size)
  generalize hAe : va_A ([(a 0, .inr (7, [.ref (a 1), .ref (a 10), .ref (a 23), .ref (a 24), .ref (a 26), .ref (a 29), .ref (a 34), .ref (a 43), .int (nI nh), .int (nI nf), .int clk, .int hi])), (a 1, .inl (cH, 8, .inr (.inr (.inr (.inr fH))))), (a 23, .inl (cI, 10, .inl fl))] ++ va_pl L (zz_F K V)) s.heap.size = A at hD ⊢
  have hA : ∀ q : Nat, s.heap.size ≤ q → A q := fun q h => by rw [← hAe]; exact Or.inr h
  have hS : va_S A s.heap s.heap [] := va_S.rf
  have hP : va_P (dC, dI) vwCl ([(a 0, .inr (7, [.ref (a 1), .ref (a 10), .ref (a 23), .ref (a 24), .ref (a 26), .ref (a 29), .ref (a 34), .ref (a 43), .int (nI nh), .int (nI nf), .int clk, .int hi])), (a 1, .inl (cH, 8, .inr (.inr (.inr (.inr fH))))), (a 23, .inl (cI, 10, .inl fl))] ++ va_pl L (zz_F K V)) s.heap := hP
  have hl := lv_entry ([.ref (a 0), .ref ad, .int p0]) (n := 4) (Nat.le_of_ble_eq_true rfl)
  rw [lg_entry_eq]
  generalize (lg_sl ([.ref (a 0), .ref ad, .int p0]) ++ List.replicate (4 - (lg_sl ([.ref (a 0), .ref ad, .int p0])).length) Slot.unset).toArray = ls at hl ⊢
  have hl : lv_has ls 4 [(0, .ref (a 0)), (1, .ref ad), (2, .int p0)] := hl
  refine lv_aload_n hx hb dX7_workDone_0 rfl (lv_at hl 1 rfl) ?_
  refine lv_dup hx hb dX7_workDone_1 rfl ?_
  obtain ⟨kq_1, hq_1⟩ := zz_pg3 (X := [(a 0, .inr (7, [.ref (a 1), .ref (a 10), .ref (a 23), .ref (a 24), .ref (a 26), .ref (a 29), .ref (a 34), .ref (a 43), .int (nI nh), .int (nI nf), .int clk, .int hi])), (a 1, .inl (cH, 8, .inr (.inr (.inr (.inr fH))))), (a 23, .inl (cI, 10, .inl fl))]) (V := V) hm hk
  have hDo := hD
  refine va_getN (D := (dC, dI)) (ci := 3) (v := .int (V ad 2)) (C := RX3) (T := TX3) (N := 7) hx hb hw zz_inX3 hown hK hP kq_1 hq_1 rfl 2 (by decide) (hN.use zz_n13) (fun _ h9 => h9) rfl dX7_workDone_2 ?_
  refine lv_iload_n hx hb dX7_workDone_5 rfl (lv_at hl 2 rfl) ?_
  refine lv_isub hx hb dX7_workDone_6 ?_
  obtain ⟨kq_2, hq_2⟩ := zz_pg3 (X := [(a 0, .inr (7, [.ref (a 1), .ref (a 10), .ref (a 23), .ref (a 24), .ref (a 26), .ref (a 29), .ref (a 34), .ref (a 43), .int (nI nh), .int (nI nf), .int clk, .int hi])), (a 1, .inl (cH, 8, .inr (.inr (.inr (.inr fH))))), (a 23, .inl (cI, 10, .inl fl))]) (V := V) hm hk
  have hDo := hD
  refine va_putN (D := (dC, dI)) (ci := 3) (v := .int ((V ad 2) - p0)) (ty := .int) (C := RX3) (T := TX3) (N := 7) hx hb hw zz_inX3 tyX3 tyX3_ok nmX3 hown hK hP hD hS kq_2 hq_2 rfl 2 (by decide) (hN.use zz_n13) (fun _ h9 => h9) rfl (by decide +kernel) rfl rfl (Nat.le_of_ble_eq_true rfl) dX7_workDone_7 (fun H locs hP hD hS => ?_)
  have hP : va_P (dC, dI) vwCl (List.set (α := Nat × va_E) ([(a 0, .inr (7, [.ref (a 1), .ref (a 10), .ref (a 23), .ref (a 24), .ref (a 26), .ref (a 29), .ref (a 34), .ref (a 43), .int (nI nh), .int (nI nf), .int clk, .int hi])), (a 1, .inl (cH, 8, .inr (.inr (.inr (.inr fH))))), (a 23, .inl (cI, 10, .inl fl))] ++ va_pl L (zz_F K V)) kq_2 (ad, .inr (3, [.int (V ad 0), .int (V ad 1), .int ((V ad 2) - p0), .int (V ad 3), .int (V ad 4), .int (V ad 5), .int (V ad 6)]))) H := hP
  have hD : va_D A (List.set (α := Nat × va_E) ([(a 0, .inr (7, [.ref (a 1), .ref (a 10), .ref (a 23), .ref (a 24), .ref (a 26), .ref (a 29), .ref (a 34), .ref (a 43), .int (nI nh), .int (nI nf), .int clk, .int hi])), (a 1, .inl (cH, 8, .inr (.inr (.inr (.inr fH))))), (a 23, .inl (cI, 10, .inl fl))] ++ va_pl L (zz_F K V)) kq_2 (ad, .inr (3, [.int (V ad 0), .int (V ad 1), .int ((V ad 2) - p0), .int (V ad 3), .int (V ad 4), .int (V ad 5), .int (V ad 6)]))) := hD
  rw [zz_ps3_2 hDo hm hk hq_2] at hP hD
  have hP : va_P (dC, dI) vwCl ([(a 0, .inr (7, [.ref (a 1), .ref (a 10), .ref (a 23), .ref (a 24), .ref (a 26), .ref (a 29), .ref (a 34), .ref (a 43), .int (nI nh), .int (nI nf), .int clk, .int hi])), (a 1, .inl (cH, 8, .inr (.inr (.inr (.inr fH))))), (a 23, .inl (cI, 10, .inl fl))] ++ va_pl L (zz_F K (zz_put V ad 2 ((V ad 2) - p0)))) H := hP
  have hD : va_D A ([(a 0, .inr (7, [.ref (a 1), .ref (a 10), .ref (a 23), .ref (a 24), .ref (a 26), .ref (a 29), .ref (a 34), .ref (a 43), .int (nI nh), .int (nI nf), .int clk, .int hi])), (a 1, .inl (cH, 8, .inr (.inr (.inr (.inr fH))))), (a 23, .inl (cI, 10, .inl fl))] ++ va_pl L (zz_F K (zz_put V ad 2 ((V ad 2) - p0)))) := hD
  refine lv_aload_n hx hb dX7_workDone_10 rfl (lv_at hl 1 rfl) ?_
  obtain ⟨kq_3, hq_3⟩ := zz_pg3 (X := [(a 0, .inr (7, [.ref (a 1), .ref (a 10), .ref (a 23), .ref (a 24), .ref (a 26), .ref (a 29), .ref (a 34), .ref (a 43), .int (nI nh), .int (nI nf), .int clk, .int hi])), (a 1, .inl (cH, 8, .inr (.inr (.inr (.inr fH))))), (a 23, .inl (cI, 10, .inl fl))]) (V := (zz_put V ad 2 ((V ad 2) - p0))) hm hk
  have hDo := hD
  refine va_getN (D := (dC, dI)) (ci := 3) (v := .int ((zz_put V ad 2 ((V ad 2) - p0)) ad 2)) (C := RX3) (T := TX3) (N := 7) hx hb hw zz_inX3 hown hK hP kq_3 hq_3 rfl 2 (by decide) (hN.use zz_n13) (fun _ h9 => h9) rfl dX7_workDone_11 ?_
  refine lv_if_ne (tgt := 75) hx hb dX7_workDone_14 (by decide) (fun c_4 => ?_) (fun c_4 => ?_)
  · have zc_4 := c_4
    rw [← Int32.toInt_inj] at zc_4
    try rw [show (0 : Int32).toInt = 0 from by decide] at zc_4
    refine lv_aload_n hx hb dX7_workDone_75 rfl (lv_at hl 1 rfl) ?_
    obtain ⟨kq_5, hq_5⟩ := zz_pg3 (X := [(a 0, .inr (7, [.ref (a 1), .ref (a 10), .ref (a 23), .ref (a 24), .ref (a 26), .ref (a 29), .ref (a 34), .ref (a 43), .int (nI nh), .int (nI nf), .int clk, .int hi])), (a 1, .inl (cH, 8, .inr (.inr (.inr (.inr fH))))), (a 23, .inl (cI, 10, .inl fl))]) (V := (zz_put V ad 2 ((V ad 2) - p0))) hm hk
    have hDo := hD
    refine va_getN (D := (dC, dI)) (ci := 3) (v := .int ((zz_put V ad 2 ((V ad 2) - p0)) ad 2)) (C := RX3) (T := TX3) (N := 7) hx hb hw zz_inX3 hown hK hP kq_5 hq_5 rfl 2 (by decide) (hN.use zz_n13) (fun _ h9 => h9) rfl dX7_workDone_76 ?_
    have hP9 := hP.part (cx := [(a 0, .inr (7, [.ref (a 1), .ref (a 10), .ref (a 23), .ref (a 24), .ref (a 26), .ref (a 29), .ref (a 34), .ref (a 43), .int (nI nh), .int (nI nf), .int clk, .int hi])), (a 1, .inl (cH, 8, .inr (.inr (.inr (.inr fH))))), (a 23, .inl (cI, 10, .inl fl))]) [0, 1, 2] rfl
    have hD9 := hD.part (cx := [(a 0, .inr (7, [.ref (a 1), .ref (a 10), .ref (a 23), .ref (a 24), .ref (a 26), .ref (a 29), .ref (a 34), .ref (a 43), .int (nI nh), .int (nI nf), .int clk, .int hi])), (a 1, .inl (cH, 8, .inr (.inr (.inr (.inr fH))))), (a 23, .inl (cI, 10, .inl fl))]) [0, 1, 2] (by decide) rfl
    have hK9 := hK.sub (tys' := [(cH, .object RX4), (cI, .int)]) [0, 1] rfl
    exact W.iret (v := ((zz_put V ad 2 ((V ad 2) - p0)) ad 2)) hx hb hr (fun t ht hW => ⟨⟨((zz_put V ad 2 ((V ad 2) - p0)) ad 2), ((zz_put V ad 2 ((V ad 2) - p0))), rfl, trivial, by rw [ht]; exact hP9, va_K.moved hW.alike hK9, hD9⟩, hS.F ht⟩) hS.2.2 dX7_workDone_79
  · have zc_4 := c_4
    rw [← Int32.toInt_inj] at zc_4
    try rw [show (0 : Int32).toInt = 0 from by decide] at zc_4
    refine lv_aload_n hx hb dX7_workDone_17 rfl (lv_at hl 1 rfl) ?_
    refine lv_aload_n hx hb dX7_workDone_18 rfl (lv_at hl 0 rfl) ?_
    refine va_get (D := (dC, dI)) (ci := 7) (v := .int clk) (C := RX7) (T := TX7) (N := 12) hx hb hw zz_inX7 hown hK hP 0 rfl rfl 10 (by decide) (hw _ tw_39) (fun _ h9 => h9) rfl dX7_workDone_19 ?_
    obtain ⟨kq_6, hq_6⟩ := zz_pg3 (X := [(a 0, .inr (7, [.ref (a 1), .ref (a 10), .ref (a 23), .ref (a 24), .ref (a 26), .ref (a 29), .ref (a 34), .ref (a 43), .int (nI nh), .int (nI nf), .int clk, .int hi])), (a 1, .inl (cH, 8, .inr (.inr (.inr (.inr fH))))), (a 23, .inl (cI, 10, .inl fl))]) (V := (zz_put V ad 2 ((V ad 2) - p0))) hm hk
    have hDo := hD
    refine va_putN (D := (dC, dI)) (ci := 3) (v := .int clk) (ty := .int) (C := RX3) (T := TX3) (N := 7) hx hb hw zz_inX3 tyX3 tyX3_ok nmX3 hown hK hP hD hS kq_6 hq_6 rfl 5 (by decide) (hN.use zz_n19) (fun _ h9 => h9) rfl (by decide +kernel) rfl rfl (Nat.le_of_ble_eq_true rfl) dX7_workDone_22 (fun H locs hP hD hS => ?_)
    have hP : va_P (dC, dI) vwCl (List.set (α := Nat × va_E) ([(a 0, .inr (7, [.ref (a 1), .ref (a 10), .ref (a 23), .ref (a 24), .ref (a 26), .ref (a 29), .ref (a 34), .ref (a 43), .int (nI nh), .int (nI nf), .int clk, .int hi])), (a 1, .inl (cH, 8, .inr (.inr (.inr (.inr fH))))), (a 23, .inl (cI, 10, .inl fl))] ++ va_pl L (zz_F K (zz_put V ad 2 ((V ad 2) - p0)))) kq_6 (ad, .inr (3, [.int ((zz_put V ad 2 ((V ad 2) - p0)) ad 0), .int ((zz_put V ad 2 ((V ad 2) - p0)) ad 1), .int ((zz_put V ad 2 ((V ad 2) - p0)) ad 2), .int ((zz_put V ad 2 ((V ad 2) - p0)) ad 3), .int ((zz_put V ad 2 ((V ad 2) - p0)) ad 4), .int clk, .int ((zz_put V ad 2 ((V ad 2) - p0)) ad 6)]))) H := hP
    have hD : va_D A (List.set (α := Nat × va_E) ([(a 0, .inr (7, [.ref (a 1), .ref (a 10), .ref (a 23), .ref (a 24), .ref (a 26), .ref (a 29), .ref (a 34), .ref (a 43), .int (nI nh), .int (nI nf), .int clk, .int hi])), (a 1, .inl (cH, 8, .inr (.inr (.inr (.inr fH))))), (a 23, .inl (cI, 10, .inl fl))] ++ va_pl L (zz_F K (zz_put V ad 2 ((V ad 2) - p0)))) kq_6 (ad, .inr (3, [.int ((zz_put V ad 2 ((V ad 2) - p0)) ad 0), .int ((zz_put V ad 2 ((V ad 2) - p0)) ad 1), .int ((zz_put V ad 2 ((V ad 2) - p0)) ad 2), .int ((zz_put V ad 2 ((V ad 2) - p0)) ad 3), .int ((zz_put V ad 2 ((V ad 2) - p0)) ad 4), .int clk, .int ((zz_put V ad 2 ((V ad 2) - p0)) ad 6)]))) := hD
    rw [zz_ps3_5 hDo hm hk hq_6] at hP hD
    have hP : va_P (dC, dI) vwCl ([(a 0, .inr (7, [.ref (a 1), .ref (a 10), .ref (a 23), .ref (a 24), .ref (a 26), .ref (a 29), .ref (a 34), .ref (a 43), .int (nI nh), .int (nI nf), .int clk, .int hi])), (a 1, .inl (cH, 8, .inr (.inr (.inr (.inr fH))))), (a 23, .inl (cI, 10, .inl fl))] ++ va_pl L (zz_F K (zz_put (zz_put V ad 2 ((V ad 2) - p0)) ad 5 clk))) H := hP
    have hD : va_D A ([(a 0, .inr (7, [.ref (a 1), .ref (a 10), .ref (a 23), .ref (a 24), .ref (a 26), .ref (a 29), .ref (a 34), .ref (a 43), .int (nI nh), .int (nI nf), .int clk, .int hi])), (a 1, .inl (cH, 8, .inr (.inr (.inr (.inr fH))))), (a 23, .inl (cI, 10, .inl fl))] ++ va_pl L (zz_F K (zz_put (zz_put V ad 2 ((V ad 2) - p0)) ad 5 clk))) := hD
    refine lv_aload_n hx hb dX7_workDone_25 rfl (lv_at hl 1 rfl) ?_
    refine lv_aload_n hx hb dX7_workDone_26 rfl (lv_at hl 1 rfl) ?_
    obtain ⟨kq_7, hq_7⟩ := zz_pg3 (X := [(a 0, .inr (7, [.ref (a 1), .ref (a 10), .ref (a 23), .ref (a 24), .ref (a 26), .ref (a 29), .ref (a 34), .ref (a 43), .int (nI nh), .int (nI nf), .int clk, .int hi])), (a 1, .inl (cH, 8, .inr (.inr (.inr (.inr fH))))), (a 23, .inl (cI, 10, .inl fl))]) (V := (zz_put (zz_put V ad 2 ((V ad 2) - p0)) ad 5 clk)) hm hk
    have hDo := hD
    refine va_getN (D := (dC, dI)) (ci := 3) (v := .int ((zz_put (zz_put V ad 2 ((V ad 2) - p0)) ad 5 clk) ad 4)) (C := RX3) (T := TX3) (N := 7) hx hb hw zz_inX3 hown hK hP kq_7 hq_7 rfl 4 (by decide) (hN.use zz_n17) (fun _ h9 => h9) rfl dX7_workDone_27 ?_
    refine lv_aload_n hx hb dX7_workDone_30 rfl (lv_at hl 0 rfl) ?_
    refine va_get (D := (dC, dI)) (ci := 7) (v := .int clk) (C := RX7) (T := TX7) (N := 12) hx hb hw zz_inX7 hown hK hP 0 rfl rfl 10 (by decide) (hw _ tw_39) (fun _ h9 => h9) rfl dX7_workDone_31 ?_
    refine lv_aload_n hx hb dX7_workDone_34 rfl (lv_at hl 1 rfl) ?_
    obtain ⟨kq_8, hq_8⟩ := zz_pg3 (X := [(a 0, .inr (7, [.ref (a 1), .ref (a 10), .ref (a 23), .ref (a 24), .ref (a 26), .ref (a 29), .ref (a 34), .ref (a 43), .int (nI nh), .int (nI nf), .int clk, .int hi])), (a 1, .inl (cH, 8, .inr (.inr (.inr (.inr fH))))), (a 23, .inl (cI, 10, .inl fl))]) (V := (zz_put (zz_put V ad 2 ((V ad 2) - p0)) ad 5 clk)) hm hk
    have hDo := hD
    refine va_getN (D := (dC, dI)) (ci := 3) (v := .int ((zz_put (zz_put V ad 2 ((V ad 2) - p0)) ad 5 clk) ad 3)) (C := RX3) (T := TX3) (N := 7) hx hb hw zz_inX3 hown hK hP kq_8 hq_8 rfl 3 (by decide) (hN.use zz_n16) (fun _ h9 => h9) rfl dX7_workDone_35 ?_
    refine lv_isub hx hb dX7_workDone_38 ?_
    refine lv_aload_n hx hb dX7_workDone_39 rfl (lv_at hl 0 rfl) ?_
    refine va_get (D := (dC, dI)) (ci := 7) (v := .ref (a 23)) (C := RX7) (T := TX7) (N := 12) hx hb hw zz_inX7 hown hK hP 0 rfl rfl 2 (by decide) (hw _ tw_40) (fun _ h9 => h9) rfl dX7_workDone_40 ?_
    have hPc := hP.sub (ws' := [(a 23, .inl (cI, 10, .inl fl))]) [2] rfl
    have hDc := hD.sub (ws' := [(a 23, .inl (cI, 10, .inl fl))]) [2] (by decide) rfl
    have hKc := hK.sub (tys' := [(cI, .int)]) [1] rfl
    have hFc := zz_free0 hS hA
    refine va_calli (va_runS (As := [.int ((zz_put (zz_put V ad 2 ((V ad 2) - p0)) ad 5 clk) ad 4), .int (clk - ((zz_put (zz_put V ad 2 ((V ad 2) - p0)) ad 5 clk) ad 3)), .ref (a 23)]) (rest := [.ref ad]) ⟨hx, hb, hml, hown, hw⟩ (k_proceedsOf l dC dI a cI fl ((zz_put (zz_put V ad 2 ((V ad 2) - p0)) ad 5 clk) ad 4) (clk - ((zz_put (zz_put V ad 2 ((V ad 2) - p0)) ad 5 clk) ad 3)) H.size) ⟨callB_of 3 hw (zz_good tw_41) rfl rfl rfl (hw _ tw_2) (hw _ tw_42) (by decide +kernel) ⟨Nat.le_of_ble_eq_true rfl, Nat.le_of_ble_eq_true rfl⟩, (hw _ tw_43)⟩ ⟨zz_blind, zz_pre hPc hKc hDc hN⟩ rfl rfl hl.1 rfl (lv_room (Nat.le_of_ble_eq_true rfl)) dX7_workDone_43 ⟨Nat.le_of_ble_eq_true rfl, Nat.le_of_ble_eq_true rfl⟩) hS (fun q _ h => hFc q h) hFc (fun r_9 u_9 t H1 locs ht hvm e_9 hB hz1 hk1 hS => ?_)
    try dsimp only at e_9
    have hP := zz_keep hP hk1
    clear hk1 hB ht hvm
    generalize H1 = H at hP hS ⊢
    have hP : va_P (dC, dI) vwCl ([(a 0, .inr (7, [.ref (a 1), .ref (a 10), .ref (a 23), .ref (a 24), .ref (a 26), .ref (a 29), .ref (a 34), .ref (a 43), .int (nI nh), .int (nI nf), .int clk, .int hi])), (a 1, .inl (cH, 8, .inr (.inr (.inr (.inr fH))))), (a 23, .inl (cI, 10, .inl fl))] ++ va_pl L (zz_F K (zz_put (zz_put V ad 2 ((V ad 2) - p0)) ad 5 clk))) H := hP
    have hD : va_D A ([(a 0, .inr (7, [.ref (a 1), .ref (a 10), .ref (a 23), .ref (a 24), .ref (a 26), .ref (a 29), .ref (a 34), .ref (a 43), .int (nI nh), .int (nI nf), .int clk, .int hi])), (a 1, .inl (cH, 8, .inr (.inr (.inr (.inr fH))))), (a 23, .inl (cI, 10, .inl fl))] ++ va_pl L (zz_F K (zz_put (zz_put V ad 2 ((V ad 2) - p0)) ad 5 clk))) := hD
    obtain ⟨kq_10, hq_10⟩ := zz_pg3 (X := [(a 0, .inr (7, [.ref (a 1), .ref (a 10), .ref (a 23), .ref (a 24), .ref (a 26), .ref (a 29), .ref (a 34), .ref (a 43), .int (nI nh), .int (nI nf), .int clk, .int hi])), (a 1, .inl (cH, 8, .inr (.inr (.inr (.inr fH))))), (a 23, .inl (cI, 10, .inl fl))]) (V := (zz_put (zz_put V ad 2 ((V ad 2) - p0)) ad 5 clk)) hm hk
    have hDo := hD
    refine va_putN (D := (dC, dI)) (ci := 3) (v := .int r_9) (ty := .int) (C := RX3) (T := TX3) (N := 7) hx hb hw zz_inX3 tyX3 tyX3_ok nmX3 hown hK hP hD hS kq_10 hq_10 rfl 6 (by decide) (hN.use zz_n20) (fun _ h9 => h9) rfl (by decide +kernel) rfl rfl (Nat.le_of_ble_eq_true rfl) dX7_workDone_46 (fun H locs hP hD hS => ?_)
    have hP : va_P (dC, dI) vwCl (List.set (α := Nat × va_E) ([(a 0, .inr (7, [.ref (a 1), .ref (a 10), .ref (a 23), .ref (a 24), .ref (a 26), .ref (a 29), .ref (a 34), .ref (a 43), .int (nI nh), .int (nI nf), .int clk, .int hi])), (a 1, .inl (cH, 8, .inr (.inr (.inr (.inr fH))))), (a 23, .inl (cI, 10, .inl fl))] ++ va_pl L (zz_F K (zz_put (zz_put V ad 2 ((V ad 2) - p0)) ad 5 clk))) kq_10 (ad, .inr (3, [.int ((zz_put (zz_put V ad 2 ((V ad 2) - p0)) ad 5 clk) ad 0), .int ((zz_put (zz_put V ad 2 ((V ad 2) - p0)) ad 5 clk) ad 1), .int ((zz_put (zz_put V ad 2 ((V ad 2) - p0)) ad 5 clk) ad 2), .int ((zz_put (zz_put V ad 2 ((V ad 2) - p0)) ad 5 clk) ad 3), .int ((zz_put (zz_put V ad 2 ((V ad 2) - p0)) ad 5 clk) ad 4), .int ((zz_put (zz_put V ad 2 ((V ad 2) - p0)) ad 5 clk) ad 5), .int r_9]))) H := hP
    have hD : va_D A (List.set (α := Nat × va_E) ([(a 0, .inr (7, [.ref (a 1), .ref (a 10), .ref (a 23), .ref (a 24), .ref (a 26), .ref (a 29), .ref (a 34), .ref (a 43), .int (nI nh), .int (nI nf), .int clk, .int hi])), (a 1, .inl (cH, 8, .inr (.inr (.inr (.inr fH))))), (a 23, .inl (cI, 10, .inl fl))] ++ va_pl L (zz_F K (zz_put (zz_put V ad 2 ((V ad 2) - p0)) ad 5 clk))) kq_10 (ad, .inr (3, [.int ((zz_put (zz_put V ad 2 ((V ad 2) - p0)) ad 5 clk) ad 0), .int ((zz_put (zz_put V ad 2 ((V ad 2) - p0)) ad 5 clk) ad 1), .int ((zz_put (zz_put V ad 2 ((V ad 2) - p0)) ad 5 clk) ad 2), .int ((zz_put (zz_put V ad 2 ((V ad 2) - p0)) ad 5 clk) ad 3), .int ((zz_put (zz_put V ad 2 ((V ad 2) - p0)) ad 5 clk) ad 4), .int ((zz_put (zz_put V ad 2 ((V ad 2) - p0)) ad 5 clk) ad 5), .int r_9]))) := hD
    rw [zz_ps3_6 hDo hm hk hq_10] at hP hD
    have hP : va_P (dC, dI) vwCl ([(a 0, .inr (7, [.ref (a 1), .ref (a 10), .ref (a 23), .ref (a 24), .ref (a 26), .ref (a 29), .ref (a 34), .ref (a 43), .int (nI nh), .int (nI nf), .int clk, .int hi])), (a 1, .inl (cH, 8, .inr (.inr (.inr (.inr fH))))), (a 23, .inl (cI, 10, .inl fl))] ++ va_pl L (zz_F K (zz_put (zz_put (zz_put V ad 2 ((V ad 2) - p0)) ad 5 clk) ad 6 r_9))) H := hP
    have hD : va_D A ([(a 0, .inr (7, [.ref (a 1), .ref (a 10), .ref (a 23), .ref (a 24), .ref (a 26), .ref (a 29), .ref (a 34), .ref (a 43), .int (nI nh), .int (nI nf), .int clk, .int hi])), (a 1, .inl (cH, 8, .inr (.inr (.inr (.inr fH))))), (a 23, .inl (cI, 10, .inl fl))] ++ va_pl L (zz_F K (zz_put (zz_put (zz_put V ad 2 ((V ad 2) - p0)) ad 5 clk) ad 6 r_9))) := hD
    refine lv_aload_n hx hb dX7_workDone_49 rfl (lv_at hl 0 rfl) ?_
    refine lv_aload_n hx hb dX7_workDone_50 rfl (lv_at hl 1 rfl) ?_
    obtain ⟨kq_11, hq_11⟩ := zz_pg3 (X := [(a 0, .inr (7, [.ref (a 1), .ref (a 10), .ref (a 23), .ref (a 24), .ref (a 26), .ref (a 29), .ref (a 34), .ref (a 43), .int (nI nh), .int (nI nf), .int clk, .int hi])), (a 1, .inl (cH, 8, .inr (.inr (.inr (.inr fH))))), (a 23, .inl (cI, 10, .inl fl))]) (V := (zz_put (zz_put (zz_put V ad 2 ((V ad 2) - p0)) ad 5 clk) ad 6 r_9)) hm hk
    have hDo := hD
    refine va_getN (D := (dC, dI)) (ci := 3) (v := .int ((zz_put (zz_put (zz_put V ad 2 ((V ad 2) - p0)) ad 5 clk) ad 6 r_9) ad 0)) (C := RX3) (T := TX3) (N := 7) hx hb hw zz_inX3 hown hK hP kq_11 hq_11 rfl 0 (by decide) (hN.use zz_n11) (fun _ h9 => h9) rfl dX7_workDone_51 ?_
    have hPc := hP.sub (ws' := [(a 0, .inr (7, [.ref (a 1), .ref (a 10), .ref (a 23), .ref (a 24), .ref (a 26), .ref (a 29), .ref (a 34), .ref (a 43), .int (nI nh), .int (nI nf), .int clk, .int hi])), (a 1, .inl (cH, 8, .inr (.inr (.inr (.inr fH)))))]) [0, 1] rfl
    have hDc := hD.sub (ws' := [(a 0, .inr (7, [.ref (a 1), .ref (a 10), .ref (a 23), .ref (a 24), .ref (a 26), .ref (a 29), .ref (a 34), .ref (a 43), .int (nI nh), .int (nI nf), .int clk, .int hi])), (a 1, .inl (cH, 8, .inr (.inr (.inr (.inr fH)))))]) [0, 1] (by decide) rfl
    have hKc := hK.sub (tys' := [(cH, .object RX4)]) [0] rfl
    have hFc := zz_free0 hS hA
    refine va_callq (va_runV (As := [.int ((zz_put (zz_put (zz_put V ad 2 ((V ad 2) - p0)) ad 5 clk) ad 6 r_9) ad 0)]) (rest := []) ⟨hx, hb, hml, hown, hw⟩ (k_houseAt l dC dI a nh nf clk hi cH fH ((zz_put (zz_put (zz_put V ad 2 ((V ad 2) - p0)) ad 5 clk) ad 6 r_9) ad 0) H.size (by omega) (by omega) hfH) ⟨callB_of 1 hw (zz_good tw_8) rfl rfl rfl (hw _ tw_2) (hw _ tw_9) (by decide +kernel) ⟨Nat.le_of_ble_eq_true rfl, Nat.le_of_ble_eq_true rfl⟩, (hw _ tw_10), (hw _ tw_11)⟩ ⟨zz_blind, va_recv hKc hPc (ci := 7) (q0 := 0) rfl rfl, zz_pre hPc hKc hDc hN⟩ rfl rfl hl.1 rfl (lv_room (Nat.le_of_ble_eq_true rfl)) dX7_workDone_54 ⟨Nat.le_of_ble_eq_true rfl, Nat.le_of_ble_eq_true rfl⟩) hS (fun q _ h => hFc q h) hFc (fun r_12 u_12 t H1 locs ht hvm e_12 hB hz1 hk1 hS => ?_)
    try dsimp only at e_12
    have hP := zz_keep hP hk1
    clear hk1 hB ht hvm
    generalize H1 = H at hP hS ⊢
    have hP : va_P (dC, dI) vwCl ([(a 0, .inr (7, [.ref (a 1), .ref (a 10), .ref (a 23), .ref (a 24), .ref (a 26), .ref (a 29), .ref (a 34), .ref (a 43), .int (nI nh), .int (nI nf), .int clk, .int hi])), (a 1, .inl (cH, 8, .inr (.inr (.inr (.inr fH))))), (a 23, .inl (cI, 10, .inl fl))] ++ va_pl L (zz_F K (zz_put (zz_put (zz_put V ad 2 ((V ad 2) - p0)) ad 5 clk) ad 6 r_9))) H := hP
    have hD : va_D A ([(a 0, .inr (7, [.ref (a 1), .ref (a 10), .ref (a 23), .ref (a 24), .ref (a 26), .ref (a 29), .ref (a 34), .ref (a 43), .int (nI nh), .int (nI nf), .int clk, .int hi])), (a 1, .inl (cH, 8, .inr (.inr (.inr (.inr fH))))), (a 23, .inl (cI, 10, .inl fl))] ++ va_pl L (zz_F K (zz_put (zz_put (zz_put V ad 2 ((V ad 2) - p0)) ad 5 clk) ad 6 r_9))) := hD
    rcases e_12 with ⟨er_12, nk_12⟩ | ⟨er_12, nk_12⟩
    · refine zz_setv (.null) (congrArg va_rf er_12) ?_
      refine lv_astore_nN (lv' := [(3, .null), (0, .ref (a 0)), (1, .ref ad), (2, .int p0)]) hx hb dX7_workDone_57 rfl hl (by decide) rfl (fun ls hl => ?_)
      refine lv_aload_nN hx hb dX7_workDone_58 rfl (lv_at hl 0 rfl) ?_
      refine lv_ifnullN (tgt := 75) hx hb dX7_workDone_59 (by decide) ?_
      refine lv_aload_n hx hb dX7_workDone_75 rfl (lv_at hl 2 rfl) ?_
      obtain ⟨kq_13, hq_13⟩ := zz_pg3 (X := [(a 0, .inr (7, [.ref (a 1), .ref (a 10), .ref (a 23), .ref (a 24), .ref (a 26), .ref (a 29), .ref (a 34), .ref (a 43), .int (nI nh), .int (nI nf), .int clk, .int hi])), (a 1, .inl (cH, 8, .inr (.inr (.inr (.inr fH))))), (a 23, .inl (cI, 10, .inl fl))]) (V := (zz_put (zz_put (zz_put V ad 2 ((V ad 2) - p0)) ad 5 clk) ad 6 r_9)) hm hk
      have hDo := hD
      refine va_getN (D := (dC, dI)) (ci := 3) (v := .int ((zz_put (zz_put (zz_put V ad 2 ((V ad 2) - p0)) ad 5 clk) ad 6 r_9) ad 2)) (C := RX3) (T := TX3) (N := 7) hx hb hw zz_inX3 hown hK hP kq_13 hq_13 rfl 2 (by decide) (hN.use zz_n13) (fun _ h9 => h9) rfl dX7_workDone_76 ?_
      have hP9 := hP.part (cx := [(a 0, .inr (7, [.ref (a 1), .ref (a 10), .ref (a 23), .ref (a 24), .ref (a 26), .ref (a 29), .ref (a 34), .ref (a 43), .int (nI nh), .int (nI nf), .int clk, .int hi])), (a 1, .inl (cH, 8, .inr (.inr (.inr (.inr fH))))), (a 23, .inl (cI, 10, .inl fl))]) [0, 1, 2] rfl
      have hD9 := hD.part (cx := [(a 0, .inr (7, [.ref (a 1), .ref (a 10), .ref (a 23), .ref (a 24), .ref (a 26), .ref (a 29), .ref (a 34), .ref (a 43), .int (nI nh), .int (nI nf), .int clk, .int hi])), (a 1, .inl (cH, 8, .inr (.inr (.inr (.inr fH))))), (a 23, .inl (cI, 10, .inl fl))]) [0, 1, 2] (by decide) rfl
      have hK9 := hK.sub (tys' := [(cH, .object RX4), (cI, .int)]) [0, 1] rfl
      exact W.iret (v := ((zz_put (zz_put (zz_put V ad 2 ((V ad 2) - p0)) ad 5 clk) ad 6 r_9) ad 2)) hx hb hr (fun t ht hW => ⟨⟨((zz_put (zz_put (zz_put V ad 2 ((V ad 2) - p0)) ad 5 clk) ad 6 r_9) ad 2), ((zz_put (zz_put (zz_put V ad 2 ((V ad 2) - p0)) ad 5 clk) ad 6 r_9)), rfl, trivial, by rw [ht]; exact hP9, va_K.moved hW.alike hK9, hD9⟩, hS.F ht⟩) hS.2.2 dX7_workDone_79
    · refine zz_setv (.ref (a (2 + (Int32.toNatClampNeg ((zz_put (zz_put (zz_put V ad 2 ((V ad 2) - p0)) ad 5 clk) ad 6 r_9) ad 0))))) (congrArg va_rf er_12) ?_
      refine lv_astore_n (lv' := [(3, .ref (a (2 + (Int32.toNatClampNeg ((zz_put (zz_put (zz_put V ad 2 ((V ad 2) - p0)) ad 5 clk) ad 6 r_9) ad 0))))), (0, .ref (a 0)), (1, .ref ad), (2, .int p0)]) hx hb dX7_workDone_57 rfl hl (by decide) rfl (fun ls hl => ?_)
      refine lv_aload_n hx hb dX7_workDone_58 rfl (lv_at hl 0 rfl) ?_
      refine lv_ifnull hx hb dX7_workDone_59 ?_
      refine lv_aload_n hx hb dX7_workDone_62 rfl (lv_at hl 0 rfl) ?_
      refine lv_dup hx hb dX7_workDone_63 rfl ?_
      obtain ⟨kq_14, hq_14⟩ := zz_pg4 (X := [(a 0, .inr (7, [.ref (a 1), .ref (a 10), .ref (a 23), .ref (a 24), .ref (a 26), .ref (a 29), .ref (a 34), .ref (a 43), .int (nI nh), .int (nI nf), .int clk, .int hi])), (a 1, .inl (cH, 8, .inr (.inr (.inr (.inr fH))))), (a 23, .inl (cI, 10, .inl fl))]) (V := (zz_put (zz_put (zz_put V ad 2 ((V ad 2) - p0)) ad 5 clk) ad 6 r_9)) (hH (Int32.toNatClampNeg ((zz_put (zz_put (zz_put V ad 2 ((V ad 2) - p0)) ad 5 clk) ad 6 r_9) ad 0)) (zz_lt nk_12 hc8 (by omega))).1 (hH (Int32.toNatClampNeg ((zz_put (zz_put (zz_put V ad 2 ((V ad 2) - p0)) ad 5 clk) ad 6 r_9) ad 0)) (zz_lt nk_12 hc8 (by omega))).2
      have hDo := hD
      refine va_getN (D := (dC, dI)) (ci := 4) (v := .int ((zz_put (zz_put (zz_put V ad 2 ((V ad 2) - p0)) ad 5 clk) ad 6 r_9) (a (2 + (Int32.toNatClampNeg ((zz_put (zz_put (zz_put V ad 2 ((V ad 2) - p0)) ad 5 clk) ad 6 r_9) ad 0)))) 8)) (C := RX4) (T := TX4) (N := 9) hx hb hw zz_inX4 hown hK hP kq_14 hq_14 rfl 8 (by decide) (hN.use zz_n9) (fun _ h9 => h9) rfl dX7_workDone_64 ?_
      refine lv_aload_n hx hb dX7_workDone_67 rfl (lv_at hl 2 rfl) ?_
      obtain ⟨kq_15, hq_15⟩ := zz_pg3 (X := [(a 0, .inr (7, [.ref (a 1), .ref (a 10), .ref (a 23), .ref (a 24), .ref (a 26), .ref (a 29), .ref (a 34), .ref (a 43), .int (nI nh), .int (nI nf), .int clk, .int hi])), (a 1, .inl (cH, 8, .inr (.inr (.inr (.inr fH))))), (a 23, .inl (cI, 10, .inl fl))]) (V := (zz_put (zz_put (zz_put V ad 2 ((V ad 2) - p0)) ad 5 clk) ad 6 r_9)) hm hk
      have hDo := hD
      refine va_getN (D := (dC, dI)) (ci := 3) (v := .int ((zz_put (zz_put (zz_put V ad 2 ((V ad 2) - p0)) ad 5 clk) ad 6 r_9) ad 6)) (C := RX3) (T := TX3) (N := 7) hx hb hw zz_inX3 hown hK hP kq_15 hq_15 rfl 6 (by decide) (hN.use zz_n20) (fun _ h9 => h9) rfl dX7_workDone_68 ?_
      refine lv_iadd hx hb dX7_workDone_71 ?_
      obtain ⟨kq_16, hq_16⟩ := zz_pg4 (X := [(a 0, .inr (7, [.ref (a 1), .ref (a 10), .ref (a 23), .ref (a 24), .ref (a 26), .ref (a 29), .ref (a 34), .ref (a 43), .int (nI nh), .int (nI nf), .int clk, .int hi])), (a 1, .inl (cH, 8, .inr (.inr (.inr (.inr fH))))), (a 23, .inl (cI, 10, .inl fl))]) (V := (zz_put (zz_put (zz_put V ad 2 ((V ad 2) - p0)) ad 5 clk) ad 6 r_9)) (hH (Int32.toNatClampNeg ((zz_put (zz_put (zz_put V ad 2 ((V ad 2) - p0)) ad 5 clk) ad 6 r_9) ad 0)) (zz_lt nk_12 hc8 (by omega))).1 (hH (Int32.toNatClampNeg ((zz_put (zz_put (zz_put V ad 2 ((V ad 2) - p0)) ad 5 clk) ad 6 r_9) ad 0)) (zz_lt nk_12 hc8 (by omega))).2
      have hDo := hD
      refine va_putN (D := (dC, dI)) (ci := 4) (v := .int (((zz_put (zz_put (zz_put V ad 2 ((V ad 2) - p0)) ad 5 clk) ad 6 r_9) (a (2 + (Int32.toNatClampNeg ((zz_put (zz_put (zz_put V ad 2 ((V ad 2) - p0)) ad 5 clk) ad 6 r_9) ad 0)))) 8) + ((zz_put (zz_put (zz_put V ad 2 ((V ad 2) - p0)) ad 5 clk) ad 6 r_9) ad 6))) (ty := .int) (C := RX4) (T := TX4) (N := 9) hx hb hw zz_inX4 tyX4 tyX4_ok nmX4 hown hK hP hD hS kq_16 hq_16 rfl 8 (by decide) (hN.use zz_n9) (fun _ h9 => h9) rfl (by decide +kernel) rfl rfl (Nat.le_of_ble_eq_true rfl) dX7_workDone_72 (fun H locs hP hD hS => ?_)
      have hP : va_P (dC, dI) vwCl (List.set (α := Nat × va_E) ([(a 0, .inr (7, [.ref (a 1), .ref (a 10), .ref (a 23), .ref (a 24), .ref (a 26), .ref (a 29), .ref (a 34), .ref (a 43), .int (nI nh), .int (nI nf), .int clk, .int hi])), (a 1, .inl (cH, 8, .inr (.inr (.inr (.inr fH))))), (a 23, .inl (cI, 10, .inl fl))] ++ va_pl L (zz_F K (zz_put (zz_put (zz_put V ad 2 ((V ad 2) - p0)) ad 5 clk) ad 6 r_9))) kq_16 (a (2 + (Int32.toNatClampNeg ((zz_put (zz_put (zz_put V ad 2 ((V ad 2) - p0)) ad 5 clk) ad 6 r_9) ad 0))), .inr (4, [.int ((zz_put (zz_put (zz_put V ad 2 ((V ad 2) - p0)) ad 5 clk) ad 6 r_9) (a (2 + (Int32.toNatClampNeg ((zz_put (zz_put (zz_put V ad 2 ((V ad 2) - p0)) ad 5 clk) ad 6 r_9) ad 0)))) 0), .int ((zz_put (zz_put (zz_put V ad 2 ((V ad 2) - p0)) ad 5 clk) ad 6 r_9) (a (2 + (Int32.toNatClampNeg ((zz_put (zz_put (zz_put V ad 2 ((V ad 2) - p0)) ad 5 clk) ad 6 r_9) ad 0)))) 1), .int ((zz_put (zz_put (zz_put V ad 2 ((V ad 2) - p0)) ad 5 clk) ad 6 r_9) (a (2 + (Int32.toNatClampNeg ((zz_put (zz_put (zz_put V ad 2 ((V ad 2) - p0)) ad 5 clk) ad 6 r_9) ad 0)))) 2), .int ((zz_put (zz_put (zz_put V ad 2 ((V ad 2) - p0)) ad 5 clk) ad 6 r_9) (a (2 + (Int32.toNatClampNeg ((zz_put (zz_put (zz_put V ad 2 ((V ad 2) - p0)) ad 5 clk) ad 6 r_9) ad 0)))) 3), .int ((zz_put (zz_put (zz_put V ad 2 ((V ad 2) - p0)) ad 5 clk) ad 6 r_9) (a (2 + (Int32.toNatClampNeg ((zz_put (zz_put (zz_put V ad 2 ((V ad 2) - p0)) ad 5 clk) ad 6 r_9) ad 0)))) 4), .int ((zz_put (zz_put (zz_put V ad 2 ((V ad 2) - p0)) ad 5 clk) ad 6 r_9) (a (2 + (Int32.toNatClampNeg ((zz_put (zz_put (zz_put V ad 2 ((V ad 2) - p0)) ad 5 clk) ad 6 r_9) ad 0)))) 5), .int ((zz_put (zz_put (zz_put V ad 2 ((V ad 2) - p0)) ad 5 clk) ad 6 r_9) (a (2 + (Int32.toNatClampNeg ((zz_put (zz_put (zz_put V ad 2 ((V ad 2) - p0)) ad 5 clk) ad 6 r_9) ad 0)))) 6), .int ((zz_put (zz_put (zz_put V ad 2 ((V ad 2) - p0)) ad 5 clk) ad 6 r_9) (a (2 + (Int32.toNatClampNeg ((zz_put (zz_put (zz_put V ad 2 ((V ad 2) - p0)) ad 5 clk) ad 6 r_9) ad 0)))) 7), .int (((zz_put (zz_put (zz_put V ad 2 ((V ad 2) - p0)) ad 5 clk) ad 6 r_9) (a (2 + (Int32.toNatClampNeg ((zz_put (zz_put (zz_put V ad 2 ((V ad 2) - p0)) ad 5 clk) ad 6 r_9) ad 0)))) 8) + ((zz_put (zz_put (zz_put V ad 2 ((V ad 2) - p0)) ad 5 clk) ad 6 r_9) ad 6))]))) H := hP
      have hD : va_D A (List.set (α := Nat × va_E) ([(a 0, .inr (7, [.ref (a 1), .ref (a 10), .ref (a 23), .ref (a 24), .ref (a 26), .ref (a 29), .ref (a 34), .ref (a 43), .int (nI nh), .int (nI nf), .int clk, .int hi])), (a 1, .inl (cH, 8, .inr (.inr (.inr (.inr fH))))), (a 23, .inl (cI, 10, .inl fl))] ++ va_pl L (zz_F K (zz_put (zz_put (zz_put V ad 2 ((V ad 2) - p0)) ad 5 clk) ad 6 r_9))) kq_16 (a (2 + (Int32.toNatClampNeg ((zz_put (zz_put (zz_put V ad 2 ((V ad 2) - p0)) ad 5 clk) ad 6 r_9) ad 0))), .inr (4, [.int ((zz_put (zz_put (zz_put V ad 2 ((V ad 2) - p0)) ad 5 clk) ad 6 r_9) (a (2 + (Int32.toNatClampNeg ((zz_put (zz_put (zz_put V ad 2 ((V ad 2) - p0)) ad 5 clk) ad 6 r_9) ad 0)))) 0), .int ((zz_put (zz_put (zz_put V ad 2 ((V ad 2) - p0)) ad 5 clk) ad 6 r_9) (a (2 + (Int32.toNatClampNeg ((zz_put (zz_put (zz_put V ad 2 ((V ad 2) - p0)) ad 5 clk) ad 6 r_9) ad 0)))) 1), .int ((zz_put (zz_put (zz_put V ad 2 ((V ad 2) - p0)) ad 5 clk) ad 6 r_9) (a (2 + (Int32.toNatClampNeg ((zz_put (zz_put (zz_put V ad 2 ((V ad 2) - p0)) ad 5 clk) ad 6 r_9) ad 0)))) 2), .int ((zz_put (zz_put (zz_put V ad 2 ((V ad 2) - p0)) ad 5 clk) ad 6 r_9) (a (2 + (Int32.toNatClampNeg ((zz_put (zz_put (zz_put V ad 2 ((V ad 2) - p0)) ad 5 clk) ad 6 r_9) ad 0)))) 3), .int ((zz_put (zz_put (zz_put V ad 2 ((V ad 2) - p0)) ad 5 clk) ad 6 r_9) (a (2 + (Int32.toNatClampNeg ((zz_put (zz_put (zz_put V ad 2 ((V ad 2) - p0)) ad 5 clk) ad 6 r_9) ad 0)))) 4), .int ((zz_put (zz_put (zz_put V ad 2 ((V ad 2) - p0)) ad 5 clk) ad 6 r_9) (a (2 + (Int32.toNatClampNeg ((zz_put (zz_put (zz_put V ad 2 ((V ad 2) - p0)) ad 5 clk) ad 6 r_9) ad 0)))) 5), .int ((zz_put (zz_put (zz_put V ad 2 ((V ad 2) - p0)) ad 5 clk) ad 6 r_9) (a (2 + (Int32.toNatClampNeg ((zz_put (zz_put (zz_put V ad 2 ((V ad 2) - p0)) ad 5 clk) ad 6 r_9) ad 0)))) 6), .int ((zz_put (zz_put (zz_put V ad 2 ((V ad 2) - p0)) ad 5 clk) ad 6 r_9) (a (2 + (Int32.toNatClampNeg ((zz_put (zz_put (zz_put V ad 2 ((V ad 2) - p0)) ad 5 clk) ad 6 r_9) ad 0)))) 7), .int (((zz_put (zz_put (zz_put V ad 2 ((V ad 2) - p0)) ad 5 clk) ad 6 r_9) (a (2 + (Int32.toNatClampNeg ((zz_put (zz_put (zz_put V ad 2 ((V ad 2) - p0)) ad 5 clk) ad 6 r_9) ad 0)))) 8) + ((zz_put (zz_put (zz_put V ad 2 ((V ad 2) - p0)) ad 5 clk) ad 6 r_9) ad 6))]))) := hD
      rw [zz_ps4_8 hDo (hH (Int32.toNatClampNeg ((zz_put (zz_put (zz_put V ad 2 ((V ad 2) - p0)) ad 5 clk) ad 6 r_9) ad 0)) (zz_lt nk_12 hc8 (by omega))).1 (hH (Int32.toNatClampNeg ((zz_put (zz_put (zz_put V ad 2 ((V ad 2) - p0)) ad 5 clk) ad 6 r_9) ad 0)) (zz_lt nk_12 hc8 (by omega))).2 hq_16] at hP hD
      have hP : va_P (dC, dI) vwCl ([(a 0, .inr (7, [.ref (a 1), .ref (a 10), .ref (a 23), .ref (a 24), .ref (a 26), .ref (a 29), .ref (a 34), .ref (a 43), .int (nI nh), .int (nI nf), .int clk, .int hi])), (a 1, .inl (cH, 8, .inr (.inr (.inr (.inr fH))))), (a 23, .inl (cI, 10, .inl fl))] ++ va_pl L (zz_F K (zz_put (zz_put (zz_put (zz_put V ad 2 ((V ad 2) - p0)) ad 5 clk) ad 6 r_9) (a (2 + (Int32.toNatClampNeg ((zz_put (zz_put (zz_put V ad 2 ((V ad 2) - p0)) ad 5 clk) ad 6 r_9) ad 0)))) 8 (((zz_put (zz_put (zz_put V ad 2 ((V ad 2) - p0)) ad 5 clk) ad 6 r_9) (a (2 + (Int32.toNatClampNeg ((zz_put (zz_put (zz_put V ad 2 ((V ad 2) - p0)) ad 5 clk) ad 6 r_9) ad 0)))) 8) + ((zz_put (zz_put (zz_put V ad 2 ((V ad 2) - p0)) ad 5 clk) ad 6 r_9) ad 6))))) H := hP
      have hD : va_D A ([(a 0, .inr (7, [.ref (a 1), .ref (a 10), .ref (a 23), .ref (a 24), .ref (a 26), .ref (a 29), .ref (a 34), .ref (a 43), .int (nI nh), .int (nI nf), .int clk, .int hi])), (a 1, .inl (cH, 8, .inr (.inr (.inr (.inr fH))))), (a 23, .inl (cI, 10, .inl fl))] ++ va_pl L (zz_F K (zz_put (zz_put (zz_put (zz_put V ad 2 ((V ad 2) - p0)) ad 5 clk) ad 6 r_9) (a (2 + (Int32.toNatClampNeg ((zz_put (zz_put (zz_put V ad 2 ((V ad 2) - p0)) ad 5 clk) ad 6 r_9) ad 0)))) 8 (((zz_put (zz_put (zz_put V ad 2 ((V ad 2) - p0)) ad 5 clk) ad 6 r_9) (a (2 + (Int32.toNatClampNeg ((zz_put (zz_put (zz_put V ad 2 ((V ad 2) - p0)) ad 5 clk) ad 6 r_9) ad 0)))) 8) + ((zz_put (zz_put (zz_put V ad 2 ((V ad 2) - p0)) ad 5 clk) ad 6 r_9) ad 6))))) := hD
      refine lv_aload_n hx hb dX7_workDone_75 rfl (lv_at hl 2 rfl) ?_
      obtain ⟨kq_17, hq_17⟩ := zz_pg3 (X := [(a 0, .inr (7, [.ref (a 1), .ref (a 10), .ref (a 23), .ref (a 24), .ref (a 26), .ref (a 29), .ref (a 34), .ref (a 43), .int (nI nh), .int (nI nf), .int clk, .int hi])), (a 1, .inl (cH, 8, .inr (.inr (.inr (.inr fH))))), (a 23, .inl (cI, 10, .inl fl))]) (V := (zz_put (zz_put (zz_put (zz_put V ad 2 ((V ad 2) - p0)) ad 5 clk) ad 6 r_9) (a (2 + (Int32.toNatClampNeg ((zz_put (zz_put (zz_put V ad 2 ((V ad 2) - p0)) ad 5 clk) ad 6 r_9) ad 0)))) 8 (((zz_put (zz_put (zz_put V ad 2 ((V ad 2) - p0)) ad 5 clk) ad 6 r_9) (a (2 + (Int32.toNatClampNeg ((zz_put (zz_put (zz_put V ad 2 ((V ad 2) - p0)) ad 5 clk) ad 6 r_9) ad 0)))) 8) + ((zz_put (zz_put (zz_put V ad 2 ((V ad 2) - p0)) ad 5 clk) ad 6 r_9) ad 6)))) hm hk
      have hDo := hD
      refine va_getN (D := (dC, dI)) (ci := 3) (v := .int ((zz_put (zz_put (zz_put (zz_put V ad 2 ((V ad 2) - p0)) ad 5 clk) ad 6 r_9) (a (2 + (Int32.toNatClampNeg ((zz_put (zz_put (zz_put V ad 2 ((V ad 2) - p0)) ad 5 clk) ad 6 r_9) ad 0)))) 8 (((zz_put (zz_put (zz_put V ad 2 ((V ad 2) - p0)) ad 5 clk) ad 6 r_9) (a (2 + (Int32.toNatClampNeg ((zz_put (zz_put (zz_put V ad 2 ((V ad 2) - p0)) ad 5 clk) ad 6 r_9) ad 0)))) 8) + ((zz_put (zz_put (zz_put V ad 2 ((V ad 2) - p0)) ad 5 clk) ad 6 r_9) ad 6))) ad 2)) (C := RX3) (T := TX3) (N := 7) hx hb hw zz_inX3 hown hK hP kq_17 hq_17 rfl 2 (by decide) (hN.use zz_n13) (fun _ h9 => h9) rfl dX7_workDone_76 ?_
      have hP9 := hP.part (cx := [(a 0, .inr (7, [.ref (a 1), .ref (a 10), .ref (a 23), .ref (a 24), .ref (a 26), .ref (a 29), .ref (a 34), .ref (a 43), .int (nI nh), .int (nI nf), .int clk, .int hi])), (a 1, .inl (cH, 8, .inr (.inr (.inr (.inr fH))))), (a 23, .inl (cI, 10, .inl fl))]) [0, 1, 2] rfl
      have hD9 := hD.part (cx := [(a 0, .inr (7, [.ref (a 1), .ref (a 10), .ref (a 23), .ref (a 24), .ref (a 26), .ref (a 29), .ref (a 34), .ref (a 43), .int (nI nh), .int (nI nf), .int clk, .int hi])), (a 1, .inl (cH, 8, .inr (.inr (.inr (.inr fH))))), (a 23, .inl (cI, 10, .inl fl))]) [0, 1, 2] (by decide) rfl
      have hK9 := hK.sub (tys' := [(cH, .object RX4), (cI, .int)]) [0, 1] rfl
      exact W.iret (v := ((zz_put (zz_put (zz_put (zz_put V ad 2 ((V ad 2) - p0)) ad 5 clk) ad 6 r_9) (a (2 + (Int32.toNatClampNeg ((zz_put (zz_put (zz_put V ad 2 ((V ad 2) - p0)) ad 5 clk) ad 6 r_9) ad 0)))) 8 (((zz_put (zz_put (zz_put V ad 2 ((V ad 2) - p0)) ad 5 clk) ad 6 r_9) (a (2 + (Int32.toNatClampNeg ((zz_put (zz_put (zz_put V ad 2 ((V ad 2) - p0)) ad 5 clk) ad 6 r_9) ad 0)))) 8) + ((zz_put (zz_put (zz_put V ad 2 ((V ad 2) - p0)) ad 5 clk) ad 6 r_9) ad 6))) ad 2)) hx hb hr (fun t ht hW => ⟨⟨((zz_put (zz_put (zz_put (zz_put V ad 2 ((V ad 2) - p0)) ad 5 clk) ad 6 r_9) (a (2 + (Int32.toNatClampNeg ((zz_put (zz_put (zz_put V ad 2 ((V ad 2) - p0)) ad 5 clk) ad 6 r_9) ad 0)))) 8 (((zz_put (zz_put (zz_put V ad 2 ((V ad 2) - p0)) ad 5 clk) ad 6 r_9) (a (2 + (Int32.toNatClampNeg ((zz_put (zz_put (zz_put V ad 2 ((V ad 2) - p0)) ad 5 clk) ad 6 r_9) ad 0)))) 8) + ((zz_put (zz_put (zz_put V ad 2 ((V ad 2) - p0)) ad 5 clk) ad 6 r_9) ad 6))) ad 2), ((zz_put (zz_put (zz_put (zz_put V ad 2 ((V ad 2) - p0)) ad 5 clk) ad 6 r_9) (a (2 + (Int32.toNatClampNeg ((zz_put (zz_put (zz_put V ad 2 ((V ad 2) - p0)) ad 5 clk) ad 6 r_9) ad 0)))) 8 (((zz_put (zz_put (zz_put V ad 2 ((V ad 2) - p0)) ad 5 clk) ad 6 r_9) (a (2 + (Int32.toNatClampNeg ((zz_put (zz_put (zz_put V ad 2 ((V ad 2) - p0)) ad 5 clk) ad 6 r_9) ad 0)))) 8) + ((zz_put (zz_put (zz_put V ad 2 ((V ad 2) - p0)) ad 5 clk) ad 6 r_9) ad 6)))), rfl, trivial, by rw [ht]; exact hP9, va_K.moved hW.alike hK9, hD9⟩, hS.F ht⟩) hS.2.2 dX7_workDone_79

set_option maxHeartbeats 4000000 in
set_option maxRecDepth 100000 in
theorem k_oweForWork (l : Launch) (dC : Nat → ClassId) (dI : Nat → Nat → Nat) (a : Nat → Nat) (nh : Nat) (nf : Nat) (clk : Int32) (hi : Int32) (cH : ClassId) (fH : Nat → Option Nat) (cI : ClassId) (nd : Nat) (fo : Nat → Int32) (fc : Nat → Int32) (fs : Nat → Int32) (fu : Nat → Int32) (cu0 : Int32) (cu1 : Int32) (cu2 : Int32) (cu3 : Int32) (cu4 : Int32) (cu5 : Int32) (ft : Nat → Int32) (V : Nat → Nat → Int32) (p0 : Int32) (ad : Nat) (p1 : Int32) (L : List Nat) (K : Nat → Nat) (sz : Nat) (hc8 : nh ≤ 8) (hf12 : nf ≤ 12) (hfH : ∀ k, k < 8 → fH k = some (a (2 + k))) (hH : ∀ k, k < 8 → a (2 + k) ∈ L ∧ K (a (2 + k)) = 4) (hnd : nd ≤ 300) (hm : ad ∈ L) (hk : K ad = 3) : Met l yX7_oweForWork (zz_w yX7_oweForWork cX7_oweForWork 8 none) ({ frames := 2, cells := 0, slots := 0, locals := 49 }) (va_Pc [.ref (a 0), .int p0, .ref ad, .int p1] (zz_B (dC, dI) sz ([(a 0, .inr (7, [.ref (a 1), .ref (a 10), .ref (a 23), .ref (a 24), .ref (a 26), .ref (a 29), .ref (a 34), .ref (a 43), .int (nI nh), .int (nI nf), .int clk, .int hi])), (a 1, .inl (cH, 8, .inr (.inr (.inr (.inr fH))))), (a 29, .inr (1, [.ref (a 30), .ref (a 31), .ref (a 32), .ref (a 33), .int (nI nd)])), (a 30, .inl (cI, 300, .inl fo)), (a 31, .inl (cI, 300, .inl fc)), (a 32, .inl (cI, 300, .inl fs)), (a 33, .inl (cI, 300, .inl fu)), (a 26, .inr (0, [.ref (a 27), .ref (a 28), .int cu0, .int cu1, .int cu2, .int cu3, .int cu4, .int cu5])), (a 27, .inl (cI, 7, .inl ft))] ++ va_pl L (zz_F K V)) [(cH, .object RX4), (cI, .int)])) (va_Qv (fun (u : (Nat → Nat → Int32) × Nat × (Nat → Int32) × (Nat → Int32) × (Nat → Int32) × (Nat → Int32)) => match u with | (_, nd2, _, _, _, _) => nd2 ≤ 300) (fun (u : (Nat → Nat → Int32) × Nat × (Nat → Int32) × (Nat → Int32) × (Nat → Int32) × (Nat → Int32)) (t : State) => match u with | (u0, u1, u2, u3, u4, u5) => va_P (dC, dI) vwCl ([(a 0, .inr (7, [.ref (a 1), .ref (a 10), .ref (a 23), .ref (a 24), .ref (a 26), .ref (a 29), .ref (a 34), .ref (a 43), .int (nI nh), .int (nI nf), .int clk, .int hi])), (a 1, .inl (cH, 8, .inr (.inr (.inr (.inr fH))))), (a 29, .inr (1, [.ref (a 30), .ref (a 31), .ref (a 32), .ref (a 33), .int (nI u1)])), (a 30, .inl (cI, 300, .inl u2)), (a 31, .inl (cI, 300, .inl u3)), (a 32, .inl (cI, 300, .inl u4)), (a 33, .inl (cI, 300, .inl u5)), (a 26, .inr (0, [.ref (a 27), .ref (a 28), .int cu0, .int cu1, .int cu2, .int cu3, .int cu4, .int cu5])), (a 27, .inl (cI, 7, .inl ft))] ++ va_pl L (zz_F K u0)) t.heap ∧ va_K (dC, dI) vwCl [(cH, .object RX4), (cI, .int)] t ∧ va_D (va_A ([(a 0, .inr (7, [.ref (a 1), .ref (a 10), .ref (a 23), .ref (a 24), .ref (a 26), .ref (a 29), .ref (a 34), .ref (a 43), .int (nI nh), .int (nI nf), .int clk, .int hi])), (a 1, .inl (cH, 8, .inr (.inr (.inr (.inr fH))))), (a 29, .inr (1, [.ref (a 30), .ref (a 31), .ref (a 32), .ref (a 33), .int (nI nd)])), (a 30, .inl (cI, 300, .inl fo)), (a 31, .inl (cI, 300, .inl fc)), (a 32, .inl (cI, 300, .inl fs)), (a 33, .inl (cI, 300, .inl fu)), (a 26, .inr (0, [.ref (a 27), .ref (a 28), .int cu0, .int cu1, .int cu2, .int cu3, .int cu4, .int cu5])), (a 27, .inl (cI, 7, .inl ft))] ++ va_pl L (zz_F K V)) sz) ([(a 0, .inr (7, [.ref (a 1), .ref (a 10), .ref (a 23), .ref (a 24), .ref (a 26), .ref (a 29), .ref (a 34), .ref (a 43), .int (nI nh), .int (nI nf), .int clk, .int hi])), (a 1, .inl (cH, 8, .inr (.inr (.inr (.inr fH))))), (a 29, .inr (1, [.ref (a 30), .ref (a 31), .ref (a 32), .ref (a 33), .int (nI u1)])), (a 30, .inl (cI, 300, .inl u2)), (a 31, .inl (cI, 300, .inl u3)), (a 32, .inl (cI, 300, .inl u4)), (a 33, .inl (cI, 300, .inl u5)), (a 26, .inr (0, [.ref (a 27), .ref (a 28), .int cu0, .int cu1, .int cu2, .int cu3, .int cu4, .int cu5])), (a 27, .inl (cI, 7, .inl ft))] ++ va_pl L (zz_F K u0))) (va_A ([(a 0, .inr (7, [.ref (a 1), .ref (a 10), .ref (a 23), .ref (a 24), .ref (a 26), .ref (a 29), .ref (a 34), .ref (a 43), .int (nI nh), .int (nI nf), .int clk, .int hi])), (a 1, .inl (cH, 8, .inr (.inr (.inr (.inr fH))))), (a 29, .inr (1, [.ref (a 30), .ref (a 31), .ref (a 32), .ref (a 33), .int (nI nd)])), (a 30, .inl (cI, 300, .inl fo)), (a 31, .inl (cI, 300, .inl fc)), (a 32, .inl (cI, 300, .inl fs)), (a 33, .inl (cI, 300, .inl fu)), (a 26, .inr (0, [.ref (a 27), .ref (a 28), .int cu0, .int cu1, .int cu2, .int cu3, .int cu4, .int cu5])), (a 27, .inl (cI, 7, .inl ft))] ++ va_pl L (zz_F K V)) sz)) 0 0 (va_A ([(a 0, .inr (7, [.ref (a 1), .ref (a 10), .ref (a 23), .ref (a 24), .ref (a 26), .ref (a 29), .ref (a 34), .ref (a 43), .int (nI nh), .int (nI nf), .int clk, .int hi])), (a 1, .inl (cH, 8, .inr (.inr (.inr (.inr fH))))), (a 29, .inr (1, [.ref (a 30), .ref (a 31), .ref (a 32), .ref (a 33), .int (nI nd)])), (a 30, .inl (cI, 300, .inl fo)), (a 31, .inl (cI, 300, .inl fc)), (a 32, .inl (cI, 300, .inl fs)), (a 33, .inl (cI, 300, .inl fu)), (a 26, .inr (0, [.ref (a 27), .ref (a 28), .int cu0, .int cu1, .int cu2, .int cu3, .int cu4, .int cu5])), (a 27, .inl (cI, 7, .inl ft))] ++ va_pl L (zz_F K V)) sz) := by
  refine Met.ofW (cc := cX7_oweForWork) (maxL := 8) (ret := none) (by decide) rfl ?_
  intro p e s m args below meth c s₁ B hml hv
  obtain ⟨rfl, hsz, hP, hK, hD0, hN⟩ := hv
  have hx := B.exec
  have hb := B.bytes
  have hr := B.returns
  have hts := atoms_spec (ws := zz_w yX7_oweForWork cX7_oweForWork 8 none) B.pre
  have hw : ∀ w ∈ zz_all, w.before _ s = true := fun w h => hts w (List.mem_cons_of_mem _ h)
  have hown : s.vm.findClass RX7 = some m.cls := findClass_of_methodNamed B.named
  have hlocks := B.notSynchronized
  subst hsz
  have hD := hD0.self (sz := s.heap.size)
  generalize hAe : va_A ([(a 0, .inr (7, [.ref (a 1), .ref (a 10), .ref (a 23), .ref (a 24), .ref (a 26), .ref (a 29), .ref (a 34), .ref (a 43), .int (nI nh), .int (nI nf), .int clk, .int hi])), (a 1, .inl (cH, 8, .inr (.inr (.inr (.inr fH))))), (a 29, .inr (1, [.ref (a 30), .ref (a 31), .ref (a 32), .ref (a 33), .int (nI nd)])), (a 30, .inl (cI, 300, .inl fo)), (a 31, .inl (cI, 300, .inl fc)), (a 32, .inl (cI, 300, .inl fs)), (a 33, .inl (cI, 300, .inl fu)), (a 26, .inr (0, [.ref (a 27), .ref (a 28), .int cu0, .int cu1, .int cu2, .int cu3, .int cu4, .int cu5])), (a 27, .inl (cI, 7, .inl ft))] ++ va_pl L (zz_F K V)) s.heap.size = A at hD ⊢
  have hA : ∀ q : Nat, s.heap.size ≤ q → A q := fun q h => by rw [← hAe]; exact Or.inr h
  have hS : va_S A s.heap s.heap [] := va_S.rf
  have hP : va_P (dC, dI) vwCl ([(a 0, .inr (7, [.ref (a 1), .ref (a 10), .ref (a 23), .ref (a 24), .ref (a 26), .ref (a 29), .ref (a 34), .ref (a 43), .int (nI nh), .int (nI nf), .int clk, .int hi])), (a 1, .inl (cH, 8, .inr (.inr (.inr (.inr fH))))), (a 29, .inr (1, [.ref (a 30), .ref (a 31), .ref (a 32), .ref (a 33), .int (nI nd)])), (a 30, .inl (cI, 300, .inl fo)), (a 31, .inl (cI, 300, .inl fc)), (a 32, .inl (cI, 300, .inl fs)), (a 33, .inl (cI, 300, .inl fu)), (a 26, .inr (0, [.ref (a 27), .ref (a 28), .int cu0, .int cu1, .int cu2, .int cu3, .int cu4, .int cu5])), (a 27, .inl (cI, 7, .inl ft))] ++ va_pl L (zz_F K V)) s.heap := hP
  have hl := lv_entry ([.ref (a 0), .int p0, .ref ad, .int p1]) (n := 8) (Nat.le_of_ble_eq_true rfl)
  rw [lg_entry_eq]
  generalize (lg_sl ([.ref (a 0), .int p0, .ref ad, .int p1]) ++ List.replicate (8 - (lg_sl ([.ref (a 0), .int p0, .ref ad, .int p1])).length) Slot.unset).toArray = ls at hl ⊢
  have hl : lv_has ls 8 [(0, .ref (a 0)), (1, .int p0), (2, .ref ad), (3, .int p1)] := hl
  refine lv_aload_n hx hb dX7_oweForWork_0 rfl (lv_at hl 0 rfl) ?_
  refine lv_iload_n hx hb dX7_oweForWork_1 rfl (lv_at hl 1 rfl) ?_
  have hPc := hP.sub (ws' := [(a 0, .inr (7, [.ref (a 1), .ref (a 10), .ref (a 23), .ref (a 24), .ref (a 26), .ref (a 29), .ref (a 34), .ref (a 43), .int (nI nh), .int (nI nf), .int clk, .int hi])), (a 1, .inl (cH, 8, .inr (.inr (.inr (.inr fH)))))]) [0, 1] rfl
  have hDc := hD.sub (ws' := [(a 0, .inr (7, [.ref (a 1), .ref (a 10), .ref (a 23), .ref (a 24), .ref (a 26), .ref (a 29), .ref (a 34), .ref (a 43), .int (nI nh), .int (nI nf), .int clk, .int hi])), (a 1, .inl (cH, 8, .inr (.inr (.inr (.inr fH)))))]) [0, 1] (by decide) rfl
  have hKc := hK.sub (tys' := [(cH, .object RX4)]) [0] rfl
  have hFc := zz_free0 hS hA
  refine va_callq (va_runV (As := [.int p0]) (rest := []) ⟨hx, hb, hml, hown, hw⟩ (k_houseAt l dC dI a nh nf clk hi cH fH p0 s.heap.size (by omega) (by omega) hfH) ⟨callB_of 1 hw (zz_good tw_8) rfl rfl rfl (hw _ tw_2) (hw _ tw_9) (by decide +kernel) ⟨Nat.le_of_ble_eq_true rfl, Nat.le_of_ble_eq_true rfl⟩, (hw _ tw_10), (hw _ tw_11)⟩ ⟨zz_blind, va_recv hKc hPc (ci := 7) (q0 := 0) rfl rfl, zz_pre hPc hKc hDc hN⟩ rfl rfl hl.1 rfl (lv_room (Nat.le_of_ble_eq_true rfl)) dX7_oweForWork_2 ⟨Nat.le_of_ble_eq_true rfl, Nat.le_of_ble_eq_true rfl⟩) hS (fun q _ h => hFc q h) hFc (fun r_1 u_1 t H1 locs ht hvm e_1 hB hz1 hk1 hS => ?_)
  try dsimp only at e_1
  have hP := zz_keep hP hk1
  clear hk1 hB ht hvm
  generalize H1 = H at hP hS ⊢
  have hP : va_P (dC, dI) vwCl ([(a 0, .inr (7, [.ref (a 1), .ref (a 10), .ref (a 23), .ref (a 24), .ref (a 26), .ref (a 29), .ref (a 34), .ref (a 43), .int (nI nh), .int (nI nf), .int clk, .int hi])), (a 1, .inl (cH, 8, .inr (.inr (.inr (.inr fH))))), (a 29, .inr (1, [.ref (a 30), .ref (a 31), .ref (a 32), .ref (a 33), .int (nI nd)])), (a 30, .inl (cI, 300, .inl fo)), (a 31, .inl (cI, 300, .inl fc)), (a 32, .inl (cI, 300, .inl fs)), (a 33, .inl (cI, 300, .inl fu)), (a 26, .inr (0, [.ref (a 27), .ref (a 28), .int cu0, .int cu1, .int cu2, .int cu3, .int cu4, .int cu5])), (a 27, .inl (cI, 7, .inl ft))] ++ va_pl L (zz_F K V)) H := hP
  have hD : va_D A ([(a 0, .inr (7, [.ref (a 1), .ref (a 10), .ref (a 23), .ref (a 24), .ref (a 26), .ref (a 29), .ref (a 34), .ref (a 43), .int (nI nh), .int (nI nf), .int clk, .int hi])), (a 1, .inl (cH, 8, .inr (.inr (.inr (.inr fH))))), (a 29, .inr (1, [.ref (a 30), .ref (a 31), .ref (a 32), .ref (a 33), .int (nI nd)])), (a 30, .inl (cI, 300, .inl fo)), (a 31, .inl (cI, 300, .inl fc)), (a 32, .inl (cI, 300, .inl fs)), (a 33, .inl (cI, 300, .inl fu)), (a 26, .inr (0, [.ref (a 27), .ref (a 28), .int cu0, .int cu1, .int cu2, .int cu3, .int cu4, .int cu5])), (a 27, .inl (cI, 7, .inl ft))] ++ va_pl L (zz_F K V)) := hD
  rcases e_1 with ⟨er_1, nk_1⟩ | ⟨er_1, nk_1⟩
  · refine zz_setv (.null) (congrArg va_rf er_1) ?_
    refine lv_astoreN (lv' := [(4, .null), (0, .ref (a 0)), (1, .int p0), (2, .ref ad), (3, .int p1)]) hx hb dX7_oweForWork_5 hl (by decide) rfl (fun ls hl => ?_)
    refine lv_aload_n hx hb dX7_oweForWork_7 rfl (lv_at hl 1 rfl) ?_
    refine lv_aload_n hx hb dX7_oweForWork_8 rfl (lv_at hl 3 rfl) ?_
    obtain ⟨kq_2, hq_2⟩ := zz_pg3 (X := [(a 0, .inr (7, [.ref (a 1), .ref (a 10), .ref (a 23), .ref (a 24), .ref (a 26), .ref (a 29), .ref (a 34), .ref (a 43), .int (nI nh), .int (nI nf), .int clk, .int hi])), (a 1, .inl (cH, 8, .inr (.inr (.inr (.inr fH))))), (a 29, .inr (1, [.ref (a 30), .ref (a 31), .ref (a 32), .ref (a 33), .int (nI nd)])), (a 30, .inl (cI, 300, .inl fo)), (a 31, .inl (cI, 300, .inl fc)), (a 32, .inl (cI, 300, .inl fs)), (a 33, .inl (cI, 300, .inl fu)), (a 26, .inr (0, [.ref (a 27), .ref (a 28), .int cu0, .int cu1, .int cu2, .int cu3, .int cu4, .int cu5])), (a 27, .inl (cI, 7, .inl ft))]) (V := V) hm hk
    have hDo := hD
    refine va_getN (D := (dC, dI)) (ci := 3) (v := .int (V ad 0)) (C := RX3) (T := TX3) (N := 7) hx hb hw zz_inX3 hown hK hP kq_2 hq_2 rfl 0 (by decide) (hN.use zz_n11) (fun _ h9 => h9) rfl dX7_oweForWork_9 ?_
    have hPc := hP.sub (ws' := [(a 0, .inr (7, [.ref (a 1), .ref (a 10), .ref (a 23), .ref (a 24), .ref (a 26), .ref (a 29), .ref (a 34), .ref (a 43), .int (nI nh), .int (nI nf), .int clk, .int hi])), (a 1, .inl (cH, 8, .inr (.inr (.inr (.inr fH)))))]) [0, 1] rfl
    have hDc := hD.sub (ws' := [(a 0, .inr (7, [.ref (a 1), .ref (a 10), .ref (a 23), .ref (a 24), .ref (a 26), .ref (a 29), .ref (a 34), .ref (a 43), .int (nI nh), .int (nI nf), .int clk, .int hi])), (a 1, .inl (cH, 8, .inr (.inr (.inr (.inr fH)))))]) [0, 1] (by decide) rfl
    have hKc := hK.sub (tys' := [(cH, .object RX4)]) [0] rfl
    have hFc := zz_free0 hS hA
    refine va_callq (va_runV (As := [.int (V ad 0)]) (rest := []) ⟨hx, hb, hml, hown, hw⟩ (k_houseAt l dC dI a nh nf clk hi cH fH (V ad 0) H.size (by omega) (by omega) hfH) ⟨callB_of 1 hw (zz_good tw_8) rfl rfl rfl (hw _ tw_2) (hw _ tw_9) (by decide +kernel) ⟨Nat.le_of_ble_eq_true rfl, Nat.le_of_ble_eq_true rfl⟩, (hw _ tw_10), (hw _ tw_11)⟩ ⟨zz_blind, va_recv hKc hPc (ci := 7) (q0 := 0) rfl rfl, zz_pre hPc hKc hDc hN⟩ rfl rfl hl.1 rfl (lv_room (Nat.le_of_ble_eq_true rfl)) dX7_oweForWork_12 ⟨Nat.le_of_ble_eq_true rfl, Nat.le_of_ble_eq_true rfl⟩) hS (fun q _ h => hFc q h) hFc (fun r_3 u_3 t H1 locs ht hvm e_3 hB hz1 hk1 hS => ?_)
    try dsimp only at e_3
    have hP := zz_keep hP hk1
    clear hk1 hB ht hvm
    generalize H1 = H at hP hS ⊢
    have hP : va_P (dC, dI) vwCl ([(a 0, .inr (7, [.ref (a 1), .ref (a 10), .ref (a 23), .ref (a 24), .ref (a 26), .ref (a 29), .ref (a 34), .ref (a 43), .int (nI nh), .int (nI nf), .int clk, .int hi])), (a 1, .inl (cH, 8, .inr (.inr (.inr (.inr fH))))), (a 29, .inr (1, [.ref (a 30), .ref (a 31), .ref (a 32), .ref (a 33), .int (nI nd)])), (a 30, .inl (cI, 300, .inl fo)), (a 31, .inl (cI, 300, .inl fc)), (a 32, .inl (cI, 300, .inl fs)), (a 33, .inl (cI, 300, .inl fu)), (a 26, .inr (0, [.ref (a 27), .ref (a 28), .int cu0, .int cu1, .int cu2, .int cu3, .int cu4, .int cu5])), (a 27, .inl (cI, 7, .inl ft))] ++ va_pl L (zz_F K V)) H := hP
    have hD : va_D A ([(a 0, .inr (7, [.ref (a 1), .ref (a 10), .ref (a 23), .ref (a 24), .ref (a 26), .ref (a 29), .ref (a 34), .ref (a 43), .int (nI nh), .int (nI nf), .int clk, .int hi])), (a 1, .inl (cH, 8, .inr (.inr (.inr (.inr fH))))), (a 29, .inr (1, [.ref (a 30), .ref (a 31), .ref (a 32), .ref (a 33), .int (nI nd)])), (a 30, .inl (cI, 300, .inl fo)), (a 31, .inl (cI, 300, .inl fc)), (a 32, .inl (cI, 300, .inl fs)), (a 33, .inl (cI, 300, .inl fu)), (a 26, .inr (0, [.ref (a 27), .ref (a 28), .int cu0, .int cu1, .int cu2, .int cu3, .int cu4, .int cu5])), (a 27, .inl (cI, 7, .inl ft))] ++ va_pl L (zz_F K V)) := hD
    rcases e_3 with ⟨er_3, nk_3⟩ | ⟨er_3, nk_3⟩
    · refine zz_setv (.null) (congrArg va_rf er_3) ?_
      refine lv_astoreN (lv' := [(5, .null), (4, .null), (0, .ref (a 0)), (1, .int p0), (2, .ref ad), (3, .int p1)]) hx hb dX7_oweForWork_15 hl (by decide) rfl (fun ls hl => ?_)
      refine lv_aloadN hx hb dX7_oweForWork_17 (lv_at hl 1 rfl) ?_
      refine lv_ifnullN (tgt := 39) hx hb dX7_oweForWork_19 (by decide) ?_
      have hP9 := hP.part (cx := [(a 0, .inr (7, [.ref (a 1), .ref (a 10), .ref (a 23), .ref (a 24), .ref (a 26), .ref (a 29), .ref (a 34), .ref (a 43), .int (nI nh), .int (nI nf), .int clk, .int hi])), (a 1, .inl (cH, 8, .inr (.inr (.inr (.inr fH))))), (a 29, .inr (1, [.ref (a 30), .ref (a 31), .ref (a 32), .ref (a 33), .int (nI nd)])), (a 30, .inl (cI, 300, .inl fo)), (a 31, .inl (cI, 300, .inl fc)), (a 32, .inl (cI, 300, .inl fs)), (a 33, .inl (cI, 300, .inl fu)), (a 26, .inr (0, [.ref (a 27), .ref (a 28), .int cu0, .int cu1, .int cu2, .int cu3, .int cu4, .int cu5])), (a 27, .inl (cI, 7, .inl ft))]) [0, 1, 2, 3, 4, 5, 6, 7, 8] rfl
      have hD9 := hD.part (cx := [(a 0, .inr (7, [.ref (a 1), .ref (a 10), .ref (a 23), .ref (a 24), .ref (a 26), .ref (a 29), .ref (a 34), .ref (a 43), .int (nI nh), .int (nI nf), .int clk, .int hi])), (a 1, .inl (cH, 8, .inr (.inr (.inr (.inr fH))))), (a 29, .inr (1, [.ref (a 30), .ref (a 31), .ref (a 32), .ref (a 33), .int (nI nd)])), (a 30, .inl (cI, 300, .inl fo)), (a 31, .inl (cI, 300, .inl fc)), (a 32, .inl (cI, 300, .inl fs)), (a 33, .inl (cI, 300, .inl fu)), (a 26, .inr (0, [.ref (a 27), .ref (a 28), .int cu0, .int cu1, .int cu2, .int cu3, .int cu4, .int cu5])), (a 27, .inl (cI, 7, .inl ft))]) [0, 1, 2, 3, 4, 5, 6, 7, 8] (by decide) rfl
      have hK9 := hK.sub (tys' := [(cH, .object RX4), (cI, .int)]) [0, 1] rfl
      exact W.vret hx hb hr (fun t ht hW => ⟨⟨(V, nd, fo, fc, fs, fu), rfl, (by show _ ≤ _; omega), by rw [ht]; exact hP9, va_K.moved hW.alike hK9, hD9⟩, hS.F ht⟩) hS.2.2 dX7_oweForWork_39
    · refine zz_setv (.ref (a (2 + (Int32.toNatClampNeg (V ad 0))))) (congrArg va_rf er_3) ?_
      refine lv_astore (lv' := [(5, .ref (a (2 + (Int32.toNatClampNeg (V ad 0))))), (4, .null), (0, .ref (a 0)), (1, .int p0), (2, .ref ad), (3, .int p1)]) hx hb dX7_oweForWork_15 hl (by decide) rfl (fun ls hl => ?_)
      refine lv_aloadN hx hb dX7_oweForWork_17 (lv_at hl 1 rfl) ?_
      refine lv_ifnullN (tgt := 39) hx hb dX7_oweForWork_19 (by decide) ?_
      have hP9 := hP.part (cx := [(a 0, .inr (7, [.ref (a 1), .ref (a 10), .ref (a 23), .ref (a 24), .ref (a 26), .ref (a 29), .ref (a 34), .ref (a 43), .int (nI nh), .int (nI nf), .int clk, .int hi])), (a 1, .inl (cH, 8, .inr (.inr (.inr (.inr fH))))), (a 29, .inr (1, [.ref (a 30), .ref (a 31), .ref (a 32), .ref (a 33), .int (nI nd)])), (a 30, .inl (cI, 300, .inl fo)), (a 31, .inl (cI, 300, .inl fc)), (a 32, .inl (cI, 300, .inl fs)), (a 33, .inl (cI, 300, .inl fu)), (a 26, .inr (0, [.ref (a 27), .ref (a 28), .int cu0, .int cu1, .int cu2, .int cu3, .int cu4, .int cu5])), (a 27, .inl (cI, 7, .inl ft))]) [0, 1, 2, 3, 4, 5, 6, 7, 8] rfl
      have hD9 := hD.part (cx := [(a 0, .inr (7, [.ref (a 1), .ref (a 10), .ref (a 23), .ref (a 24), .ref (a 26), .ref (a 29), .ref (a 34), .ref (a 43), .int (nI nh), .int (nI nf), .int clk, .int hi])), (a 1, .inl (cH, 8, .inr (.inr (.inr (.inr fH))))), (a 29, .inr (1, [.ref (a 30), .ref (a 31), .ref (a 32), .ref (a 33), .int (nI nd)])), (a 30, .inl (cI, 300, .inl fo)), (a 31, .inl (cI, 300, .inl fc)), (a 32, .inl (cI, 300, .inl fs)), (a 33, .inl (cI, 300, .inl fu)), (a 26, .inr (0, [.ref (a 27), .ref (a 28), .int cu0, .int cu1, .int cu2, .int cu3, .int cu4, .int cu5])), (a 27, .inl (cI, 7, .inl ft))]) [0, 1, 2, 3, 4, 5, 6, 7, 8] (by decide) rfl
      have hK9 := hK.sub (tys' := [(cH, .object RX4), (cI, .int)]) [0, 1] rfl
      exact W.vret hx hb hr (fun t ht hW => ⟨⟨(V, nd, fo, fc, fs, fu), rfl, (by show _ ≤ _; omega), by rw [ht]; exact hP9, va_K.moved hW.alike hK9, hD9⟩, hS.F ht⟩) hS.2.2 dX7_oweForWork_39
  · refine zz_setv (.ref (a (2 + (Int32.toNatClampNeg p0)))) (congrArg va_rf er_1) ?_
    refine lv_astore (lv' := [(4, .ref (a (2 + (Int32.toNatClampNeg p0)))), (0, .ref (a 0)), (1, .int p0), (2, .ref ad), (3, .int p1)]) hx hb dX7_oweForWork_5 hl (by decide) rfl (fun ls hl => ?_)
    refine lv_aload_n hx hb dX7_oweForWork_7 rfl (lv_at hl 1 rfl) ?_
    refine lv_aload_n hx hb dX7_oweForWork_8 rfl (lv_at hl 3 rfl) ?_
    obtain ⟨kq_4, hq_4⟩ := zz_pg3 (X := [(a 0, .inr (7, [.ref (a 1), .ref (a 10), .ref (a 23), .ref (a 24), .ref (a 26), .ref (a 29), .ref (a 34), .ref (a 43), .int (nI nh), .int (nI nf), .int clk, .int hi])), (a 1, .inl (cH, 8, .inr (.inr (.inr (.inr fH))))), (a 29, .inr (1, [.ref (a 30), .ref (a 31), .ref (a 32), .ref (a 33), .int (nI nd)])), (a 30, .inl (cI, 300, .inl fo)), (a 31, .inl (cI, 300, .inl fc)), (a 32, .inl (cI, 300, .inl fs)), (a 33, .inl (cI, 300, .inl fu)), (a 26, .inr (0, [.ref (a 27), .ref (a 28), .int cu0, .int cu1, .int cu2, .int cu3, .int cu4, .int cu5])), (a 27, .inl (cI, 7, .inl ft))]) (V := V) hm hk
    have hDo := hD
    refine va_getN (D := (dC, dI)) (ci := 3) (v := .int (V ad 0)) (C := RX3) (T := TX3) (N := 7) hx hb hw zz_inX3 hown hK hP kq_4 hq_4 rfl 0 (by decide) (hN.use zz_n11) (fun _ h9 => h9) rfl dX7_oweForWork_9 ?_
    have hPc := hP.sub (ws' := [(a 0, .inr (7, [.ref (a 1), .ref (a 10), .ref (a 23), .ref (a 24), .ref (a 26), .ref (a 29), .ref (a 34), .ref (a 43), .int (nI nh), .int (nI nf), .int clk, .int hi])), (a 1, .inl (cH, 8, .inr (.inr (.inr (.inr fH)))))]) [0, 1] rfl
    have hDc := hD.sub (ws' := [(a 0, .inr (7, [.ref (a 1), .ref (a 10), .ref (a 23), .ref (a 24), .ref (a 26), .ref (a 29), .ref (a 34), .ref (a 43), .int (nI nh), .int (nI nf), .int clk, .int hi])), (a 1, .inl (cH, 8, .inr (.inr (.inr (.inr fH)))))]) [0, 1] (by decide) rfl
    have hKc := hK.sub (tys' := [(cH, .object RX4)]) [0] rfl
    have hFc := zz_free0 hS hA
    refine va_callq (va_runV (As := [.int (V ad 0)]) (rest := []) ⟨hx, hb, hml, hown, hw⟩ (k_houseAt l dC dI a nh nf clk hi cH fH (V ad 0) H.size (by omega) (by omega) hfH) ⟨callB_of 1 hw (zz_good tw_8) rfl rfl rfl (hw _ tw_2) (hw _ tw_9) (by decide +kernel) ⟨Nat.le_of_ble_eq_true rfl, Nat.le_of_ble_eq_true rfl⟩, (hw _ tw_10), (hw _ tw_11)⟩ ⟨zz_blind, va_recv hKc hPc (ci := 7) (q0 := 0) rfl rfl, zz_pre hPc hKc hDc hN⟩ rfl rfl hl.1 rfl (lv_room (Nat.le_of_ble_eq_true rfl)) dX7_oweForWork_12 ⟨Nat.le_of_ble_eq_true rfl, Nat.le_of_ble_eq_true rfl⟩) hS (fun q _ h => hFc q h) hFc (fun r_5 u_5 t H1 locs ht hvm e_5 hB hz1 hk1 hS => ?_)
    try dsimp only at e_5
    have hP := zz_keep hP hk1
    clear hk1 hB ht hvm
    generalize H1 = H at hP hS ⊢
    have hP : va_P (dC, dI) vwCl ([(a 0, .inr (7, [.ref (a 1), .ref (a 10), .ref (a 23), .ref (a 24), .ref (a 26), .ref (a 29), .ref (a 34), .ref (a 43), .int (nI nh), .int (nI nf), .int clk, .int hi])), (a 1, .inl (cH, 8, .inr (.inr (.inr (.inr fH))))), (a 29, .inr (1, [.ref (a 30), .ref (a 31), .ref (a 32), .ref (a 33), .int (nI nd)])), (a 30, .inl (cI, 300, .inl fo)), (a 31, .inl (cI, 300, .inl fc)), (a 32, .inl (cI, 300, .inl fs)), (a 33, .inl (cI, 300, .inl fu)), (a 26, .inr (0, [.ref (a 27), .ref (a 28), .int cu0, .int cu1, .int cu2, .int cu3, .int cu4, .int cu5])), (a 27, .inl (cI, 7, .inl ft))] ++ va_pl L (zz_F K V)) H := hP
    have hD : va_D A ([(a 0, .inr (7, [.ref (a 1), .ref (a 10), .ref (a 23), .ref (a 24), .ref (a 26), .ref (a 29), .ref (a 34), .ref (a 43), .int (nI nh), .int (nI nf), .int clk, .int hi])), (a 1, .inl (cH, 8, .inr (.inr (.inr (.inr fH))))), (a 29, .inr (1, [.ref (a 30), .ref (a 31), .ref (a 32), .ref (a 33), .int (nI nd)])), (a 30, .inl (cI, 300, .inl fo)), (a 31, .inl (cI, 300, .inl fc)), (a 32, .inl (cI, 300, .inl fs)), (a 33, .inl (cI, 300, .inl fu)), (a 26, .inr (0, [.ref (a 27), .ref (a 28), .int cu0, .int cu1, .int cu2, .int cu3, .int cu4, .int cu5])), (a 27, .inl (cI, 7, .inl ft))] ++ va_pl L (zz_F K V)) := hD
    rcases e_5 with ⟨er_5, nk_5⟩ | ⟨er_5, nk_5⟩
    · refine zz_setv (.null) (congrArg va_rf er_5) ?_
      refine lv_astoreN (lv' := [(5, .null), (4, .ref (a (2 + (Int32.toNatClampNeg p0)))), (0, .ref (a 0)), (1, .int p0), (2, .ref ad), (3, .int p1)]) hx hb dX7_oweForWork_15 hl (by decide) rfl (fun ls hl => ?_)
      refine lv_aload hx hb dX7_oweForWork_17 (lv_at hl 1 rfl) ?_
      refine lv_ifnull hx hb dX7_oweForWork_19 ?_
      refine lv_aloadN hx hb dX7_oweForWork_22 (lv_at hl 0 rfl) ?_
      refine lv_ifnullN (tgt := 39) hx hb dX7_oweForWork_24 (by decide) ?_
      have hP9 := hP.part (cx := [(a 0, .inr (7, [.ref (a 1), .ref (a 10), .ref (a 23), .ref (a 24), .ref (a 26), .ref (a 29), .ref (a 34), .ref (a 43), .int (nI nh), .int (nI nf), .int clk, .int hi])), (a 1, .inl (cH, 8, .inr (.inr (.inr (.inr fH))))), (a 29, .inr (1, [.ref (a 30), .ref (a 31), .ref (a 32), .ref (a 33), .int (nI nd)])), (a 30, .inl (cI, 300, .inl fo)), (a 31, .inl (cI, 300, .inl fc)), (a 32, .inl (cI, 300, .inl fs)), (a 33, .inl (cI, 300, .inl fu)), (a 26, .inr (0, [.ref (a 27), .ref (a 28), .int cu0, .int cu1, .int cu2, .int cu3, .int cu4, .int cu5])), (a 27, .inl (cI, 7, .inl ft))]) [0, 1, 2, 3, 4, 5, 6, 7, 8] rfl
      have hD9 := hD.part (cx := [(a 0, .inr (7, [.ref (a 1), .ref (a 10), .ref (a 23), .ref (a 24), .ref (a 26), .ref (a 29), .ref (a 34), .ref (a 43), .int (nI nh), .int (nI nf), .int clk, .int hi])), (a 1, .inl (cH, 8, .inr (.inr (.inr (.inr fH))))), (a 29, .inr (1, [.ref (a 30), .ref (a 31), .ref (a 32), .ref (a 33), .int (nI nd)])), (a 30, .inl (cI, 300, .inl fo)), (a 31, .inl (cI, 300, .inl fc)), (a 32, .inl (cI, 300, .inl fs)), (a 33, .inl (cI, 300, .inl fu)), (a 26, .inr (0, [.ref (a 27), .ref (a 28), .int cu0, .int cu1, .int cu2, .int cu3, .int cu4, .int cu5])), (a 27, .inl (cI, 7, .inl ft))]) [0, 1, 2, 3, 4, 5, 6, 7, 8] (by decide) rfl
      have hK9 := hK.sub (tys' := [(cH, .object RX4), (cI, .int)]) [0, 1] rfl
      exact W.vret hx hb hr (fun t ht hW => ⟨⟨(V, nd, fo, fc, fs, fu), rfl, (by show _ ≤ _; omega), by rw [ht]; exact hP9, va_K.moved hW.alike hK9, hD9⟩, hS.F ht⟩) hS.2.2 dX7_oweForWork_39
    · refine zz_setv (.ref (a (2 + (Int32.toNatClampNeg (V ad 0))))) (congrArg va_rf er_5) ?_
      refine lv_astore (lv' := [(5, .ref (a (2 + (Int32.toNatClampNeg (V ad 0))))), (4, .ref (a (2 + (Int32.toNatClampNeg p0)))), (0, .ref (a 0)), (1, .int p0), (2, .ref ad), (3, .int p1)]) hx hb dX7_oweForWork_15 hl (by decide) rfl (fun ls hl => ?_)
      refine lv_aload hx hb dX7_oweForWork_17 (lv_at hl 1 rfl) ?_
      refine lv_ifnull hx hb dX7_oweForWork_19 ?_
      refine lv_aload hx hb dX7_oweForWork_22 (lv_at hl 0 rfl) ?_
      refine lv_ifnull hx hb dX7_oweForWork_24 ?_
      refine lv_aload_n hx hb dX7_oweForWork_27 rfl (lv_at hl 4 rfl) ?_
      obtain ⟨kq_6, hq_6⟩ := zz_pg3 (X := [(a 0, .inr (7, [.ref (a 1), .ref (a 10), .ref (a 23), .ref (a 24), .ref (a 26), .ref (a 29), .ref (a 34), .ref (a 43), .int (nI nh), .int (nI nf), .int clk, .int hi])), (a 1, .inl (cH, 8, .inr (.inr (.inr (.inr fH))))), (a 29, .inr (1, [.ref (a 30), .ref (a 31), .ref (a 32), .ref (a 33), .int (nI nd)])), (a 30, .inl (cI, 300, .inl fo)), (a 31, .inl (cI, 300, .inl fc)), (a 32, .inl (cI, 300, .inl fs)), (a 33, .inl (cI, 300, .inl fu)), (a 26, .inr (0, [.ref (a 27), .ref (a 28), .int cu0, .int cu1, .int cu2, .int cu3, .int cu4, .int cu5])), (a 27, .inl (cI, 7, .inl ft))]) (V := V) hm hk
      have hDo := hD
      refine va_getN (D := (dC, dI)) (ci := 3) (v := .int (V ad 1)) (C := RX3) (T := TX3) (N := 7) hx hb hw zz_inX3 hown hK hP kq_6 hq_6 rfl 1 (by decide) (hN.use zz_n12) (fun _ h9 => h9) rfl dX7_oweForWork_28 ?_
      refine lv_iconst (v := 0) hx hb dX7_oweForWork_31 (by decide) ?_
      refine lv_iconst (v := 2) hx hb dX7_oweForWork_32 (by decide) ?_
      have hPc := hP.sub (ws' := []) [] rfl
      have hDc := hD.sub (ws' := []) [] (by decide) rfl
      have hKc := hK.sub (tys' := []) [] rfl
      have hFc := zz_free0 hS hA
      refine va_calli (va_runS (As := [.int (V ad 1), .int 0, .int 2]) (rest := []) ⟨hx, hb, hml, hown, hw⟩ (k_within l dC dI (V ad 1) 0 2 H.size) ⟨callB_of 3 hw (zz_good tw_1) rfl rfl rfl (hw _ tw_2) (hw _ tw_3) (by decide +kernel) ⟨Nat.le_of_ble_eq_true rfl, Nat.le_of_ble_eq_true rfl⟩, (hw _ tw_4)⟩ ⟨zz_blind, zz_pre hPc hKc hDc hN⟩ rfl rfl hl.1 rfl (lv_room (Nat.le_of_ble_eq_true rfl)) dX7_oweForWork_33 ⟨Nat.le_of_ble_eq_true rfl, Nat.le_of_ble_eq_true rfl⟩) hS (fun q _ h => hFc q h) hFc (fun r_7 u_7 t H1 locs ht hvm e_7 hB hz1 hk1 hS => ?_)
      try dsimp only at e_7
      have hP := zz_keep hP hk1
      clear hk1 hB ht hvm
      generalize H1 = H at hP hS ⊢
      have hP : va_P (dC, dI) vwCl ([(a 0, .inr (7, [.ref (a 1), .ref (a 10), .ref (a 23), .ref (a 24), .ref (a 26), .ref (a 29), .ref (a 34), .ref (a 43), .int (nI nh), .int (nI nf), .int clk, .int hi])), (a 1, .inl (cH, 8, .inr (.inr (.inr (.inr fH))))), (a 29, .inr (1, [.ref (a 30), .ref (a 31), .ref (a 32), .ref (a 33), .int (nI nd)])), (a 30, .inl (cI, 300, .inl fo)), (a 31, .inl (cI, 300, .inl fc)), (a 32, .inl (cI, 300, .inl fs)), (a 33, .inl (cI, 300, .inl fu)), (a 26, .inr (0, [.ref (a 27), .ref (a 28), .int cu0, .int cu1, .int cu2, .int cu3, .int cu4, .int cu5])), (a 27, .inl (cI, 7, .inl ft))] ++ va_pl L (zz_F K V)) H := hP
      have hD : va_D A ([(a 0, .inr (7, [.ref (a 1), .ref (a 10), .ref (a 23), .ref (a 24), .ref (a 26), .ref (a 29), .ref (a 34), .ref (a 43), .int (nI nh), .int (nI nf), .int clk, .int hi])), (a 1, .inl (cH, 8, .inr (.inr (.inr (.inr fH))))), (a 29, .inr (1, [.ref (a 30), .ref (a 31), .ref (a 32), .ref (a 33), .int (nI nd)])), (a 30, .inl (cI, 300, .inl fo)), (a 31, .inl (cI, 300, .inl fc)), (a 32, .inl (cI, 300, .inl fs)), (a 33, .inl (cI, 300, .inl fu)), (a 26, .inr (0, [.ref (a 27), .ref (a 28), .int cu0, .int cu1, .int cu2, .int cu3, .int cu4, .int cu5])), (a 27, .inl (cI, 7, .inl ft))] ++ va_pl L (zz_F K V)) := hD
      refine lv_if_ne (tgt := 40) hx hb dX7_oweForWork_36 (by decide) (fun c_8 => ?_) (fun c_8 => ?_)
      · have zc_8 := c_8
        rw [e_7, zz_in0, Int32.le_iff_toInt_le, Int32.le_iff_toInt_le] at zc_8
        try rw [show (0 : Int32).toInt = 0 from by decide] at zc_8
        try rw [show (2 : Int32).toInt = 2 from by decide] at zc_8
        refine lv_aload_n hx hb dX7_oweForWork_40 rfl (lv_at hl 2 rfl) ?_
        refine va_get (D := (dC, dI)) (ci := 7) (v := .ref (a 29)) (C := RX7) (T := TX7) (N := 12) hx hb hw zz_inX7 hown hK hP 0 rfl rfl 5 (by decide) (hw _ tw_44) (fun _ h9 => h9) rfl dX7_oweForWork_41 ?_
        refine lv_iload_n hx hb dX7_oweForWork_44 rfl (lv_at hl 3 rfl) ?_
        refine lv_aload_n hx hb dX7_oweForWork_45 rfl (lv_at hl 4 rfl) ?_
        obtain ⟨kq_9, hq_9⟩ := zz_pg3 (X := [(a 0, .inr (7, [.ref (a 1), .ref (a 10), .ref (a 23), .ref (a 24), .ref (a 26), .ref (a 29), .ref (a 34), .ref (a 43), .int (nI nh), .int (nI nf), .int clk, .int hi])), (a 1, .inl (cH, 8, .inr (.inr (.inr (.inr fH))))), (a 29, .inr (1, [.ref (a 30), .ref (a 31), .ref (a 32), .ref (a 33), .int (nI nd)])), (a 30, .inl (cI, 300, .inl fo)), (a 31, .inl (cI, 300, .inl fc)), (a 32, .inl (cI, 300, .inl fs)), (a 33, .inl (cI, 300, .inl fu)), (a 26, .inr (0, [.ref (a 27), .ref (a 28), .int cu0, .int cu1, .int cu2, .int cu3, .int cu4, .int cu5])), (a 27, .inl (cI, 7, .inl ft))]) (V := V) hm hk
        have hDo := hD
        refine va_getN (D := (dC, dI)) (ci := 3) (v := .int (V ad 0)) (C := RX3) (T := TX3) (N := 7) hx hb hw zz_inX3 hown hK hP kq_9 hq_9 rfl 0 (by decide) (hN.use zz_n11) (fun _ h9 => h9) rfl dX7_oweForWork_46 ?_
        refine lv_iload_n hx hb dX7_oweForWork_49 rfl (lv_at hl 5 rfl) ?_
        refine lv_aload_n hx hb dX7_oweForWork_50 rfl (lv_at hl 2 rfl) ?_
        refine va_get (D := (dC, dI)) (ci := 7) (v := .ref (a 26)) (C := RX7) (T := TX7) (N := 12) hx hb hw zz_inX7 hown hK hP 0 rfl rfl 4 (by decide) (hw _ tw_45) (fun _ h9 => h9) rfl dX7_oweForWork_51 ?_
        refine va_getN (D := (dC, dI)) (ci := 0) (v := .ref (a 27)) (C := RX0) (T := TX0) (N := 8) hx hb hw zz_inX0 hown hK hP 7 rfl rfl 0 (by decide) (hN.use zz_n26) (fun _ h9 => h9) rfl dX7_oweForWork_54 ?_
        refine lv_aload_n hx hb dX7_oweForWork_57 rfl (lv_at hl 4 rfl) ?_
        obtain ⟨kq_10, hq_10⟩ := zz_pg3 (X := [(a 0, .inr (7, [.ref (a 1), .ref (a 10), .ref (a 23), .ref (a 24), .ref (a 26), .ref (a 29), .ref (a 34), .ref (a 43), .int (nI nh), .int (nI nf), .int clk, .int hi])), (a 1, .inl (cH, 8, .inr (.inr (.inr (.inr fH))))), (a 29, .inr (1, [.ref (a 30), .ref (a 31), .ref (a 32), .ref (a 33), .int (nI nd)])), (a 30, .inl (cI, 300, .inl fo)), (a 31, .inl (cI, 300, .inl fc)), (a 32, .inl (cI, 300, .inl fs)), (a 33, .inl (cI, 300, .inl fu)), (a 26, .inr (0, [.ref (a 27), .ref (a 28), .int cu0, .int cu1, .int cu2, .int cu3, .int cu4, .int cu5])), (a 27, .inl (cI, 7, .inl ft))]) (V := V) hm hk
        have hDo := hD
        refine va_getN (D := (dC, dI)) (ci := 3) (v := .int (V ad 1)) (C := RX3) (T := TX3) (N := 7) hx hb hw zz_inX3 hown hK hP kq_10 hq_10 rfl 1 (by decide) (hN.use zz_n12) (fun _ h9 => h9) rfl dX7_oweForWork_58 ?_
        refine va_iald hx hb hK hP 8 1 rfl rfl (vp_in_iff.mpr (by constructor <;> omega)) dX7_oweForWork_61 ?_
        refine lv_imul hx hb dX7_oweForWork_62 ?_
        have hPc := hP.sub (ws' := [(a 29, .inr (1, [.ref (a 30), .ref (a 31), .ref (a 32), .ref (a 33), .int (nI nd)])), (a 30, .inl (cI, 300, .inl fo)), (a 31, .inl (cI, 300, .inl fc)), (a 32, .inl (cI, 300, .inl fs)), (a 33, .inl (cI, 300, .inl fu))]) [2, 3, 4, 5, 6] rfl
        have hDc := hD.sub (ws' := [(a 29, .inr (1, [.ref (a 30), .ref (a 31), .ref (a 32), .ref (a 33), .int (nI nd)])), (a 30, .inl (cI, 300, .inl fo)), (a 31, .inl (cI, 300, .inl fc)), (a 32, .inl (cI, 300, .inl fs)), (a 33, .inl (cI, 300, .inl fu))]) [2, 3, 4, 5, 6] (by decide) rfl
        have hKc := hK.sub (tys' := [(cI, .int)]) [1] rfl
        have hFc := va_free (wc := [(a 29, .inr (1, [.ref (a 30), .ref (a 31), .ref (a 32), .ref (a 33), .int (nI nd)])), (a 30, .inl (cI, 300, .inl fo)), (a 31, .inl (cI, 300, .inl fc)), (a 32, .inl (cI, 300, .inl fs)), (a 33, .inl (cI, 300, .inl fu))]) hD hS hA [2, 3, 4, 5, 6] rfl
        refine va_calli (va_runVN (As := [.int p0, .int (V ad 0), .int (p1 * (ft (Int32.toNatClampNeg (V ad 1))))]) (rest := []) ⟨hx, hb, hml, hown, hw⟩ (k_lessen l dC dI a cI nd fo fc fs fu p0 (V ad 0) (p1 * (ft (Int32.toNatClampNeg (V ad 1)))) H.size (by omega)) ⟨va_cnB 3 hw (zz_good tw_46) rfl rfl rfl (hN.1 _ zz_n54) (hw _ tw_16) (by decide +kernel) ⟨Nat.le_of_ble_eq_true rfl, Nat.le_of_ble_eq_true rfl⟩, (hw _ tw_47), (hw _ tw_48)⟩ ⟨zz_blind, va_recv hKc hPc (ci := 1) (q0 := 0) rfl rfl, zz_pre hPc hKc hDc hN⟩ rfl rfl hl.1 rfl (lv_room (Nat.le_of_ble_eq_true rfl)) dX7_oweForWork_63 ⟨Nat.le_of_ble_eq_true rfl, Nat.le_of_ble_eq_true rfl⟩) hS (fun q _ h => hFc q h) hFc (fun r_11 u_11 t H1 locs ht hvm e_11 hB hz1 hk1 hS => ?_)
        try dsimp only at e_11
        obtain ⟨v_11_0, v_11_1, v_11_2, v_11_3, v_11_4⟩ := u_11
        obtain ⟨hP1, hK1, hD1⟩ := hB
        rw [ht] at hP1
        have hK1 := va_K.moved hvm.symm hK1
        try dsimp only at e_11
        obtain ⟨hP, hD⟩ := va_joinQ (wr := [(a 0, .inr (7, [.ref (a 1), .ref (a 10), .ref (a 23), .ref (a 24), .ref (a 26), .ref (a 29), .ref (a 34), .ref (a 43), .int (nI nh), .int (nI nf), .int clk, .int hi])), (a 1, .inl (cH, 8, .inr (.inr (.inr (.inr fH))))), (a 26, .inr (0, [.ref (a 27), .ref (a 28), .int cu0, .int cu1, .int cu2, .int cu3, .int cu4, .int cu5])), (a 27, .inl (cI, 7, .inl ft))]) (w1 := [(a 29, .inr (1, [.ref (a 30), .ref (a 31), .ref (a 32), .ref (a 33), .int (nI v_11_0)])), (a 30, .inl (cI, 300, .inl v_11_1)), (a 31, .inl (cI, 300, .inl v_11_2)), (a 32, .inl (cI, 300, .inl v_11_3)), (a 33, .inl (cI, 300, .inl v_11_4))]) hP hD [2, 3, 4, 5, 6] [0, 1, 7, 8] rfl rfl (by decide) (by decide) hk1 hFc hP1 hD1
        clear hk1 ht hvm
        generalize H1 = H at hP hS ⊢
        have hP : va_P (dC, dI) vwCl ([(a 0, .inr (7, [.ref (a 1), .ref (a 10), .ref (a 23), .ref (a 24), .ref (a 26), .ref (a 29), .ref (a 34), .ref (a 43), .int (nI nh), .int (nI nf), .int clk, .int hi])), (a 1, .inl (cH, 8, .inr (.inr (.inr (.inr fH))))), (a 26, .inr (0, [.ref (a 27), .ref (a 28), .int cu0, .int cu1, .int cu2, .int cu3, .int cu4, .int cu5])), (a 27, .inl (cI, 7, .inl ft)), (a 29, .inr (1, [.ref (a 30), .ref (a 31), .ref (a 32), .ref (a 33), .int (nI v_11_0)])), (a 30, .inl (cI, 300, .inl v_11_1)), (a 31, .inl (cI, 300, .inl v_11_2)), (a 32, .inl (cI, 300, .inl v_11_3)), (a 33, .inl (cI, 300, .inl v_11_4))] ++ va_pl L (zz_F K V)) H := hP
        have hD : va_D A ([(a 0, .inr (7, [.ref (a 1), .ref (a 10), .ref (a 23), .ref (a 24), .ref (a 26), .ref (a 29), .ref (a 34), .ref (a 43), .int (nI nh), .int (nI nf), .int clk, .int hi])), (a 1, .inl (cH, 8, .inr (.inr (.inr (.inr fH))))), (a 26, .inr (0, [.ref (a 27), .ref (a 28), .int cu0, .int cu1, .int cu2, .int cu3, .int cu4, .int cu5])), (a 27, .inl (cI, 7, .inl ft)), (a 29, .inr (1, [.ref (a 30), .ref (a 31), .ref (a 32), .ref (a 33), .int (nI v_11_0)])), (a 30, .inl (cI, 300, .inl v_11_1)), (a 31, .inl (cI, 300, .inl v_11_2)), (a 32, .inl (cI, 300, .inl v_11_3)), (a 33, .inl (cI, 300, .inl v_11_4))] ++ va_pl L (zz_F K V)) := hD
        refine lv_istore (lv' := [(6, .int r_11), (5, .ref (a (2 + (Int32.toNatClampNeg (V ad 0))))), (4, .ref (a (2 + (Int32.toNatClampNeg p0)))), (0, .ref (a 0)), (1, .int p0), (2, .ref ad), (3, .int p1)]) hx hb dX7_oweForWork_66 hl (by decide) rfl (fun ls hl => ?_)
        refine lv_aload_n hx hb dX7_oweForWork_68 rfl (lv_at hl 3 rfl) ?_
        refine va_get (D := (dC, dI)) (ci := 7) (v := .ref (a 29)) (C := RX7) (T := TX7) (N := 12) hx hb hw zz_inX7 hown hK hP 0 rfl rfl 5 (by decide) (hw _ tw_44) (fun _ h9 => h9) rfl dX7_oweForWork_69 ?_
        refine lv_aload_n hx hb dX7_oweForWork_72 rfl (lv_at hl 5 rfl) ?_
        obtain ⟨kq_12, hq_12⟩ := zz_pg3 (X := [(a 0, .inr (7, [.ref (a 1), .ref (a 10), .ref (a 23), .ref (a 24), .ref (a 26), .ref (a 29), .ref (a 34), .ref (a 43), .int (nI nh), .int (nI nf), .int clk, .int hi])), (a 1, .inl (cH, 8, .inr (.inr (.inr (.inr fH))))), (a 26, .inr (0, [.ref (a 27), .ref (a 28), .int cu0, .int cu1, .int cu2, .int cu3, .int cu4, .int cu5])), (a 27, .inl (cI, 7, .inl ft)), (a 29, .inr (1, [.ref (a 30), .ref (a 31), .ref (a 32), .ref (a 33), .int (nI v_11_0)])), (a 30, .inl (cI, 300, .inl v_11_1)), (a 31, .inl (cI, 300, .inl v_11_2)), (a 32, .inl (cI, 300, .inl v_11_3)), (a 33, .inl (cI, 300, .inl v_11_4))]) (V := V) hm hk
        have hDo := hD
        refine va_getN (D := (dC, dI)) (ci := 3) (v := .int (V ad 0)) (C := RX3) (T := TX3) (N := 7) hx hb hw zz_inX3 hown hK hP kq_12 hq_12 rfl 0 (by decide) (hN.use zz_n11) (fun _ h9 => h9) rfl dX7_oweForWork_73 ?_
        refine lv_iload_n hx hb dX7_oweForWork_76 rfl (lv_at hl 4 rfl) ?_
        refine lv_aload_n hx hb dX7_oweForWork_77 rfl (lv_at hl 3 rfl) ?_
        refine va_get (D := (dC, dI)) (ci := 7) (v := .int clk) (C := RX7) (T := TX7) (N := 12) hx hb hw zz_inX7 hown hK hP 0 rfl rfl 10 (by decide) (hw _ tw_39) (fun _ h9 => h9) rfl dX7_oweForWork_78 ?_
        refine lv_iload hx hb dX7_oweForWork_81 (lv_at hl 0 rfl) ?_
        have hPc := hP.sub (ws' := [(a 29, .inr (1, [.ref (a 30), .ref (a 31), .ref (a 32), .ref (a 33), .int (nI v_11_0)])), (a 30, .inl (cI, 300, .inl v_11_1)), (a 31, .inl (cI, 300, .inl v_11_2)), (a 32, .inl (cI, 300, .inl v_11_3)), (a 33, .inl (cI, 300, .inl v_11_4))]) [4, 5, 6, 7, 8] rfl
        have hDc := hD.sub (ws' := [(a 29, .inr (1, [.ref (a 30), .ref (a 31), .ref (a 32), .ref (a 33), .int (nI v_11_0)])), (a 30, .inl (cI, 300, .inl v_11_1)), (a 31, .inl (cI, 300, .inl v_11_2)), (a 32, .inl (cI, 300, .inl v_11_3)), (a 33, .inl (cI, 300, .inl v_11_4))]) [4, 5, 6, 7, 8] (by decide) rfl
        have hKc := hK.sub (tys' := [(cI, .int)]) [1] rfl
        have hFc := va_free (wc := [(a 29, .inr (1, [.ref (a 30), .ref (a 31), .ref (a 32), .ref (a 33), .int (nI v_11_0)])), (a 30, .inl (cI, 300, .inl v_11_1)), (a 31, .inl (cI, 300, .inl v_11_2)), (a 32, .inl (cI, 300, .inl v_11_3)), (a 33, .inl (cI, 300, .inl v_11_4))]) hD hS hA [4, 5, 6, 7, 8] rfl
        refine va_callv (va_runVN (As := [.int (V ad 0), .int p0, .int clk, .int r_11]) (rest := []) ⟨hx, hb, hml, hown, hw⟩ (k_put l dC dI a cI v_11_0 v_11_1 v_11_2 v_11_3 v_11_4 (V ad 0) p0 clk r_11 H.size (by omega)) ⟨va_cnB 4 hw (zz_good tw_49) rfl rfl rfl (hN.1 _ zz_n55) (hw _ tw_16) (by decide +kernel) ⟨Nat.le_of_ble_eq_true rfl, Nat.le_of_ble_eq_true rfl⟩, (hw _ tw_50), (hw _ tw_51)⟩ ⟨zz_blind, va_recv hKc hPc (ci := 1) (q0 := 0) rfl rfl, zz_pre hPc hKc hDc hN⟩ rfl rfl hl.1 rfl (lv_room (Nat.le_of_ble_eq_true rfl)) dX7_oweForWork_83 ⟨Nat.le_of_ble_eq_true rfl, Nat.le_of_ble_eq_true rfl⟩) hS (fun q _ h => hFc q h) hFc (fun u_13 t H1 locs ht hvm e_13 hB hz1 hk1 hS => ?_)
        try dsimp only at e_13
        obtain ⟨v_13_0, v_13_1, v_13_2, v_13_3, v_13_4⟩ := u_13
        obtain ⟨hP1, hK1, hD1⟩ := hB
        rw [ht] at hP1
        have hK1 := va_K.moved hvm.symm hK1
        try dsimp only at e_13
        obtain ⟨hP, hD⟩ := va_joinQ (wr := [(a 0, .inr (7, [.ref (a 1), .ref (a 10), .ref (a 23), .ref (a 24), .ref (a 26), .ref (a 29), .ref (a 34), .ref (a 43), .int (nI nh), .int (nI nf), .int clk, .int hi])), (a 1, .inl (cH, 8, .inr (.inr (.inr (.inr fH))))), (a 26, .inr (0, [.ref (a 27), .ref (a 28), .int cu0, .int cu1, .int cu2, .int cu3, .int cu4, .int cu5])), (a 27, .inl (cI, 7, .inl ft))]) (w1 := [(a 29, .inr (1, [.ref (a 30), .ref (a 31), .ref (a 32), .ref (a 33), .int (nI v_13_0)])), (a 30, .inl (cI, 300, .inl v_13_1)), (a 31, .inl (cI, 300, .inl v_13_2)), (a 32, .inl (cI, 300, .inl v_13_3)), (a 33, .inl (cI, 300, .inl v_13_4))]) hP hD [4, 5, 6, 7, 8] [0, 1, 2, 3] rfl rfl (by decide) (by decide) hk1 hFc hP1 hD1
        clear hk1 ht hvm
        generalize H1 = H at hP hS ⊢
        have hP : va_P (dC, dI) vwCl ([(a 0, .inr (7, [.ref (a 1), .ref (a 10), .ref (a 23), .ref (a 24), .ref (a 26), .ref (a 29), .ref (a 34), .ref (a 43), .int (nI nh), .int (nI nf), .int clk, .int hi])), (a 1, .inl (cH, 8, .inr (.inr (.inr (.inr fH))))), (a 26, .inr (0, [.ref (a 27), .ref (a 28), .int cu0, .int cu1, .int cu2, .int cu3, .int cu4, .int cu5])), (a 27, .inl (cI, 7, .inl ft)), (a 29, .inr (1, [.ref (a 30), .ref (a 31), .ref (a 32), .ref (a 33), .int (nI v_13_0)])), (a 30, .inl (cI, 300, .inl v_13_1)), (a 31, .inl (cI, 300, .inl v_13_2)), (a 32, .inl (cI, 300, .inl v_13_3)), (a 33, .inl (cI, 300, .inl v_13_4))] ++ va_pl L (zz_F K V)) H := hP
        have hD : va_D A ([(a 0, .inr (7, [.ref (a 1), .ref (a 10), .ref (a 23), .ref (a 24), .ref (a 26), .ref (a 29), .ref (a 34), .ref (a 43), .int (nI nh), .int (nI nf), .int clk, .int hi])), (a 1, .inl (cH, 8, .inr (.inr (.inr (.inr fH))))), (a 26, .inr (0, [.ref (a 27), .ref (a 28), .int cu0, .int cu1, .int cu2, .int cu3, .int cu4, .int cu5])), (a 27, .inl (cI, 7, .inl ft)), (a 29, .inr (1, [.ref (a 30), .ref (a 31), .ref (a 32), .ref (a 33), .int (nI v_13_0)])), (a 30, .inl (cI, 300, .inl v_13_1)), (a 31, .inl (cI, 300, .inl v_13_2)), (a 32, .inl (cI, 300, .inl v_13_3)), (a 33, .inl (cI, 300, .inl v_13_4))] ++ va_pl L (zz_F K V)) := hD
        refine lv_iload_n hx hb dX7_oweForWork_86 rfl (lv_at hl 6 rfl) ?_
        refine lv_aload_n hx hb dX7_oweForWork_87 rfl (lv_at hl 3 rfl) ?_
        refine va_get (D := (dC, dI)) (ci := 7) (v := .ref (a 26)) (C := RX7) (T := TX7) (N := 12) hx hb hw zz_inX7 hown hK hP 0 rfl rfl 4 (by decide) (hw _ tw_45) (fun _ h9 => h9) rfl dX7_oweForWork_88 ?_
        refine va_getN (D := (dC, dI)) (ci := 0) (v := .ref (a 27)) (C := RX0) (T := TX0) (N := 8) hx hb hw zz_inX0 hown hK hP 2 rfl rfl 0 (by decide) (hN.use zz_n26) (fun _ h9 => h9) rfl dX7_oweForWork_91 ?_
        refine lv_iconst (v := 5) hx hb dX7_oweForWork_94 (by decide) ?_
        refine va_iald hx hb hK hP 3 1 rfl rfl (zz_vin (by decide)) dX7_oweForWork_95 ?_
        refine lv_imul hx hb dX7_oweForWork_96 ?_
        refine lv_istore (lv' := [(7, .int (p1 * (ft (Int32.toNatClampNeg 5)))), (6, .int r_11), (5, .ref (a (2 + (Int32.toNatClampNeg (V ad 0))))), (4, .ref (a (2 + (Int32.toNatClampNeg p0)))), (0, .ref (a 0)), (1, .int p0), (2, .ref ad), (3, .int p1)]) hx hb dX7_oweForWork_97 hl (by decide) rfl (fun ls hl => ?_)
        refine lv_aload hx hb dX7_oweForWork_99 (lv_at hl 3 rfl) ?_
        refine lv_dup hx hb dX7_oweForWork_101 rfl ?_
        obtain ⟨kq_14, hq_14⟩ := zz_pg4 (X := [(a 0, .inr (7, [.ref (a 1), .ref (a 10), .ref (a 23), .ref (a 24), .ref (a 26), .ref (a 29), .ref (a 34), .ref (a 43), .int (nI nh), .int (nI nf), .int clk, .int hi])), (a 1, .inl (cH, 8, .inr (.inr (.inr (.inr fH))))), (a 26, .inr (0, [.ref (a 27), .ref (a 28), .int cu0, .int cu1, .int cu2, .int cu3, .int cu4, .int cu5])), (a 27, .inl (cI, 7, .inl ft)), (a 29, .inr (1, [.ref (a 30), .ref (a 31), .ref (a 32), .ref (a 33), .int (nI v_13_0)])), (a 30, .inl (cI, 300, .inl v_13_1)), (a 31, .inl (cI, 300, .inl v_13_2)), (a 32, .inl (cI, 300, .inl v_13_3)), (a 33, .inl (cI, 300, .inl v_13_4))]) (V := V) (hH (Int32.toNatClampNeg p0) (zz_lt nk_1 hc8 (by omega))).1 (hH (Int32.toNatClampNeg p0) (zz_lt nk_1 hc8 (by omega))).2
        have hDo := hD
        refine va_getN (D := (dC, dI)) (ci := 4) (v := .int (V (a (2 + (Int32.toNatClampNeg p0))) 4)) (C := RX4) (T := TX4) (N := 9) hx hb hw zz_inX4 hown hK hP kq_14 hq_14 rfl 4 (by decide) (hN.use zz_n5) (fun _ h9 => h9) rfl dX7_oweForWork_102 ?_
        refine lv_iload hx hb dX7_oweForWork_105 (lv_at hl 0 rfl) ?_
        refine lv_iadd hx hb dX7_oweForWork_107 ?_
        obtain ⟨kq_15, hq_15⟩ := zz_pg4 (X := [(a 0, .inr (7, [.ref (a 1), .ref (a 10), .ref (a 23), .ref (a 24), .ref (a 26), .ref (a 29), .ref (a 34), .ref (a 43), .int (nI nh), .int (nI nf), .int clk, .int hi])), (a 1, .inl (cH, 8, .inr (.inr (.inr (.inr fH))))), (a 26, .inr (0, [.ref (a 27), .ref (a 28), .int cu0, .int cu1, .int cu2, .int cu3, .int cu4, .int cu5])), (a 27, .inl (cI, 7, .inl ft)), (a 29, .inr (1, [.ref (a 30), .ref (a 31), .ref (a 32), .ref (a 33), .int (nI v_13_0)])), (a 30, .inl (cI, 300, .inl v_13_1)), (a 31, .inl (cI, 300, .inl v_13_2)), (a 32, .inl (cI, 300, .inl v_13_3)), (a 33, .inl (cI, 300, .inl v_13_4))]) (V := V) (hH (Int32.toNatClampNeg p0) (zz_lt nk_1 hc8 (by omega))).1 (hH (Int32.toNatClampNeg p0) (zz_lt nk_1 hc8 (by omega))).2
        have hDo := hD
        refine va_putN (D := (dC, dI)) (ci := 4) (v := .int ((V (a (2 + (Int32.toNatClampNeg p0))) 4) + (p1 * (ft (Int32.toNatClampNeg 5))))) (ty := .int) (C := RX4) (T := TX4) (N := 9) hx hb hw zz_inX4 tyX4 tyX4_ok nmX4 hown hK hP hD hS kq_15 hq_15 rfl 4 (by decide) (hN.use zz_n5) (fun _ h9 => h9) rfl (by decide +kernel) rfl rfl (Nat.le_of_ble_eq_true rfl) dX7_oweForWork_108 (fun H locs hP hD hS => ?_)
        have hP : va_P (dC, dI) vwCl (List.set (α := Nat × va_E) ([(a 0, .inr (7, [.ref (a 1), .ref (a 10), .ref (a 23), .ref (a 24), .ref (a 26), .ref (a 29), .ref (a 34), .ref (a 43), .int (nI nh), .int (nI nf), .int clk, .int hi])), (a 1, .inl (cH, 8, .inr (.inr (.inr (.inr fH))))), (a 26, .inr (0, [.ref (a 27), .ref (a 28), .int cu0, .int cu1, .int cu2, .int cu3, .int cu4, .int cu5])), (a 27, .inl (cI, 7, .inl ft)), (a 29, .inr (1, [.ref (a 30), .ref (a 31), .ref (a 32), .ref (a 33), .int (nI v_13_0)])), (a 30, .inl (cI, 300, .inl v_13_1)), (a 31, .inl (cI, 300, .inl v_13_2)), (a 32, .inl (cI, 300, .inl v_13_3)), (a 33, .inl (cI, 300, .inl v_13_4))] ++ va_pl L (zz_F K V)) kq_15 (a (2 + (Int32.toNatClampNeg p0)), .inr (4, [.int (V (a (2 + (Int32.toNatClampNeg p0))) 0), .int (V (a (2 + (Int32.toNatClampNeg p0))) 1), .int (V (a (2 + (Int32.toNatClampNeg p0))) 2), .int (V (a (2 + (Int32.toNatClampNeg p0))) 3), .int ((V (a (2 + (Int32.toNatClampNeg p0))) 4) + (p1 * (ft (Int32.toNatClampNeg 5)))), .int (V (a (2 + (Int32.toNatClampNeg p0))) 5), .int (V (a (2 + (Int32.toNatClampNeg p0))) 6), .int (V (a (2 + (Int32.toNatClampNeg p0))) 7), .int (V (a (2 + (Int32.toNatClampNeg p0))) 8)]))) H := hP
        have hD : va_D A (List.set (α := Nat × va_E) ([(a 0, .inr (7, [.ref (a 1), .ref (a 10), .ref (a 23), .ref (a 24), .ref (a 26), .ref (a 29), .ref (a 34), .ref (a 43), .int (nI nh), .int (nI nf), .int clk, .int hi])), (a 1, .inl (cH, 8, .inr (.inr (.inr (.inr fH))))), (a 26, .inr (0, [.ref (a 27), .ref (a 28), .int cu0, .int cu1, .int cu2, .int cu3, .int cu4, .int cu5])), (a 27, .inl (cI, 7, .inl ft)), (a 29, .inr (1, [.ref (a 30), .ref (a 31), .ref (a 32), .ref (a 33), .int (nI v_13_0)])), (a 30, .inl (cI, 300, .inl v_13_1)), (a 31, .inl (cI, 300, .inl v_13_2)), (a 32, .inl (cI, 300, .inl v_13_3)), (a 33, .inl (cI, 300, .inl v_13_4))] ++ va_pl L (zz_F K V)) kq_15 (a (2 + (Int32.toNatClampNeg p0)), .inr (4, [.int (V (a (2 + (Int32.toNatClampNeg p0))) 0), .int (V (a (2 + (Int32.toNatClampNeg p0))) 1), .int (V (a (2 + (Int32.toNatClampNeg p0))) 2), .int (V (a (2 + (Int32.toNatClampNeg p0))) 3), .int ((V (a (2 + (Int32.toNatClampNeg p0))) 4) + (p1 * (ft (Int32.toNatClampNeg 5)))), .int (V (a (2 + (Int32.toNatClampNeg p0))) 5), .int (V (a (2 + (Int32.toNatClampNeg p0))) 6), .int (V (a (2 + (Int32.toNatClampNeg p0))) 7), .int (V (a (2 + (Int32.toNatClampNeg p0))) 8)]))) := hD
        rw [zz_ps4_4 hDo (hH (Int32.toNatClampNeg p0) (zz_lt nk_1 hc8 (by omega))).1 (hH (Int32.toNatClampNeg p0) (zz_lt nk_1 hc8 (by omega))).2 hq_15] at hP hD
        have hP : va_P (dC, dI) vwCl ([(a 0, .inr (7, [.ref (a 1), .ref (a 10), .ref (a 23), .ref (a 24), .ref (a 26), .ref (a 29), .ref (a 34), .ref (a 43), .int (nI nh), .int (nI nf), .int clk, .int hi])), (a 1, .inl (cH, 8, .inr (.inr (.inr (.inr fH))))), (a 26, .inr (0, [.ref (a 27), .ref (a 28), .int cu0, .int cu1, .int cu2, .int cu3, .int cu4, .int cu5])), (a 27, .inl (cI, 7, .inl ft)), (a 29, .inr (1, [.ref (a 30), .ref (a 31), .ref (a 32), .ref (a 33), .int (nI v_13_0)])), (a 30, .inl (cI, 300, .inl v_13_1)), (a 31, .inl (cI, 300, .inl v_13_2)), (a 32, .inl (cI, 300, .inl v_13_3)), (a 33, .inl (cI, 300, .inl v_13_4))] ++ va_pl L (zz_F K (zz_put V (a (2 + (Int32.toNatClampNeg p0))) 4 ((V (a (2 + (Int32.toNatClampNeg p0))) 4) + (p1 * (ft (Int32.toNatClampNeg 5))))))) H := hP
        have hD : va_D A ([(a 0, .inr (7, [.ref (a 1), .ref (a 10), .ref (a 23), .ref (a 24), .ref (a 26), .ref (a 29), .ref (a 34), .ref (a 43), .int (nI nh), .int (nI nf), .int clk, .int hi])), (a 1, .inl (cH, 8, .inr (.inr (.inr (.inr fH))))), (a 26, .inr (0, [.ref (a 27), .ref (a 28), .int cu0, .int cu1, .int cu2, .int cu3, .int cu4, .int cu5])), (a 27, .inl (cI, 7, .inl ft)), (a 29, .inr (1, [.ref (a 30), .ref (a 31), .ref (a 32), .ref (a 33), .int (nI v_13_0)])), (a 30, .inl (cI, 300, .inl v_13_1)), (a 31, .inl (cI, 300, .inl v_13_2)), (a 32, .inl (cI, 300, .inl v_13_3)), (a 33, .inl (cI, 300, .inl v_13_4))] ++ va_pl L (zz_F K (zz_put V (a (2 + (Int32.toNatClampNeg p0))) 4 ((V (a (2 + (Int32.toNatClampNeg p0))) 4) + (p1 * (ft (Int32.toNatClampNeg 5))))))) := hD
        refine lv_aload hx hb dX7_oweForWork_111 (lv_at hl 2 rfl) ?_
        refine lv_dup hx hb dX7_oweForWork_113 rfl ?_
        obtain ⟨kq_16, hq_16⟩ := zz_pg4 (X := [(a 0, .inr (7, [.ref (a 1), .ref (a 10), .ref (a 23), .ref (a 24), .ref (a 26), .ref (a 29), .ref (a 34), .ref (a 43), .int (nI nh), .int (nI nf), .int clk, .int hi])), (a 1, .inl (cH, 8, .inr (.inr (.inr (.inr fH))))), (a 26, .inr (0, [.ref (a 27), .ref (a 28), .int cu0, .int cu1, .int cu2, .int cu3, .int cu4, .int cu5])), (a 27, .inl (cI, 7, .inl ft)), (a 29, .inr (1, [.ref (a 30), .ref (a 31), .ref (a 32), .ref (a 33), .int (nI v_13_0)])), (a 30, .inl (cI, 300, .inl v_13_1)), (a 31, .inl (cI, 300, .inl v_13_2)), (a 32, .inl (cI, 300, .inl v_13_3)), (a 33, .inl (cI, 300, .inl v_13_4))]) (V := (zz_put V (a (2 + (Int32.toNatClampNeg p0))) 4 ((V (a (2 + (Int32.toNatClampNeg p0))) 4) + (p1 * (ft (Int32.toNatClampNeg 5)))))) (hH (Int32.toNatClampNeg (V ad 0)) (zz_lt nk_5 hc8 (by omega))).1 (hH (Int32.toNatClampNeg (V ad 0)) (zz_lt nk_5 hc8 (by omega))).2
        have hDo := hD
        refine va_getN (D := (dC, dI)) (ci := 4) (v := .int ((zz_put V (a (2 + (Int32.toNatClampNeg p0))) 4 ((V (a (2 + (Int32.toNatClampNeg p0))) 4) + (p1 * (ft (Int32.toNatClampNeg 5))))) (a (2 + (Int32.toNatClampNeg (V ad 0)))) 5)) (C := RX4) (T := TX4) (N := 9) hx hb hw zz_inX4 hown hK hP kq_16 hq_16 rfl 5 (by decide) (hN.use zz_n6) (fun _ h9 => h9) rfl dX7_oweForWork_114 ?_
        refine lv_iload hx hb dX7_oweForWork_117 (lv_at hl 0 rfl) ?_
        refine lv_iadd hx hb dX7_oweForWork_119 ?_
        obtain ⟨kq_17, hq_17⟩ := zz_pg4 (X := [(a 0, .inr (7, [.ref (a 1), .ref (a 10), .ref (a 23), .ref (a 24), .ref (a 26), .ref (a 29), .ref (a 34), .ref (a 43), .int (nI nh), .int (nI nf), .int clk, .int hi])), (a 1, .inl (cH, 8, .inr (.inr (.inr (.inr fH))))), (a 26, .inr (0, [.ref (a 27), .ref (a 28), .int cu0, .int cu1, .int cu2, .int cu3, .int cu4, .int cu5])), (a 27, .inl (cI, 7, .inl ft)), (a 29, .inr (1, [.ref (a 30), .ref (a 31), .ref (a 32), .ref (a 33), .int (nI v_13_0)])), (a 30, .inl (cI, 300, .inl v_13_1)), (a 31, .inl (cI, 300, .inl v_13_2)), (a 32, .inl (cI, 300, .inl v_13_3)), (a 33, .inl (cI, 300, .inl v_13_4))]) (V := (zz_put V (a (2 + (Int32.toNatClampNeg p0))) 4 ((V (a (2 + (Int32.toNatClampNeg p0))) 4) + (p1 * (ft (Int32.toNatClampNeg 5)))))) (hH (Int32.toNatClampNeg (V ad 0)) (zz_lt nk_5 hc8 (by omega))).1 (hH (Int32.toNatClampNeg (V ad 0)) (zz_lt nk_5 hc8 (by omega))).2
        have hDo := hD
        refine va_putN (D := (dC, dI)) (ci := 4) (v := .int (((zz_put V (a (2 + (Int32.toNatClampNeg p0))) 4 ((V (a (2 + (Int32.toNatClampNeg p0))) 4) + (p1 * (ft (Int32.toNatClampNeg 5))))) (a (2 + (Int32.toNatClampNeg (V ad 0)))) 5) + (p1 * (ft (Int32.toNatClampNeg 5))))) (ty := .int) (C := RX4) (T := TX4) (N := 9) hx hb hw zz_inX4 tyX4 tyX4_ok nmX4 hown hK hP hD hS kq_17 hq_17 rfl 5 (by decide) (hN.use zz_n6) (fun _ h9 => h9) rfl (by decide +kernel) rfl rfl (Nat.le_of_ble_eq_true rfl) dX7_oweForWork_120 (fun H locs hP hD hS => ?_)
        have hP : va_P (dC, dI) vwCl (List.set (α := Nat × va_E) ([(a 0, .inr (7, [.ref (a 1), .ref (a 10), .ref (a 23), .ref (a 24), .ref (a 26), .ref (a 29), .ref (a 34), .ref (a 43), .int (nI nh), .int (nI nf), .int clk, .int hi])), (a 1, .inl (cH, 8, .inr (.inr (.inr (.inr fH))))), (a 26, .inr (0, [.ref (a 27), .ref (a 28), .int cu0, .int cu1, .int cu2, .int cu3, .int cu4, .int cu5])), (a 27, .inl (cI, 7, .inl ft)), (a 29, .inr (1, [.ref (a 30), .ref (a 31), .ref (a 32), .ref (a 33), .int (nI v_13_0)])), (a 30, .inl (cI, 300, .inl v_13_1)), (a 31, .inl (cI, 300, .inl v_13_2)), (a 32, .inl (cI, 300, .inl v_13_3)), (a 33, .inl (cI, 300, .inl v_13_4))] ++ va_pl L (zz_F K (zz_put V (a (2 + (Int32.toNatClampNeg p0))) 4 ((V (a (2 + (Int32.toNatClampNeg p0))) 4) + (p1 * (ft (Int32.toNatClampNeg 5))))))) kq_17 (a (2 + (Int32.toNatClampNeg (V ad 0))), .inr (4, [.int ((zz_put V (a (2 + (Int32.toNatClampNeg p0))) 4 ((V (a (2 + (Int32.toNatClampNeg p0))) 4) + (p1 * (ft (Int32.toNatClampNeg 5))))) (a (2 + (Int32.toNatClampNeg (V ad 0)))) 0), .int ((zz_put V (a (2 + (Int32.toNatClampNeg p0))) 4 ((V (a (2 + (Int32.toNatClampNeg p0))) 4) + (p1 * (ft (Int32.toNatClampNeg 5))))) (a (2 + (Int32.toNatClampNeg (V ad 0)))) 1), .int ((zz_put V (a (2 + (Int32.toNatClampNeg p0))) 4 ((V (a (2 + (Int32.toNatClampNeg p0))) 4) + (p1 * (ft (Int32.toNatClampNeg 5))))) (a (2 + (Int32.toNatClampNeg (V ad 0)))) 2), .int ((zz_put V (a (2 + (Int32.toNatClampNeg p0))) 4 ((V (a (2 + (Int32.toNatClampNeg p0))) 4) + (p1 * (ft (Int32.toNatClampNeg 5))))) (a (2 + (Int32.toNatClampNeg (V ad 0)))) 3), .int ((zz_put V (a (2 + (Int32.toNatClampNeg p0))) 4 ((V (a (2 + (Int32.toNatClampNeg p0))) 4) + (p1 * (ft (Int32.toNatClampNeg 5))))) (a (2 + (Int32.toNatClampNeg (V ad 0)))) 4), .int (((zz_put V (a (2 + (Int32.toNatClampNeg p0))) 4 ((V (a (2 + (Int32.toNatClampNeg p0))) 4) + (p1 * (ft (Int32.toNatClampNeg 5))))) (a (2 + (Int32.toNatClampNeg (V ad 0)))) 5) + (p1 * (ft (Int32.toNatClampNeg 5)))), .int ((zz_put V (a (2 + (Int32.toNatClampNeg p0))) 4 ((V (a (2 + (Int32.toNatClampNeg p0))) 4) + (p1 * (ft (Int32.toNatClampNeg 5))))) (a (2 + (Int32.toNatClampNeg (V ad 0)))) 6), .int ((zz_put V (a (2 + (Int32.toNatClampNeg p0))) 4 ((V (a (2 + (Int32.toNatClampNeg p0))) 4) + (p1 * (ft (Int32.toNatClampNeg 5))))) (a (2 + (Int32.toNatClampNeg (V ad 0)))) 7), .int ((zz_put V (a (2 + (Int32.toNatClampNeg p0))) 4 ((V (a (2 + (Int32.toNatClampNeg p0))) 4) + (p1 * (ft (Int32.toNatClampNeg 5))))) (a (2 + (Int32.toNatClampNeg (V ad 0)))) 8)]))) H := hP
        have hD : va_D A (List.set (α := Nat × va_E) ([(a 0, .inr (7, [.ref (a 1), .ref (a 10), .ref (a 23), .ref (a 24), .ref (a 26), .ref (a 29), .ref (a 34), .ref (a 43), .int (nI nh), .int (nI nf), .int clk, .int hi])), (a 1, .inl (cH, 8, .inr (.inr (.inr (.inr fH))))), (a 26, .inr (0, [.ref (a 27), .ref (a 28), .int cu0, .int cu1, .int cu2, .int cu3, .int cu4, .int cu5])), (a 27, .inl (cI, 7, .inl ft)), (a 29, .inr (1, [.ref (a 30), .ref (a 31), .ref (a 32), .ref (a 33), .int (nI v_13_0)])), (a 30, .inl (cI, 300, .inl v_13_1)), (a 31, .inl (cI, 300, .inl v_13_2)), (a 32, .inl (cI, 300, .inl v_13_3)), (a 33, .inl (cI, 300, .inl v_13_4))] ++ va_pl L (zz_F K (zz_put V (a (2 + (Int32.toNatClampNeg p0))) 4 ((V (a (2 + (Int32.toNatClampNeg p0))) 4) + (p1 * (ft (Int32.toNatClampNeg 5))))))) kq_17 (a (2 + (Int32.toNatClampNeg (V ad 0))), .inr (4, [.int ((zz_put V (a (2 + (Int32.toNatClampNeg p0))) 4 ((V (a (2 + (Int32.toNatClampNeg p0))) 4) + (p1 * (ft (Int32.toNatClampNeg 5))))) (a (2 + (Int32.toNatClampNeg (V ad 0)))) 0), .int ((zz_put V (a (2 + (Int32.toNatClampNeg p0))) 4 ((V (a (2 + (Int32.toNatClampNeg p0))) 4) + (p1 * (ft (Int32.toNatClampNeg 5))))) (a (2 + (Int32.toNatClampNeg (V ad 0)))) 1), .int ((zz_put V (a (2 + (Int32.toNatClampNeg p0))) 4 ((V (a (2 + (Int32.toNatClampNeg p0))) 4) + (p1 * (ft (Int32.toNatClampNeg 5))))) (a (2 + (Int32.toNatClampNeg (V ad 0)))) 2), .int ((zz_put V (a (2 + (Int32.toNatClampNeg p0))) 4 ((V (a (2 + (Int32.toNatClampNeg p0))) 4) + (p1 * (ft (Int32.toNatClampNeg 5))))) (a (2 + (Int32.toNatClampNeg (V ad 0)))) 3), .int ((zz_put V (a (2 + (Int32.toNatClampNeg p0))) 4 ((V (a (2 + (Int32.toNatClampNeg p0))) 4) + (p1 * (ft (Int32.toNatClampNeg 5))))) (a (2 + (Int32.toNatClampNeg (V ad 0)))) 4), .int (((zz_put V (a (2 + (Int32.toNatClampNeg p0))) 4 ((V (a (2 + (Int32.toNatClampNeg p0))) 4) + (p1 * (ft (Int32.toNatClampNeg 5))))) (a (2 + (Int32.toNatClampNeg (V ad 0)))) 5) + (p1 * (ft (Int32.toNatClampNeg 5)))), .int ((zz_put V (a (2 + (Int32.toNatClampNeg p0))) 4 ((V (a (2 + (Int32.toNatClampNeg p0))) 4) + (p1 * (ft (Int32.toNatClampNeg 5))))) (a (2 + (Int32.toNatClampNeg (V ad 0)))) 6), .int ((zz_put V (a (2 + (Int32.toNatClampNeg p0))) 4 ((V (a (2 + (Int32.toNatClampNeg p0))) 4) + (p1 * (ft (Int32.toNatClampNeg 5))))) (a (2 + (Int32.toNatClampNeg (V ad 0)))) 7), .int ((zz_put V (a (2 + (Int32.toNatClampNeg p0))) 4 ((V (a (2 + (Int32.toNatClampNeg p0))) 4) + (p1 * (ft (Int32.toNatClampNeg 5))))) (a (2 + (Int32.toNatClampNeg (V ad 0)))) 8)]))) := hD
        rw [zz_ps4_5 hDo (hH (Int32.toNatClampNeg (V ad 0)) (zz_lt nk_5 hc8 (by omega))).1 (hH (Int32.toNatClampNeg (V ad 0)) (zz_lt nk_5 hc8 (by omega))).2 hq_17] at hP hD
        have hP : va_P (dC, dI) vwCl ([(a 0, .inr (7, [.ref (a 1), .ref (a 10), .ref (a 23), .ref (a 24), .ref (a 26), .ref (a 29), .ref (a 34), .ref (a 43), .int (nI nh), .int (nI nf), .int clk, .int hi])), (a 1, .inl (cH, 8, .inr (.inr (.inr (.inr fH))))), (a 26, .inr (0, [.ref (a 27), .ref (a 28), .int cu0, .int cu1, .int cu2, .int cu3, .int cu4, .int cu5])), (a 27, .inl (cI, 7, .inl ft)), (a 29, .inr (1, [.ref (a 30), .ref (a 31), .ref (a 32), .ref (a 33), .int (nI v_13_0)])), (a 30, .inl (cI, 300, .inl v_13_1)), (a 31, .inl (cI, 300, .inl v_13_2)), (a 32, .inl (cI, 300, .inl v_13_3)), (a 33, .inl (cI, 300, .inl v_13_4))] ++ va_pl L (zz_F K (zz_put (zz_put V (a (2 + (Int32.toNatClampNeg p0))) 4 ((V (a (2 + (Int32.toNatClampNeg p0))) 4) + (p1 * (ft (Int32.toNatClampNeg 5))))) (a (2 + (Int32.toNatClampNeg (V ad 0)))) 5 (((zz_put V (a (2 + (Int32.toNatClampNeg p0))) 4 ((V (a (2 + (Int32.toNatClampNeg p0))) 4) + (p1 * (ft (Int32.toNatClampNeg 5))))) (a (2 + (Int32.toNatClampNeg (V ad 0)))) 5) + (p1 * (ft (Int32.toNatClampNeg 5))))))) H := hP
        have hD : va_D A ([(a 0, .inr (7, [.ref (a 1), .ref (a 10), .ref (a 23), .ref (a 24), .ref (a 26), .ref (a 29), .ref (a 34), .ref (a 43), .int (nI nh), .int (nI nf), .int clk, .int hi])), (a 1, .inl (cH, 8, .inr (.inr (.inr (.inr fH))))), (a 26, .inr (0, [.ref (a 27), .ref (a 28), .int cu0, .int cu1, .int cu2, .int cu3, .int cu4, .int cu5])), (a 27, .inl (cI, 7, .inl ft)), (a 29, .inr (1, [.ref (a 30), .ref (a 31), .ref (a 32), .ref (a 33), .int (nI v_13_0)])), (a 30, .inl (cI, 300, .inl v_13_1)), (a 31, .inl (cI, 300, .inl v_13_2)), (a 32, .inl (cI, 300, .inl v_13_3)), (a 33, .inl (cI, 300, .inl v_13_4))] ++ va_pl L (zz_F K (zz_put (zz_put V (a (2 + (Int32.toNatClampNeg p0))) 4 ((V (a (2 + (Int32.toNatClampNeg p0))) 4) + (p1 * (ft (Int32.toNatClampNeg 5))))) (a (2 + (Int32.toNatClampNeg (V ad 0)))) 5 (((zz_put V (a (2 + (Int32.toNatClampNeg p0))) 4 ((V (a (2 + (Int32.toNatClampNeg p0))) 4) + (p1 * (ft (Int32.toNatClampNeg 5))))) (a (2 + (Int32.toNatClampNeg (V ad 0)))) 5) + (p1 * (ft (Int32.toNatClampNeg 5))))))) := hD
        have hP9 := hP.part (cx := [(a 0, .inr (7, [.ref (a 1), .ref (a 10), .ref (a 23), .ref (a 24), .ref (a 26), .ref (a 29), .ref (a 34), .ref (a 43), .int (nI nh), .int (nI nf), .int clk, .int hi])), (a 1, .inl (cH, 8, .inr (.inr (.inr (.inr fH))))), (a 29, .inr (1, [.ref (a 30), .ref (a 31), .ref (a 32), .ref (a 33), .int (nI v_13_0)])), (a 30, .inl (cI, 300, .inl v_13_1)), (a 31, .inl (cI, 300, .inl v_13_2)), (a 32, .inl (cI, 300, .inl v_13_3)), (a 33, .inl (cI, 300, .inl v_13_4)), (a 26, .inr (0, [.ref (a 27), .ref (a 28), .int cu0, .int cu1, .int cu2, .int cu3, .int cu4, .int cu5])), (a 27, .inl (cI, 7, .inl ft))]) [0, 1, 4, 5, 6, 7, 8, 2, 3] rfl
        have hD9 := hD.part (cx := [(a 0, .inr (7, [.ref (a 1), .ref (a 10), .ref (a 23), .ref (a 24), .ref (a 26), .ref (a 29), .ref (a 34), .ref (a 43), .int (nI nh), .int (nI nf), .int clk, .int hi])), (a 1, .inl (cH, 8, .inr (.inr (.inr (.inr fH))))), (a 29, .inr (1, [.ref (a 30), .ref (a 31), .ref (a 32), .ref (a 33), .int (nI v_13_0)])), (a 30, .inl (cI, 300, .inl v_13_1)), (a 31, .inl (cI, 300, .inl v_13_2)), (a 32, .inl (cI, 300, .inl v_13_3)), (a 33, .inl (cI, 300, .inl v_13_4)), (a 26, .inr (0, [.ref (a 27), .ref (a 28), .int cu0, .int cu1, .int cu2, .int cu3, .int cu4, .int cu5])), (a 27, .inl (cI, 7, .inl ft))]) [0, 1, 4, 5, 6, 7, 8, 2, 3] (by decide) rfl
        have hK9 := hK.sub (tys' := [(cH, .object RX4), (cI, .int)]) [0, 1] rfl
        exact W.vret hx hb hr (fun t ht hW => ⟨⟨((zz_put (zz_put V (a (2 + (Int32.toNatClampNeg p0))) 4 ((V (a (2 + (Int32.toNatClampNeg p0))) 4) + (p1 * (ft (Int32.toNatClampNeg 5))))) (a (2 + (Int32.toNatClampNeg (V ad 0)))) 5 (((zz_put V (a (2 + (Int32.toNatClampNeg p0))) 4 ((V (a (2 + (Int32.toNatClampNeg p0))) 4) + (p1 * (ft (Int32.toNatClampNeg 5))))) (a (2 + (Int32.toNatClampNeg (V ad 0)))) 5) + (p1 * (ft (Int32.toNatClampNeg 5))))), v_13_0, v_13_1, v_13_2, v_13_3, v_13_4), rfl, (by show _ ≤ _; omega), by rw [ht]; exact hP9, va_K.moved hW.alike hK9, hD9⟩, hS.F ht⟩) hS.2.2 dX7_oweForWork_123
      · have zc_8 := c_8
        rw [e_7, zz_in0, Int32.le_iff_toInt_le, Int32.le_iff_toInt_le] at zc_8
        try rw [show (0 : Int32).toInt = 0 from by decide] at zc_8
        try rw [show (2 : Int32).toInt = 2 from by decide] at zc_8
        have hP9 := hP.part (cx := [(a 0, .inr (7, [.ref (a 1), .ref (a 10), .ref (a 23), .ref (a 24), .ref (a 26), .ref (a 29), .ref (a 34), .ref (a 43), .int (nI nh), .int (nI nf), .int clk, .int hi])), (a 1, .inl (cH, 8, .inr (.inr (.inr (.inr fH))))), (a 29, .inr (1, [.ref (a 30), .ref (a 31), .ref (a 32), .ref (a 33), .int (nI nd)])), (a 30, .inl (cI, 300, .inl fo)), (a 31, .inl (cI, 300, .inl fc)), (a 32, .inl (cI, 300, .inl fs)), (a 33, .inl (cI, 300, .inl fu)), (a 26, .inr (0, [.ref (a 27), .ref (a 28), .int cu0, .int cu1, .int cu2, .int cu3, .int cu4, .int cu5])), (a 27, .inl (cI, 7, .inl ft))]) [0, 1, 2, 3, 4, 5, 6, 7, 8] rfl
        have hD9 := hD.part (cx := [(a 0, .inr (7, [.ref (a 1), .ref (a 10), .ref (a 23), .ref (a 24), .ref (a 26), .ref (a 29), .ref (a 34), .ref (a 43), .int (nI nh), .int (nI nf), .int clk, .int hi])), (a 1, .inl (cH, 8, .inr (.inr (.inr (.inr fH))))), (a 29, .inr (1, [.ref (a 30), .ref (a 31), .ref (a 32), .ref (a 33), .int (nI nd)])), (a 30, .inl (cI, 300, .inl fo)), (a 31, .inl (cI, 300, .inl fc)), (a 32, .inl (cI, 300, .inl fs)), (a 33, .inl (cI, 300, .inl fu)), (a 26, .inr (0, [.ref (a 27), .ref (a 28), .int cu0, .int cu1, .int cu2, .int cu3, .int cu4, .int cu5])), (a 27, .inl (cI, 7, .inl ft))]) [0, 1, 2, 3, 4, 5, 6, 7, 8] (by decide) rfl
        have hK9 := hK.sub (tys' := [(cH, .object RX4), (cI, .int)]) [0, 1] rfl
        exact W.vret hx hb hr (fun t ht hW => ⟨⟨(V, nd, fo, fc, fs, fu), rfl, (by show _ ≤ _; omega), by rw [ht]; exact hP9, va_K.moved hW.alike hK9, hD9⟩, hS.F ht⟩) hS.2.2 dX7_oweForWork_39
