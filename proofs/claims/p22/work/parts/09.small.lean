theorem tw_81 : Cond.code yX7_areTwoHouses cX7_areTwoHouses 3 (some .boolean) ∈ zz_all := zz_m3 61 rfl rfl
theorem tw_82 : Cond.methodLink RX7 181 yX7_areTwoHouses ∈ zz_all := zz_m3 58 rfl rfl
theorem tw_83 : Cond.instanceMethod yX7_areTwoHouses ∈ zz_all := zz_m3 60 rfl rfl
theorem tw_84 : Cond.selects RX7 yX7_areTwoHouses yX7_areTwoHouses ∈ zz_all := zz_ms 20 rfl rfl
theorem tw_85 : Cond.code yX1_unitsOwed cX1_unitsOwed 5 (some .int) ∈ zz_all := zz_m3 65 rfl rfl
theorem tw_86 : Cond.instanceMethod yX1_unitsOwed ∈ zz_all := zz_m3 64 rfl rfl
theorem tw_87 : Cond.selects RX1 yX1_unitsOwed yX1_unitsOwed ∈ zz_all := zz_ms 21 rfl rfl
theorem tw_88 : Cond.code yX1_firstDay cX1_firstDay 4 (some .int) ∈ zz_all := zz_m3 73 rfl rfl
theorem tw_89 : Cond.instanceMethod yX1_firstDay ∈ zz_all := zz_m3 72 rfl rfl
theorem tw_90 : Cond.selects RX1 yX1_firstDay yX1_firstDay ∈ zz_all := zz_ms 22 rfl rfl
theorem tw_91 : Cond.constant RX7 160 (-1000000) ∈ zz_all := zz_m3 45 rfl rfl
theorem tw_92 : Cond.code yX1_net cX1_net 4 (some .int) ∈ zz_all := zz_m3 49 rfl rfl
theorem tw_93 : Cond.instanceMethod yX1_net ∈ zz_all := zz_m3 48 rfl rfl
theorem tw_94 : Cond.selects RX1 yX1_net yX1_net ∈ zz_all := zz_ms 19 rfl rfl
theorem tw_95 : Cond.fieldLink RX6 15 "HandsReturned$Tape" "length" "I" ∈ zz_all := zz_m1 105 rfl rfl
theorem tw_96 : Cond.fieldLink RX6 9 "HandsReturned$Tape" "bytes" "[I" ∈ zz_all := zz_m1 104 rfl rfl
theorem tw_97 : Cond.fieldLink RX7 30 "HandsReturned" "tape" "LHandsReturned$Tape;" ∈ zz_all := zz_m2 29 rfl rfl
theorem tw_98 : Cond.code yX6_append cX6_append 3 none ∈ zz_all := zz_m2 89 rfl rfl
theorem tw_99 : Cond.initialized RX6 ∈ zz_all := zz_m1 4 rfl rfl
theorem tw_100 : Cond.instanceMethod yX6_append ∈ zz_all := zz_m2 88 rfl rfl
theorem tw_101 : Cond.selects RX6 yX6_append yX6_append ∈ zz_all := zz_ms 1 rfl rfl
theorem zy_b09small_0 : decode cX7_areTwoHouses 0 = .ok (.iload_n 1, 1) ∧ decode cX7_areTwoHouses 1 = .ok (.iload_n 2, 1) ∧ decode cX7_areTwoHouses 2 = .ok (.if_icmp .eq 23, 3) ∧ decode cX7_areTwoHouses 5 = .ok (.aload_n 0, 1) ∧ decode cX7_areTwoHouses 6 = .ok (.iload_n 1, 1) ∧ decode cX7_areTwoHouses 7 = .ok (.invokevirtual 73, 3) ∧ decode cX7_areTwoHouses 10 = .ok (.ifnull 15, 3) ∧ decode cX7_areTwoHouses 13 = .ok (.aload_n 0, 1) := by decide +kernel
theorem dX7_areTwoHouses_0 : decode cX7_areTwoHouses 0 = .ok (.iload_n 1, 1) := zy_b09small_0.1
theorem dX7_areTwoHouses_1 : decode cX7_areTwoHouses 1 = .ok (.iload_n 2, 1) := zy_b09small_0.2.1
theorem dX7_areTwoHouses_2 : decode cX7_areTwoHouses 2 = .ok (.if_icmp .eq 23, 3) := zy_b09small_0.2.2.1
theorem dX7_areTwoHouses_5 : decode cX7_areTwoHouses 5 = .ok (.aload_n 0, 1) := zy_b09small_0.2.2.2.1
theorem dX7_areTwoHouses_6 : decode cX7_areTwoHouses 6 = .ok (.iload_n 1, 1) := zy_b09small_0.2.2.2.2.1
theorem dX7_areTwoHouses_7 : decode cX7_areTwoHouses 7 = .ok (.invokevirtual 73, 3) := zy_b09small_0.2.2.2.2.2.1
theorem dX7_areTwoHouses_10 : decode cX7_areTwoHouses 10 = .ok (.ifnull 15, 3) := zy_b09small_0.2.2.2.2.2.2.1
theorem dX7_areTwoHouses_13 : decode cX7_areTwoHouses 13 = .ok (.aload_n 0, 1) := zy_b09small_0.2.2.2.2.2.2.2
theorem zy_b09small_1 : decode cX7_areTwoHouses 14 = .ok (.iload_n 2, 1) ∧ decode cX7_areTwoHouses 15 = .ok (.invokevirtual 73, 3) ∧ decode cX7_areTwoHouses 18 = .ok (.ifnull 7, 3) ∧ decode cX7_areTwoHouses 21 = .ok (.iconst 1, 1) ∧ decode cX7_areTwoHouses 22 = .ok (.goto 4, 3) ∧ decode cX7_areTwoHouses 25 = .ok (.iconst 0, 1) ∧ decode cX7_areTwoHouses 26 = .ok (.ireturn, 1) := by decide +kernel
theorem dX7_areTwoHouses_14 : decode cX7_areTwoHouses 14 = .ok (.iload_n 2, 1) := zy_b09small_1.1
theorem dX7_areTwoHouses_15 : decode cX7_areTwoHouses 15 = .ok (.invokevirtual 73, 3) := zy_b09small_1.2.1
theorem dX7_areTwoHouses_18 : decode cX7_areTwoHouses 18 = .ok (.ifnull 7, 3) := zy_b09small_1.2.2.1
theorem dX7_areTwoHouses_21 : decode cX7_areTwoHouses 21 = .ok (.iconst 1, 1) := zy_b09small_1.2.2.2.1
theorem dX7_areTwoHouses_22 : decode cX7_areTwoHouses 22 = .ok (.goto 4, 3) := zy_b09small_1.2.2.2.2.1
theorem dX7_areTwoHouses_25 : decode cX7_areTwoHouses 25 = .ok (.iconst 0, 1) := zy_b09small_1.2.2.2.2.2.1
theorem dX7_areTwoHouses_26 : decode cX7_areTwoHouses 26 = .ok (.ireturn, 1) := zy_b09small_1.2.2.2.2.2.2
theorem zy_b09small_2 : decode cX7_owes 0 = .ok (.aload_n 0, 1) ∧ decode cX7_owes 1 = .ok (.iload_n 1, 1) ∧ decode cX7_owes 2 = .ok (.iload_n 2, 1) ∧ decode cX7_owes 3 = .ok (.invokevirtual 181, 3) ∧ decode cX7_owes 6 = .ok (.ifCond .eq 15, 3) ∧ decode cX7_owes 9 = .ok (.aload_n 0, 1) ∧ decode cX7_owes 10 = .ok (.getfield 44, 3) ∧ decode cX7_owes 13 = .ok (.iload_n 1, 1) := by decide +kernel
theorem dX7_owes_0 : decode cX7_owes 0 = .ok (.aload_n 0, 1) := zy_b09small_2.1
theorem dX7_owes_1 : decode cX7_owes 1 = .ok (.iload_n 1, 1) := zy_b09small_2.2.1
theorem dX7_owes_2 : decode cX7_owes 2 = .ok (.iload_n 2, 1) := zy_b09small_2.2.2.1
theorem dX7_owes_3 : decode cX7_owes 3 = .ok (.invokevirtual 181, 3) := zy_b09small_2.2.2.2.1
theorem dX7_owes_6 : decode cX7_owes 6 = .ok (.ifCond .eq 15, 3) := zy_b09small_2.2.2.2.2.1
theorem dX7_owes_9 : decode cX7_owes 9 = .ok (.aload_n 0, 1) := zy_b09small_2.2.2.2.2.2.1
theorem dX7_owes_10 : decode cX7_owes 10 = .ok (.getfield 44, 3) := zy_b09small_2.2.2.2.2.2.2.1
theorem dX7_owes_13 : decode cX7_owes 13 = .ok (.iload_n 1, 1) := zy_b09small_2.2.2.2.2.2.2.2
theorem zy_b09small_3 : decode cX7_owes 14 = .ok (.iload_n 2, 1) ∧ decode cX7_owes 15 = .ok (.invokevirtual 184, 3) ∧ decode cX7_owes 18 = .ok (.goto 4, 3) ∧ decode cX7_owes 21 = .ok (.iconst (-1), 1) ∧ decode cX7_owes 22 = .ok (.ireturn, 1) := by decide +kernel
theorem dX7_owes_14 : decode cX7_owes 14 = .ok (.iload_n 2, 1) := zy_b09small_3.1
theorem dX7_owes_15 : decode cX7_owes 15 = .ok (.invokevirtual 184, 3) := zy_b09small_3.2.1
theorem dX7_owes_18 : decode cX7_owes 18 = .ok (.goto 4, 3) := zy_b09small_3.2.2.1
theorem dX7_owes_21 : decode cX7_owes 21 = .ok (.iconst (-1), 1) := zy_b09small_3.2.2.2.1
theorem dX7_owes_22 : decode cX7_owes 22 = .ok (.ireturn, 1) := zy_b09small_3.2.2.2.2
theorem zy_b09small_4 : decode cX7_oldest 0 = .ok (.aload_n 0, 1) ∧ decode cX7_oldest 1 = .ok (.iload_n 1, 1) ∧ decode cX7_oldest 2 = .ok (.iload_n 2, 1) ∧ decode cX7_oldest 3 = .ok (.invokevirtual 181, 3) ∧ decode cX7_oldest 6 = .ok (.ifCond .eq 15, 3) ∧ decode cX7_oldest 9 = .ok (.aload_n 0, 1) ∧ decode cX7_oldest 10 = .ok (.getfield 44, 3) ∧ decode cX7_oldest 13 = .ok (.iload_n 1, 1) := by decide +kernel
theorem dX7_oldest_0 : decode cX7_oldest 0 = .ok (.aload_n 0, 1) := zy_b09small_4.1
theorem dX7_oldest_1 : decode cX7_oldest 1 = .ok (.iload_n 1, 1) := zy_b09small_4.2.1
theorem dX7_oldest_2 : decode cX7_oldest 2 = .ok (.iload_n 2, 1) := zy_b09small_4.2.2.1
theorem dX7_oldest_3 : decode cX7_oldest 3 = .ok (.invokevirtual 181, 3) := zy_b09small_4.2.2.2.1
theorem dX7_oldest_6 : decode cX7_oldest 6 = .ok (.ifCond .eq 15, 3) := zy_b09small_4.2.2.2.2.1
theorem dX7_oldest_9 : decode cX7_oldest 9 = .ok (.aload_n 0, 1) := zy_b09small_4.2.2.2.2.2.1
theorem dX7_oldest_10 : decode cX7_oldest 10 = .ok (.getfield 44, 3) := zy_b09small_4.2.2.2.2.2.2.1
theorem dX7_oldest_13 : decode cX7_oldest 13 = .ok (.iload_n 1, 1) := zy_b09small_4.2.2.2.2.2.2.2
theorem zy_b09small_5 : decode cX7_oldest 14 = .ok (.iload_n 2, 1) ∧ decode cX7_oldest 15 = .ok (.invokevirtual 188, 3) ∧ decode cX7_oldest 18 = .ok (.goto 4, 3) ∧ decode cX7_oldest 21 = .ok (.iconst (-1), 1) ∧ decode cX7_oldest 22 = .ok (.ireturn, 1) := by decide +kernel
theorem dX7_oldest_14 : decode cX7_oldest 14 = .ok (.iload_n 2, 1) := zy_b09small_5.1
theorem dX7_oldest_15 : decode cX7_oldest 15 = .ok (.invokevirtual 188, 3) := zy_b09small_5.2.1
theorem dX7_oldest_18 : decode cX7_oldest 18 = .ok (.goto 4, 3) := zy_b09small_5.2.2.1
theorem dX7_oldest_21 : decode cX7_oldest 21 = .ok (.iconst (-1), 1) := zy_b09small_5.2.2.2.1
theorem dX7_oldest_22 : decode cX7_oldest 22 = .ok (.ireturn, 1) := zy_b09small_5.2.2.2.2
theorem zy_b09small_6 : decode cX7_houseOf 0 = .ok (.aload_n 0, 1) ∧ decode cX7_houseOf 1 = .ok (.iload_n 1, 1) ∧ decode cX7_houseOf 2 = .ok (.invokevirtual 73, 3) ∧ decode cX7_houseOf 5 = .ok (.astore_n 3, 1) ∧ decode cX7_houseOf 6 = .ok (.aload_n 3, 1) ∧ decode cX7_houseOf 7 = .ok (.ifnonnull 6, 3) ∧ decode cX7_houseOf 10 = .ok (.ldc 160, 2) ∧ decode cX7_houseOf 12 = .ok (.ireturn, 1) := by decide +kernel
theorem dX7_houseOf_0 : decode cX7_houseOf 0 = .ok (.aload_n 0, 1) := zy_b09small_6.1
theorem dX7_houseOf_1 : decode cX7_houseOf 1 = .ok (.iload_n 1, 1) := zy_b09small_6.2.1
theorem dX7_houseOf_2 : decode cX7_houseOf 2 = .ok (.invokevirtual 73, 3) := zy_b09small_6.2.2.1
theorem dX7_houseOf_5 : decode cX7_houseOf 5 = .ok (.astore_n 3, 1) := zy_b09small_6.2.2.2.1
theorem dX7_houseOf_6 : decode cX7_houseOf 6 = .ok (.aload_n 3, 1) := zy_b09small_6.2.2.2.2.1
theorem dX7_houseOf_7 : decode cX7_houseOf 7 = .ok (.ifnonnull 6, 3) := zy_b09small_6.2.2.2.2.2.1
theorem dX7_houseOf_10 : decode cX7_houseOf 10 = .ok (.ldc 160, 2) := zy_b09small_6.2.2.2.2.2.2.1
theorem dX7_houseOf_12 : decode cX7_houseOf 12 = .ok (.ireturn, 1) := zy_b09small_6.2.2.2.2.2.2.2
theorem zy_b09small_7 : decode cX7_houseOf 13 = .ok (.iload_n 2, 1) ∧ decode cX7_houseOf 14 = .ok (.tableswitch 116 0 9 #[54, 59, 72, 77, 82, 91, 96, 101, 106, 111], 54) ∧ decode cX7_houseOf 68 = .ok (.aload_n 3, 1) ∧ decode cX7_houseOf 69 = .ok (.getfield 66, 3) ∧ decode cX7_houseOf 72 = .ok (.ireturn, 1) ∧ decode cX7_houseOf 73 = .ok (.aload_n 3, 1) ∧ decode cX7_houseOf 74 = .ok (.getfield 69, 3) ∧ decode cX7_houseOf 77 = .ok (.ifCond .eq 7, 3) := by decide +kernel
theorem dX7_houseOf_13 : decode cX7_houseOf 13 = .ok (.iload_n 2, 1) := zy_b09small_7.1
theorem dX7_houseOf_14 : decode cX7_houseOf 14 = .ok (.tableswitch 116 0 9 #[54, 59, 72, 77, 82, 91, 96, 101, 106, 111], 54) := zy_b09small_7.2.1
theorem dX7_houseOf_68 : decode cX7_houseOf 68 = .ok (.aload_n 3, 1) := zy_b09small_7.2.2.1
theorem dX7_houseOf_69 : decode cX7_houseOf 69 = .ok (.getfield 66, 3) := zy_b09small_7.2.2.2.1
theorem dX7_houseOf_72 : decode cX7_houseOf 72 = .ok (.ireturn, 1) := zy_b09small_7.2.2.2.2.1
theorem dX7_houseOf_73 : decode cX7_houseOf 73 = .ok (.aload_n 3, 1) := zy_b09small_7.2.2.2.2.2.1
theorem dX7_houseOf_74 : decode cX7_houseOf 74 = .ok (.getfield 69, 3) := zy_b09small_7.2.2.2.2.2.2.1
theorem dX7_houseOf_77 : decode cX7_houseOf 77 = .ok (.ifCond .eq 7, 3) := zy_b09small_7.2.2.2.2.2.2.2
theorem zy_b09small_8 : decode cX7_houseOf 80 = .ok (.iconst 1, 1) ∧ decode cX7_houseOf 81 = .ok (.goto 4, 3) ∧ decode cX7_houseOf 84 = .ok (.iconst 0, 1) ∧ decode cX7_houseOf 85 = .ok (.ireturn, 1) ∧ decode cX7_houseOf 86 = .ok (.aload_n 3, 1) ∧ decode cX7_houseOf 87 = .ok (.getfield 119, 3) ∧ decode cX7_houseOf 90 = .ok (.ireturn, 1) ∧ decode cX7_houseOf 91 = .ok (.aload_n 3, 1) := by decide +kernel
theorem dX7_houseOf_80 : decode cX7_houseOf 80 = .ok (.iconst 1, 1) := zy_b09small_8.1
theorem dX7_houseOf_81 : decode cX7_houseOf 81 = .ok (.goto 4, 3) := zy_b09small_8.2.1
theorem dX7_houseOf_84 : decode cX7_houseOf 84 = .ok (.iconst 0, 1) := zy_b09small_8.2.2.1
theorem dX7_houseOf_85 : decode cX7_houseOf 85 = .ok (.ireturn, 1) := zy_b09small_8.2.2.2.1
theorem dX7_houseOf_86 : decode cX7_houseOf 86 = .ok (.aload_n 3, 1) := zy_b09small_8.2.2.2.2.1
theorem dX7_houseOf_87 : decode cX7_houseOf 87 = .ok (.getfield 119, 3) := zy_b09small_8.2.2.2.2.2.1
theorem dX7_houseOf_90 : decode cX7_houseOf 90 = .ok (.ireturn, 1) := zy_b09small_8.2.2.2.2.2.2.1
theorem dX7_houseOf_91 : decode cX7_houseOf 91 = .ok (.aload_n 3, 1) := zy_b09small_8.2.2.2.2.2.2.2
theorem zy_b09small_9 : decode cX7_houseOf 92 = .ok (.invokevirtual 136, 3) ∧ decode cX7_houseOf 95 = .ok (.ireturn, 1) ∧ decode cX7_houseOf 96 = .ok (.aload_n 0, 1) ∧ decode cX7_houseOf 97 = .ok (.getfield 44, 3) ∧ decode cX7_houseOf 100 = .ok (.iload_n 1, 1) ∧ decode cX7_houseOf 101 = .ok (.invokevirtual 161, 3) ∧ decode cX7_houseOf 104 = .ok (.ireturn, 1) ∧ decode cX7_houseOf 105 = .ok (.aload_n 3, 1) := by decide +kernel
theorem dX7_houseOf_92 : decode cX7_houseOf 92 = .ok (.invokevirtual 136, 3) := zy_b09small_9.1
theorem dX7_houseOf_95 : decode cX7_houseOf 95 = .ok (.ireturn, 1) := zy_b09small_9.2.1
theorem dX7_houseOf_96 : decode cX7_houseOf 96 = .ok (.aload_n 0, 1) := zy_b09small_9.2.2.1
theorem dX7_houseOf_97 : decode cX7_houseOf 97 = .ok (.getfield 44, 3) := zy_b09small_9.2.2.2.1
theorem dX7_houseOf_100 : decode cX7_houseOf 100 = .ok (.iload_n 1, 1) := zy_b09small_9.2.2.2.2.1
theorem dX7_houseOf_101 : decode cX7_houseOf 101 = .ok (.invokevirtual 161, 3) := zy_b09small_9.2.2.2.2.2.1
theorem dX7_houseOf_104 : decode cX7_houseOf 104 = .ok (.ireturn, 1) := zy_b09small_9.2.2.2.2.2.2.1
theorem dX7_houseOf_105 : decode cX7_houseOf 105 = .ok (.aload_n 3, 1) := zy_b09small_9.2.2.2.2.2.2.2
theorem zy_b09small_10 : decode cX7_houseOf 106 = .ok (.getfield 165, 3) ∧ decode cX7_houseOf 109 = .ok (.ireturn, 1) ∧ decode cX7_houseOf 110 = .ok (.aload_n 3, 1) ∧ decode cX7_houseOf 111 = .ok (.getfield 168, 3) ∧ decode cX7_houseOf 114 = .ok (.ireturn, 1) ∧ decode cX7_houseOf 115 = .ok (.aload_n 3, 1) ∧ decode cX7_houseOf 116 = .ok (.getfield 154, 3) ∧ decode cX7_houseOf 119 = .ok (.ireturn, 1) := by decide +kernel
theorem dX7_houseOf_106 : decode cX7_houseOf 106 = .ok (.getfield 165, 3) := zy_b09small_10.1
theorem dX7_houseOf_109 : decode cX7_houseOf 109 = .ok (.ireturn, 1) := zy_b09small_10.2.1
theorem dX7_houseOf_110 : decode cX7_houseOf 110 = .ok (.aload_n 3, 1) := zy_b09small_10.2.2.1
theorem dX7_houseOf_111 : decode cX7_houseOf 111 = .ok (.getfield 168, 3) := zy_b09small_10.2.2.2.1
theorem dX7_houseOf_114 : decode cX7_houseOf 114 = .ok (.ireturn, 1) := zy_b09small_10.2.2.2.2.1
theorem dX7_houseOf_115 : decode cX7_houseOf 115 = .ok (.aload_n 3, 1) := zy_b09small_10.2.2.2.2.2.1
theorem dX7_houseOf_116 : decode cX7_houseOf 116 = .ok (.getfield 154, 3) := zy_b09small_10.2.2.2.2.2.2.1
theorem dX7_houseOf_119 : decode cX7_houseOf 119 = .ok (.ireturn, 1) := zy_b09small_10.2.2.2.2.2.2.2
theorem zy_b09small_11 : decode cX7_houseOf 120 = .ok (.aload_n 3, 1) ∧ decode cX7_houseOf 121 = .ok (.getfield 171, 3) ∧ decode cX7_houseOf 124 = .ok (.ireturn, 1) ∧ decode cX7_houseOf 125 = .ok (.aload_n 3, 1) ∧ decode cX7_houseOf 126 = .ok (.getfield 174, 3) ∧ decode cX7_houseOf 129 = .ok (.ireturn, 1) ∧ decode cX7_houseOf 130 = .ok (.ldc 160, 2) ∧ decode cX7_houseOf 132 = .ok (.ireturn, 1) := by decide +kernel
theorem dX7_houseOf_120 : decode cX7_houseOf 120 = .ok (.aload_n 3, 1) := zy_b09small_11.1
theorem dX7_houseOf_121 : decode cX7_houseOf 121 = .ok (.getfield 171, 3) := zy_b09small_11.2.1
theorem dX7_houseOf_124 : decode cX7_houseOf 124 = .ok (.ireturn, 1) := zy_b09small_11.2.2.1
theorem dX7_houseOf_125 : decode cX7_houseOf 125 = .ok (.aload_n 3, 1) := zy_b09small_11.2.2.2.1
theorem dX7_houseOf_126 : decode cX7_houseOf 126 = .ok (.getfield 174, 3) := zy_b09small_11.2.2.2.2.1
theorem dX7_houseOf_129 : decode cX7_houseOf 129 = .ok (.ireturn, 1) := zy_b09small_11.2.2.2.2.2.1
theorem dX7_houseOf_130 : decode cX7_houseOf 130 = .ok (.ldc 160, 2) := zy_b09small_11.2.2.2.2.2.2.1
theorem dX7_houseOf_132 : decode cX7_houseOf 132 = .ok (.ireturn, 1) := zy_b09small_11.2.2.2.2.2.2.2
theorem zy_b09small_12 : decode cX7_fieldOf 0 = .ok (.aload_n 0, 1) ∧ decode cX7_fieldOf 1 = .ok (.iload_n 1, 1) ∧ decode cX7_fieldOf 2 = .ok (.invokevirtual 122, 3) ∧ decode cX7_fieldOf 5 = .ok (.astore_n 3, 1) ∧ decode cX7_fieldOf 6 = .ok (.aload_n 3, 1) ∧ decode cX7_fieldOf 7 = .ok (.ifnonnull 5, 3) ∧ decode cX7_fieldOf 10 = .ok (.iconst (-1), 1) ∧ decode cX7_fieldOf 11 = .ok (.ireturn, 1) := by decide +kernel
theorem dX7_fieldOf_0 : decode cX7_fieldOf 0 = .ok (.aload_n 0, 1) := zy_b09small_12.1
theorem dX7_fieldOf_1 : decode cX7_fieldOf 1 = .ok (.iload_n 1, 1) := zy_b09small_12.2.1
theorem dX7_fieldOf_2 : decode cX7_fieldOf 2 = .ok (.invokevirtual 122, 3) := zy_b09small_12.2.2.1
theorem dX7_fieldOf_5 : decode cX7_fieldOf 5 = .ok (.astore_n 3, 1) := zy_b09small_12.2.2.2.1
theorem dX7_fieldOf_6 : decode cX7_fieldOf 6 = .ok (.aload_n 3, 1) := zy_b09small_12.2.2.2.2.1
theorem dX7_fieldOf_7 : decode cX7_fieldOf 7 = .ok (.ifnonnull 5, 3) := zy_b09small_12.2.2.2.2.2.1
theorem dX7_fieldOf_10 : decode cX7_fieldOf 10 = .ok (.iconst (-1), 1) := zy_b09small_12.2.2.2.2.2.2.1
theorem dX7_fieldOf_11 : decode cX7_fieldOf 11 = .ok (.ireturn, 1) := zy_b09small_12.2.2.2.2.2.2.2
theorem zy_b09small_13 : decode cX7_fieldOf 12 = .ok (.iload_n 2, 1) ∧ decode cX7_fieldOf 13 = .ok (.tableswitch 78 0 6 #[43, 48, 53, 58, 63, 68, 73], 43) ∧ decode cX7_fieldOf 56 = .ok (.aload_n 3, 1) ∧ decode cX7_fieldOf 57 = .ok (.getfield 84, 3) ∧ decode cX7_fieldOf 60 = .ok (.ireturn, 1) ∧ decode cX7_fieldOf 61 = .ok (.aload_n 3, 1) ∧ decode cX7_fieldOf 62 = .ok (.getfield 87, 3) ∧ decode cX7_fieldOf 65 = .ok (.ireturn, 1) := by decide +kernel
theorem dX7_fieldOf_12 : decode cX7_fieldOf 12 = .ok (.iload_n 2, 1) := zy_b09small_13.1
theorem dX7_fieldOf_13 : decode cX7_fieldOf 13 = .ok (.tableswitch 78 0 6 #[43, 48, 53, 58, 63, 68, 73], 43) := zy_b09small_13.2.1
theorem dX7_fieldOf_56 : decode cX7_fieldOf 56 = .ok (.aload_n 3, 1) := zy_b09small_13.2.2.1
theorem dX7_fieldOf_57 : decode cX7_fieldOf 57 = .ok (.getfield 84, 3) := zy_b09small_13.2.2.2.1
theorem dX7_fieldOf_60 : decode cX7_fieldOf 60 = .ok (.ireturn, 1) := zy_b09small_13.2.2.2.2.1
theorem dX7_fieldOf_61 : decode cX7_fieldOf 61 = .ok (.aload_n 3, 1) := zy_b09small_13.2.2.2.2.2.1
theorem dX7_fieldOf_62 : decode cX7_fieldOf 62 = .ok (.getfield 87, 3) := zy_b09small_13.2.2.2.2.2.2.1
theorem dX7_fieldOf_65 : decode cX7_fieldOf 65 = .ok (.ireturn, 1) := zy_b09small_13.2.2.2.2.2.2.2
theorem zy_b09small_14 : decode cX7_fieldOf 66 = .ok (.aload_n 3, 1) ∧ decode cX7_fieldOf 67 = .ok (.getfield 90, 3) ∧ decode cX7_fieldOf 70 = .ok (.ireturn, 1) ∧ decode cX7_fieldOf 71 = .ok (.aload_n 3, 1) ∧ decode cX7_fieldOf 72 = .ok (.getfield 93, 3) ∧ decode cX7_fieldOf 75 = .ok (.ireturn, 1) ∧ decode cX7_fieldOf 76 = .ok (.aload_n 3, 1) ∧ decode cX7_fieldOf 77 = .ok (.getfield 96, 3) := by decide +kernel
theorem dX7_fieldOf_66 : decode cX7_fieldOf 66 = .ok (.aload_n 3, 1) := zy_b09small_14.1
theorem dX7_fieldOf_67 : decode cX7_fieldOf 67 = .ok (.getfield 90, 3) := zy_b09small_14.2.1
theorem dX7_fieldOf_70 : decode cX7_fieldOf 70 = .ok (.ireturn, 1) := zy_b09small_14.2.2.1
theorem dX7_fieldOf_71 : decode cX7_fieldOf 71 = .ok (.aload_n 3, 1) := zy_b09small_14.2.2.2.1
theorem dX7_fieldOf_72 : decode cX7_fieldOf 72 = .ok (.getfield 93, 3) := zy_b09small_14.2.2.2.2.1
theorem dX7_fieldOf_75 : decode cX7_fieldOf 75 = .ok (.ireturn, 1) := zy_b09small_14.2.2.2.2.2.1
theorem dX7_fieldOf_76 : decode cX7_fieldOf 76 = .ok (.aload_n 3, 1) := zy_b09small_14.2.2.2.2.2.2.1
theorem dX7_fieldOf_77 : decode cX7_fieldOf 77 = .ok (.getfield 96, 3) := zy_b09small_14.2.2.2.2.2.2.2
theorem zy_b09small_15 : decode cX7_fieldOf 80 = .ok (.ireturn, 1) ∧ decode cX7_fieldOf 81 = .ok (.aload_n 3, 1) ∧ decode cX7_fieldOf 82 = .ok (.getfield 177, 3) ∧ decode cX7_fieldOf 85 = .ok (.ireturn, 1) ∧ decode cX7_fieldOf 86 = .ok (.aload_n 3, 1) ∧ decode cX7_fieldOf 87 = .ok (.getfield 180, 3) ∧ decode cX7_fieldOf 90 = .ok (.ireturn, 1) ∧ decode cX7_fieldOf 91 = .ok (.iconst (-1), 1) := by decide +kernel
theorem dX7_fieldOf_80 : decode cX7_fieldOf 80 = .ok (.ireturn, 1) := zy_b09small_15.1
theorem dX7_fieldOf_81 : decode cX7_fieldOf 81 = .ok (.aload_n 3, 1) := zy_b09small_15.2.1
theorem dX7_fieldOf_82 : decode cX7_fieldOf 82 = .ok (.getfield 177, 3) := zy_b09small_15.2.2.1
theorem dX7_fieldOf_85 : decode cX7_fieldOf 85 = .ok (.ireturn, 1) := zy_b09small_15.2.2.2.1
theorem dX7_fieldOf_86 : decode cX7_fieldOf 86 = .ok (.aload_n 3, 1) := zy_b09small_15.2.2.2.2.1
theorem dX7_fieldOf_87 : decode cX7_fieldOf 87 = .ok (.getfield 180, 3) := zy_b09small_15.2.2.2.2.2.1
theorem dX7_fieldOf_90 : decode cX7_fieldOf 90 = .ok (.ireturn, 1) := zy_b09small_15.2.2.2.2.2.2.1
theorem dX7_fieldOf_91 : decode cX7_fieldOf 91 = .ok (.iconst (-1), 1) := zy_b09small_15.2.2.2.2.2.2.2
theorem dX7_fieldOf_92 : decode cX7_fieldOf 92 = .ok (.ireturn, 1) := by decide +kernel
theorem zy_b09small_16 : decode cX7_even 0 = .ok (.aload_n 0, 1) ∧ decode cX7_even 1 = .ok (.getfield 44, 3) ∧ decode cX7_even 4 = .ok (.getfield 126, 3) ∧ decode cX7_even 7 = .ok (.istore_n 1, 1) ∧ decode cX7_even 8 = .ok (.aload_n 0, 1) ∧ decode cX7_even 9 = .ok (.getfield 44, 3) ∧ decode cX7_even 12 = .ok (.iconst 0, 1) ∧ decode cX7_even 13 = .ok (.putfield 126, 3) := by decide +kernel
theorem dX7_even_0 : decode cX7_even 0 = .ok (.aload_n 0, 1) := zy_b09small_16.1
theorem dX7_even_1 : decode cX7_even 1 = .ok (.getfield 44, 3) := zy_b09small_16.2.1
theorem dX7_even_4 : decode cX7_even 4 = .ok (.getfield 126, 3) := zy_b09small_16.2.2.1
theorem dX7_even_7 : decode cX7_even 7 = .ok (.istore_n 1, 1) := zy_b09small_16.2.2.2.1
theorem dX7_even_8 : decode cX7_even 8 = .ok (.aload_n 0, 1) := zy_b09small_16.2.2.2.2.1
theorem dX7_even_9 : decode cX7_even 9 = .ok (.getfield 44, 3) := zy_b09small_16.2.2.2.2.2.1
theorem dX7_even_12 : decode cX7_even 12 = .ok (.iconst 0, 1) := zy_b09small_16.2.2.2.2.2.2.1
theorem dX7_even_13 : decode cX7_even 13 = .ok (.putfield 126, 3) := zy_b09small_16.2.2.2.2.2.2.2
theorem dX7_even_16 : decode cX7_even 16 = .ok (.iload_n 1, 1) := by decide +kernel
theorem dX7_even_17 : decode cX7_even 17 = .ok (.ireturn, 1) := by decide +kernel
theorem zy_b09small_17 : decode cX7_loss 0 = .ok (.iload_n 1, 1) ∧ decode cX7_loss 1 = .ok (.iconst 0, 1) ∧ decode cX7_loss 2 = .ok (.bipush 9, 2) ∧ decode cX7_loss 4 = .ok (.invokestatic 80, 3) ∧ decode cX7_loss 7 = .ok (.ifCond .eq 13, 3) ∧ decode cX7_loss 10 = .ok (.iload_n 2, 1) ∧ decode cX7_loss 11 = .ok (.iconst 0, 1) ∧ decode cX7_loss 12 = .ok (.bipush 100, 2) := by decide +kernel
theorem dX7_loss_0 : decode cX7_loss 0 = .ok (.iload_n 1, 1) := zy_b09small_17.1
theorem dX7_loss_1 : decode cX7_loss 1 = .ok (.iconst 0, 1) := zy_b09small_17.2.1
theorem dX7_loss_2 : decode cX7_loss 2 = .ok (.bipush 9, 2) := zy_b09small_17.2.2.1
theorem dX7_loss_4 : decode cX7_loss 4 = .ok (.invokestatic 80, 3) := zy_b09small_17.2.2.2.1
theorem dX7_loss_7 : decode cX7_loss 7 = .ok (.ifCond .eq 13, 3) := zy_b09small_17.2.2.2.2.1
theorem dX7_loss_10 : decode cX7_loss 10 = .ok (.iload_n 2, 1) := zy_b09small_17.2.2.2.2.2.1
theorem dX7_loss_11 : decode cX7_loss 11 = .ok (.iconst 0, 1) := zy_b09small_17.2.2.2.2.2.2.1
theorem dX7_loss_12 : decode cX7_loss 12 = .ok (.bipush 100, 2) := zy_b09small_17.2.2.2.2.2.2.2
theorem zy_b09small_18 : decode cX7_loss 14 = .ok (.invokestatic 80, 3) ∧ decode cX7_loss 17 = .ok (.ifCond .ne 5, 3) ∧ decode cX7_loss 20 = .ok (.iconst 0, 1) ∧ decode cX7_loss 21 = .ok (.ireturn, 1) ∧ decode cX7_loss 22 = .ok (.aload_n 0, 1) ∧ decode cX7_loss 23 = .ok (.getfield 23, 3) ∧ decode cX7_loss 26 = .ok (.iload_n 1, 1) ∧ decode cX7_loss 27 = .ok (.iload_n 2, 1) := by decide +kernel
theorem dX7_loss_14 : decode cX7_loss 14 = .ok (.invokestatic 80, 3) := zy_b09small_18.1
theorem dX7_loss_17 : decode cX7_loss 17 = .ok (.ifCond .ne 5, 3) := zy_b09small_18.2.1
theorem dX7_loss_20 : decode cX7_loss 20 = .ok (.iconst 0, 1) := zy_b09small_18.2.2.1
theorem dX7_loss_21 : decode cX7_loss 21 = .ok (.ireturn, 1) := zy_b09small_18.2.2.2.1
theorem dX7_loss_22 : decode cX7_loss 22 = .ok (.aload_n 0, 1) := zy_b09small_18.2.2.2.2.1
theorem dX7_loss_23 : decode cX7_loss 23 = .ok (.getfield 23, 3) := zy_b09small_18.2.2.2.2.2.1
theorem dX7_loss_26 : decode cX7_loss 26 = .ok (.iload_n 1, 1) := zy_b09small_18.2.2.2.2.2.2.1
theorem dX7_loss_27 : decode cX7_loss 27 = .ok (.iload_n 2, 1) := zy_b09small_18.2.2.2.2.2.2.2
theorem zy_b09small_19 : decode cX7_loss 28 = .ok (.iastore, 1) ∧ decode cX7_loss 29 = .ok (.iconst 1, 1) ∧ decode cX7_loss 30 = .ok (.ireturn, 1) := by decide +kernel
theorem dX7_loss_28 : decode cX7_loss 28 = .ok (.iastore, 1) := zy_b09small_19.1
theorem dX7_loss_29 : decode cX7_loss 29 = .ok (.iconst 1, 1) := zy_b09small_19.2.1
theorem dX7_loss_30 : decode cX7_loss 30 = .ok (.ireturn, 1) := zy_b09small_19.2.2
theorem zy_b09small_20 : decode cX7_fault 0 = .ok (.iload_n 1, 1) ∧ decode cX7_fault 1 = .ok (.lookupswitch 43 #[(0, 27), (1, 35)], 27) ∧ decode cX7_fault 28 = .ok (.aload_n 0, 1) ∧ decode cX7_fault 29 = .ok (.getfield 37, 3) ∧ decode cX7_fault 32 = .ok (.getfield 110, 3) ∧ decode cX7_fault 35 = .ok (.ireturn, 1) ∧ decode cX7_fault 36 = .ok (.aload_n 0, 1) ∧ decode cX7_fault 37 = .ok (.getfield 37, 3) := by decide +kernel
theorem dX7_fault_0 : decode cX7_fault 0 = .ok (.iload_n 1, 1) := zy_b09small_20.1
theorem dX7_fault_1 : decode cX7_fault 1 = .ok (.lookupswitch 43 #[(0, 27), (1, 35)], 27) := zy_b09small_20.2.1
theorem dX7_fault_28 : decode cX7_fault 28 = .ok (.aload_n 0, 1) := zy_b09small_20.2.2.1
theorem dX7_fault_29 : decode cX7_fault 29 = .ok (.getfield 37, 3) := zy_b09small_20.2.2.2.1
theorem dX7_fault_32 : decode cX7_fault 32 = .ok (.getfield 110, 3) := zy_b09small_20.2.2.2.2.1
theorem dX7_fault_35 : decode cX7_fault 35 = .ok (.ireturn, 1) := zy_b09small_20.2.2.2.2.2.1
theorem dX7_fault_36 : decode cX7_fault 36 = .ok (.aload_n 0, 1) := zy_b09small_20.2.2.2.2.2.2.1
theorem dX7_fault_37 : decode cX7_fault 37 = .ok (.getfield 37, 3) := zy_b09small_20.2.2.2.2.2.2.2
theorem zy_b09small_21 : decode cX7_fault 40 = .ok (.getfield 113, 3) ∧ decode cX7_fault 43 = .ok (.ireturn, 1) ∧ decode cX7_fault 44 = .ok (.iconst (-1), 1) ∧ decode cX7_fault 45 = .ok (.ireturn, 1) := by decide +kernel
theorem dX7_fault_40 : decode cX7_fault 40 = .ok (.getfield 113, 3) := zy_b09small_21.1
theorem dX7_fault_43 : decode cX7_fault 43 = .ok (.ireturn, 1) := zy_b09small_21.2.1
theorem dX7_fault_44 : decode cX7_fault 44 = .ok (.iconst (-1), 1) := zy_b09small_21.2.2.1
theorem dX7_fault_45 : decode cX7_fault 45 = .ok (.ireturn, 1) := zy_b09small_21.2.2.2
theorem zy_b09small_22 : decode cX7_says 0 = .ok (.iload_n 1, 1) ∧ decode cX7_says 1 = .ok (.iconst 0, 1) ∧ decode cX7_says 2 = .ok (.bipush 6, 2) ∧ decode cX7_says 4 = .ok (.invokestatic 80, 3) ∧ decode cX7_says 7 = .ok (.ifCond .eq 15, 3) ∧ decode cX7_says 10 = .ok (.aload_n 0, 1) ∧ decode cX7_says 11 = .ok (.getfield 37, 3) ∧ decode cX7_says 14 = .ok (.getfield 116, 3) := by decide +kernel
theorem dX7_says_0 : decode cX7_says 0 = .ok (.iload_n 1, 1) := zy_b09small_22.1
theorem dX7_says_1 : decode cX7_says 1 = .ok (.iconst 0, 1) := zy_b09small_22.2.1
theorem dX7_says_2 : decode cX7_says 2 = .ok (.bipush 6, 2) := zy_b09small_22.2.2.1
theorem dX7_says_4 : decode cX7_says 4 = .ok (.invokestatic 80, 3) := zy_b09small_22.2.2.2.1
theorem dX7_says_7 : decode cX7_says 7 = .ok (.ifCond .eq 15, 3) := zy_b09small_22.2.2.2.2.1
theorem dX7_says_10 : decode cX7_says 10 = .ok (.aload_n 0, 1) := zy_b09small_22.2.2.2.2.2.1
theorem dX7_says_11 : decode cX7_says 11 = .ok (.getfield 37, 3) := zy_b09small_22.2.2.2.2.2.2.1
theorem dX7_says_14 : decode cX7_says 14 = .ok (.getfield 116, 3) := zy_b09small_22.2.2.2.2.2.2.2
theorem zy_b09small_23 : decode cX7_says 17 = .ok (.iload_n 1, 1) ∧ decode cX7_says 18 = .ok (.iaload, 1) ∧ decode cX7_says 19 = .ok (.goto 4, 3) ∧ decode cX7_says 22 = .ok (.iconst (-1), 1) ∧ decode cX7_says 23 = .ok (.ireturn, 1) := by decide +kernel
theorem dX7_says_17 : decode cX7_says 17 = .ok (.iload_n 1, 1) := zy_b09small_23.1
theorem dX7_says_18 : decode cX7_says 18 = .ok (.iaload, 1) := zy_b09small_23.2.1
theorem dX7_says_19 : decode cX7_says 19 = .ok (.goto 4, 3) := zy_b09small_23.2.2.1
theorem dX7_says_22 : decode cX7_says 22 = .ok (.iconst (-1), 1) := zy_b09small_23.2.2.2.1
theorem dX7_says_23 : decode cX7_says 23 = .ok (.ireturn, 1) := zy_b09small_23.2.2.2.2
theorem zy_b09small_24 : decode cX6_append 0 = .ok (.bipush 24, 2) ∧ decode cX6_append 2 = .ok (.istore_n 2, 1) ∧ decode cX6_append 3 = .ok (.iload_n 2, 1) ∧ decode cX6_append 4 = .ok (.ifCond .lt 45, 3) ∧ decode cX6_append 7 = .ok (.aload_n 0, 1) ∧ decode cX6_append 8 = .ok (.getfield 15, 3) ∧ decode cX6_append 11 = .ok (.sipush 200, 3) ∧ decode cX6_append 14 = .ok (.if_icmp .ge 35, 3) := by decide +kernel
theorem dX6_append_0 : decode cX6_append 0 = .ok (.bipush 24, 2) := zy_b09small_24.1
theorem dX6_append_2 : decode cX6_append 2 = .ok (.istore_n 2, 1) := zy_b09small_24.2.1
theorem dX6_append_3 : decode cX6_append 3 = .ok (.iload_n 2, 1) := zy_b09small_24.2.2.1
theorem dX6_append_4 : decode cX6_append 4 = .ok (.ifCond .lt 45, 3) := zy_b09small_24.2.2.2.1
theorem dX6_append_7 : decode cX6_append 7 = .ok (.aload_n 0, 1) := zy_b09small_24.2.2.2.2.1
theorem dX6_append_8 : decode cX6_append 8 = .ok (.getfield 15, 3) := zy_b09small_24.2.2.2.2.2.1
theorem dX6_append_11 : decode cX6_append 11 = .ok (.sipush 200, 3) := zy_b09small_24.2.2.2.2.2.2.1
theorem dX6_append_14 : decode cX6_append 14 = .ok (.if_icmp .ge 35, 3) := zy_b09small_24.2.2.2.2.2.2.2
theorem zy_b09small_25 : decode cX6_append 17 = .ok (.aload_n 0, 1) ∧ decode cX6_append 18 = .ok (.getfield 9, 3) ∧ decode cX6_append 21 = .ok (.aload_n 0, 1) ∧ decode cX6_append 22 = .ok (.getfield 15, 3) ∧ decode cX6_append 25 = .ok (.iload_n 1, 1) ∧ decode cX6_append 26 = .ok (.iload_n 2, 1) ∧ decode cX6_append 27 = .ok (.iushr, 1) ∧ decode cX6_append 28 = .ok (.sipush 255, 3) := by decide +kernel
theorem dX6_append_17 : decode cX6_append 17 = .ok (.aload_n 0, 1) := zy_b09small_25.1
theorem dX6_append_18 : decode cX6_append 18 = .ok (.getfield 9, 3) := zy_b09small_25.2.1
theorem dX6_append_21 : decode cX6_append 21 = .ok (.aload_n 0, 1) := zy_b09small_25.2.2.1
theorem dX6_append_22 : decode cX6_append 22 = .ok (.getfield 15, 3) := zy_b09small_25.2.2.2.1
theorem dX6_append_25 : decode cX6_append 25 = .ok (.iload_n 1, 1) := zy_b09small_25.2.2.2.2.1
theorem dX6_append_26 : decode cX6_append 26 = .ok (.iload_n 2, 1) := zy_b09small_25.2.2.2.2.2.1
theorem dX6_append_27 : decode cX6_append 27 = .ok (.iushr, 1) := zy_b09small_25.2.2.2.2.2.2.1
theorem dX6_append_28 : decode cX6_append 28 = .ok (.sipush 255, 3) := zy_b09small_25.2.2.2.2.2.2.2
theorem zy_b09small_26 : decode cX6_append 31 = .ok (.iand, 1) ∧ decode cX6_append 32 = .ok (.iastore, 1) ∧ decode cX6_append 33 = .ok (.aload_n 0, 1) ∧ decode cX6_append 34 = .ok (.dup, 1) ∧ decode cX6_append 35 = .ok (.getfield 15, 3) ∧ decode cX6_append 38 = .ok (.iconst 1, 1) ∧ decode cX6_append 39 = .ok (.iadd, 1) ∧ decode cX6_append 40 = .ok (.putfield 15, 3) := by decide +kernel
theorem dX6_append_31 : decode cX6_append 31 = .ok (.iand, 1) := zy_b09small_26.1
theorem dX6_append_32 : decode cX6_append 32 = .ok (.iastore, 1) := zy_b09small_26.2.1
theorem dX6_append_33 : decode cX6_append 33 = .ok (.aload_n 0, 1) := zy_b09small_26.2.2.1
theorem dX6_append_34 : decode cX6_append 34 = .ok (.dup, 1) := zy_b09small_26.2.2.2.1
theorem dX6_append_35 : decode cX6_append 35 = .ok (.getfield 15, 3) := zy_b09small_26.2.2.2.2.1
theorem dX6_append_38 : decode cX6_append 38 = .ok (.iconst 1, 1) := zy_b09small_26.2.2.2.2.2.1
theorem dX6_append_39 : decode cX6_append 39 = .ok (.iadd, 1) := zy_b09small_26.2.2.2.2.2.2.1
theorem dX6_append_40 : decode cX6_append 40 = .ok (.putfield 15, 3) := zy_b09small_26.2.2.2.2.2.2.2
theorem zy_b09small_27 : decode cX6_append 43 = .ok (.iinc 2 (-8), 3) ∧ decode cX6_append 46 = .ok (.goto (-43), 3) ∧ decode cX6_append 49 = .ok (.return_, 1) := by decide +kernel
theorem dX6_append_43 : decode cX6_append 43 = .ok (.iinc 2 (-8), 3) := zy_b09small_27.1
theorem dX6_append_46 : decode cX6_append 46 = .ok (.goto (-43), 3) := zy_b09small_27.2.1
theorem dX6_append_49 : decode cX6_append 49 = .ok (.return_, 1) := zy_b09small_27.2.2
theorem zy_b09small_28 : decode cX6_at 0 = .ok (.iload_n 1, 1) ∧ decode cX6_at 1 = .ok (.ifCond .lt 27, 3) ∧ decode cX6_at 4 = .ok (.iload_n 1, 1) ∧ decode cX6_at 5 = .ok (.aload_n 0, 1) ∧ decode cX6_at 6 = .ok (.getfield 15, 3) ∧ decode cX6_at 9 = .ok (.if_icmp .ge 19, 3) ∧ decode cX6_at 12 = .ok (.iload_n 1, 1) ∧ decode cX6_at 13 = .ok (.sipush 200, 3) := by decide +kernel
theorem dX6_at_0 : decode cX6_at 0 = .ok (.iload_n 1, 1) := zy_b09small_28.1
theorem dX6_at_1 : decode cX6_at 1 = .ok (.ifCond .lt 27, 3) := zy_b09small_28.2.1
theorem dX6_at_4 : decode cX6_at 4 = .ok (.iload_n 1, 1) := zy_b09small_28.2.2.1
theorem dX6_at_5 : decode cX6_at 5 = .ok (.aload_n 0, 1) := zy_b09small_28.2.2.2.1
theorem dX6_at_6 : decode cX6_at 6 = .ok (.getfield 15, 3) := zy_b09small_28.2.2.2.2.1
theorem dX6_at_9 : decode cX6_at 9 = .ok (.if_icmp .ge 19, 3) := zy_b09small_28.2.2.2.2.2.1
theorem dX6_at_12 : decode cX6_at 12 = .ok (.iload_n 1, 1) := zy_b09small_28.2.2.2.2.2.2.1
theorem dX6_at_13 : decode cX6_at 13 = .ok (.sipush 200, 3) := zy_b09small_28.2.2.2.2.2.2.2
theorem zy_b09small_29 : decode cX6_at 16 = .ok (.if_icmp .ge 12, 3) ∧ decode cX6_at 19 = .ok (.aload_n 0, 1) ∧ decode cX6_at 20 = .ok (.getfield 9, 3) ∧ decode cX6_at 23 = .ok (.iload_n 1, 1) ∧ decode cX6_at 24 = .ok (.iaload, 1) ∧ decode cX6_at 25 = .ok (.goto 5, 3) ∧ decode cX6_at 28 = .ok (.bipush 32, 2) ∧ decode cX6_at 30 = .ok (.ireturn, 1) := by decide +kernel
theorem dX6_at_16 : decode cX6_at 16 = .ok (.if_icmp .ge 12, 3) := zy_b09small_29.1
theorem dX6_at_19 : decode cX6_at 19 = .ok (.aload_n 0, 1) := zy_b09small_29.2.1
theorem dX6_at_20 : decode cX6_at 20 = .ok (.getfield 9, 3) := zy_b09small_29.2.2.1
theorem dX6_at_23 : decode cX6_at 23 = .ok (.iload_n 1, 1) := zy_b09small_29.2.2.2.1
theorem dX6_at_24 : decode cX6_at 24 = .ok (.iaload, 1) := zy_b09small_29.2.2.2.2.1
theorem dX6_at_25 : decode cX6_at 25 = .ok (.goto 5, 3) := zy_b09small_29.2.2.2.2.2.1
theorem dX6_at_28 : decode cX6_at 28 = .ok (.bipush 32, 2) := zy_b09small_29.2.2.2.2.2.2.1
theorem dX6_at_30 : decode cX6_at 30 = .ok (.ireturn, 1) := zy_b09small_29.2.2.2.2.2.2.2
theorem zy_b09small_30 : decode cX7_feed 0 = .ok (.aload_n 0, 1) ∧ decode cX7_feed 1 = .ok (.getfield 30, 3) ∧ decode cX7_feed 4 = .ok (.getfield 99, 3) ∧ decode cX7_feed 7 = .ok (.sipush 180, 3) ∧ decode cX7_feed 10 = .ok (.if_icmp .le 5, 3) ∧ decode cX7_feed 13 = .ok (.iconst (-1), 1) ∧ decode cX7_feed 14 = .ok (.ireturn, 1) ∧ decode cX7_feed 15 = .ok (.aload_n 0, 1) := by decide +kernel
theorem dX7_feed_0 : decode cX7_feed 0 = .ok (.aload_n 0, 1) := zy_b09small_30.1
theorem dX7_feed_1 : decode cX7_feed 1 = .ok (.getfield 30, 3) := zy_b09small_30.2.1
theorem dX7_feed_4 : decode cX7_feed 4 = .ok (.getfield 99, 3) := zy_b09small_30.2.2.1
theorem dX7_feed_7 : decode cX7_feed 7 = .ok (.sipush 180, 3) := zy_b09small_30.2.2.2.1
theorem dX7_feed_10 : decode cX7_feed 10 = .ok (.if_icmp .le 5, 3) := zy_b09small_30.2.2.2.2.1
theorem dX7_feed_13 : decode cX7_feed 13 = .ok (.iconst (-1), 1) := zy_b09small_30.2.2.2.2.2.1
theorem dX7_feed_14 : decode cX7_feed 14 = .ok (.ireturn, 1) := zy_b09small_30.2.2.2.2.2.2.1
theorem dX7_feed_15 : decode cX7_feed 15 = .ok (.aload_n 0, 1) := zy_b09small_30.2.2.2.2.2.2.2
theorem zy_b09small_31 : decode cX7_feed 16 = .ok (.getfield 30, 3) ∧ decode cX7_feed 19 = .ok (.iload_n 1, 1) ∧ decode cX7_feed 20 = .ok (.invokevirtual 102, 3) ∧ decode cX7_feed 23 = .ok (.aload_n 0, 1) ∧ decode cX7_feed 24 = .ok (.getfield 30, 3) ∧ decode cX7_feed 27 = .ok (.iload_n 2, 1) ∧ decode cX7_feed 28 = .ok (.invokevirtual 102, 3) ∧ decode cX7_feed 31 = .ok (.aload_n 0, 1) := by decide +kernel
theorem dX7_feed_16 : decode cX7_feed 16 = .ok (.getfield 30, 3) := zy_b09small_31.1
theorem dX7_feed_19 : decode cX7_feed 19 = .ok (.iload_n 1, 1) := zy_b09small_31.2.1
theorem dX7_feed_20 : decode cX7_feed 20 = .ok (.invokevirtual 102, 3) := zy_b09small_31.2.2.1
theorem dX7_feed_23 : decode cX7_feed 23 = .ok (.aload_n 0, 1) := zy_b09small_31.2.2.2.1
theorem dX7_feed_24 : decode cX7_feed 24 = .ok (.getfield 30, 3) := zy_b09small_31.2.2.2.2.1
theorem dX7_feed_27 : decode cX7_feed 27 = .ok (.iload_n 2, 1) := zy_b09small_31.2.2.2.2.2.1
theorem dX7_feed_28 : decode cX7_feed 28 = .ok (.invokevirtual 102, 3) := zy_b09small_31.2.2.2.2.2.2.1
theorem dX7_feed_31 : decode cX7_feed 31 = .ok (.aload_n 0, 1) := zy_b09small_31.2.2.2.2.2.2.2
theorem zy_b09small_32 : decode cX7_feed 32 = .ok (.getfield 30, 3) ∧ decode cX7_feed 35 = .ok (.iload_n 3, 1) ∧ decode cX7_feed 36 = .ok (.invokevirtual 102, 3) ∧ decode cX7_feed 39 = .ok (.aload_n 0, 1) ∧ decode cX7_feed 40 = .ok (.getfield 30, 3) ∧ decode cX7_feed 43 = .ok (.iload 4, 2) ∧ decode cX7_feed 45 = .ok (.invokevirtual 102, 3) ∧ decode cX7_feed 48 = .ok (.aload_n 0, 1) := by decide +kernel
theorem dX7_feed_32 : decode cX7_feed 32 = .ok (.getfield 30, 3) := zy_b09small_32.1
theorem dX7_feed_35 : decode cX7_feed 35 = .ok (.iload_n 3, 1) := zy_b09small_32.2.1
theorem dX7_feed_36 : decode cX7_feed 36 = .ok (.invokevirtual 102, 3) := zy_b09small_32.2.2.1
theorem dX7_feed_39 : decode cX7_feed 39 = .ok (.aload_n 0, 1) := zy_b09small_32.2.2.2.1
theorem dX7_feed_40 : decode cX7_feed 40 = .ok (.getfield 30, 3) := zy_b09small_32.2.2.2.2.1
theorem dX7_feed_43 : decode cX7_feed 43 = .ok (.iload 4, 2) := zy_b09small_32.2.2.2.2.2.1
theorem dX7_feed_45 : decode cX7_feed 45 = .ok (.invokevirtual 102, 3) := zy_b09small_32.2.2.2.2.2.2.1
theorem dX7_feed_48 : decode cX7_feed 48 = .ok (.aload_n 0, 1) := zy_b09small_32.2.2.2.2.2.2.2
theorem zy_b09small_33 : decode cX7_feed 49 = .ok (.getfield 30, 3) ∧ decode cX7_feed 52 = .ok (.iload 5, 2) ∧ decode cX7_feed 54 = .ok (.invokevirtual 102, 3) ∧ decode cX7_feed 57 = .ok (.aload_n 0, 1) ∧ decode cX7_feed 58 = .ok (.getfield 30, 3) ∧ decode cX7_feed 61 = .ok (.getfield 99, 3) ∧ decode cX7_feed 64 = .ok (.ireturn, 1) := by decide +kernel
theorem dX7_feed_49 : decode cX7_feed 49 = .ok (.getfield 30, 3) := zy_b09small_33.1
theorem dX7_feed_52 : decode cX7_feed 52 = .ok (.iload 5, 2) := zy_b09small_33.2.1
theorem dX7_feed_54 : decode cX7_feed 54 = .ok (.invokevirtual 102, 3) := zy_b09small_33.2.2.1
theorem dX7_feed_57 : decode cX7_feed 57 = .ok (.aload_n 0, 1) := zy_b09small_33.2.2.2.1
theorem dX7_feed_58 : decode cX7_feed 58 = .ok (.getfield 30, 3) := zy_b09small_33.2.2.2.2.1
theorem dX7_feed_61 : decode cX7_feed 61 = .ok (.getfield 99, 3) := zy_b09small_33.2.2.2.2.2.1
theorem dX7_feed_64 : decode cX7_feed 64 = .ok (.ireturn, 1) := zy_b09small_33.2.2.2.2.2.2
theorem zy_b09small_34 : decode cX7_end 0 = .ok (.iload_n 1, 1) ∧ decode cX7_end 1 = .ok (.iconst 0, 1) ∧ decode cX7_end 2 = .ok (.aload_n 0, 1) ∧ decode cX7_end 3 = .ok (.getfield 30, 3) ∧ decode cX7_end 6 = .ok (.getfield 99, 3) ∧ decode cX7_end 9 = .ok (.invokestatic 80, 3) ∧ decode cX7_end 12 = .ok (.ifCond .ne 5, 3) ∧ decode cX7_end 15 = .ok (.iconst (-1), 1) := by decide +kernel
theorem dX7_end_0 : decode cX7_end 0 = .ok (.iload_n 1, 1) := zy_b09small_34.1
theorem dX7_end_1 : decode cX7_end 1 = .ok (.iconst 0, 1) := zy_b09small_34.2.1
theorem dX7_end_2 : decode cX7_end 2 = .ok (.aload_n 0, 1) := zy_b09small_34.2.2.1
theorem dX7_end_3 : decode cX7_end 3 = .ok (.getfield 30, 3) := zy_b09small_34.2.2.2.1
theorem dX7_end_6 : decode cX7_end 6 = .ok (.getfield 99, 3) := zy_b09small_34.2.2.2.2.1
theorem dX7_end_9 : decode cX7_end 9 = .ok (.invokestatic 80, 3) := zy_b09small_34.2.2.2.2.2.1
theorem dX7_end_12 : decode cX7_end 12 = .ok (.ifCond .ne 5, 3) := zy_b09small_34.2.2.2.2.2.2.1
theorem dX7_end_15 : decode cX7_end 15 = .ok (.iconst (-1), 1) := zy_b09small_34.2.2.2.2.2.2.2
theorem zy_b09small_35 : decode cX7_end 16 = .ok (.ireturn, 1) ∧ decode cX7_end 17 = .ok (.aload_n 0, 1) ∧ decode cX7_end 18 = .ok (.getfield 30, 3) ∧ decode cX7_end 21 = .ok (.iload_n 1, 1) ∧ decode cX7_end 22 = .ok (.putfield 99, 3) ∧ decode cX7_end 25 = .ok (.iload_n 1, 1) ∧ decode cX7_end 26 = .ok (.ireturn, 1) := by decide +kernel
theorem dX7_end_16 : decode cX7_end 16 = .ok (.ireturn, 1) := zy_b09small_35.1
theorem dX7_end_17 : decode cX7_end 17 = .ok (.aload_n 0, 1) := zy_b09small_35.2.1
theorem dX7_end_18 : decode cX7_end 18 = .ok (.getfield 30, 3) := zy_b09small_35.2.2.1
theorem dX7_end_21 : decode cX7_end 21 = .ok (.iload_n 1, 1) := zy_b09small_35.2.2.2.1
theorem dX7_end_22 : decode cX7_end 22 = .ok (.putfield 99, 3) := zy_b09small_35.2.2.2.2.1
theorem dX7_end_25 : decode cX7_end 25 = .ok (.iload_n 1, 1) := zy_b09small_35.2.2.2.2.2.1
theorem dX7_end_26 : decode cX7_end 26 = .ok (.ireturn, 1) := zy_b09small_35.2.2.2.2.2.2
theorem zy_b09small_36 : decode cX7_about 0 = .ok (.iload_n 1, 1) ∧ decode cX7_about 1 = .ok (.tableswitch 75 0 5 #[39, 44, 49, 54, 62, 67], 39) ∧ decode cX7_about 40 = .ok (.aload_n 0, 1) ∧ decode cX7_about 41 = .ok (.getfield 62, 3) ∧ decode cX7_about 44 = .ok (.ireturn, 1) ∧ decode cX7_about 45 = .ok (.aload_n 0, 1) ∧ decode cX7_about 46 = .ok (.getfield 77, 3) ∧ decode cX7_about 49 = .ok (.ireturn, 1) := by decide +kernel
theorem dX7_about_0 : decode cX7_about 0 = .ok (.iload_n 1, 1) := zy_b09small_36.1
theorem dX7_about_1 : decode cX7_about 1 = .ok (.tableswitch 75 0 5 #[39, 44, 49, 54, 62, 67], 39) := zy_b09small_36.2.1
theorem dX7_about_40 : decode cX7_about 40 = .ok (.aload_n 0, 1) := zy_b09small_36.2.2.1
theorem dX7_about_41 : decode cX7_about 41 = .ok (.getfield 62, 3) := zy_b09small_36.2.2.2.1
theorem dX7_about_44 : decode cX7_about 44 = .ok (.ireturn, 1) := zy_b09small_36.2.2.2.2.1
theorem dX7_about_45 : decode cX7_about 45 = .ok (.aload_n 0, 1) := zy_b09small_36.2.2.2.2.2.1
theorem dX7_about_46 : decode cX7_about 46 = .ok (.getfield 77, 3) := zy_b09small_36.2.2.2.2.2.2.1
theorem dX7_about_49 : decode cX7_about 49 = .ok (.ireturn, 1) := zy_b09small_36.2.2.2.2.2.2.2
theorem zy_b09small_37 : decode cX7_about 50 = .ok (.aload_n 0, 1) ∧ decode cX7_about 51 = .ok (.getfield 129, 3) ∧ decode cX7_about 54 = .ok (.ireturn, 1) ∧ decode cX7_about 55 = .ok (.aload_n 0, 1) ∧ decode cX7_about 56 = .ok (.getfield 44, 3) ∧ decode cX7_about 59 = .ok (.getfield 126, 3) ∧ decode cX7_about 62 = .ok (.ireturn, 1) ∧ decode cX7_about 63 = .ok (.aload_n 0, 1) := by decide +kernel
theorem dX7_about_50 : decode cX7_about 50 = .ok (.aload_n 0, 1) := zy_b09small_37.1
theorem dX7_about_51 : decode cX7_about 51 = .ok (.getfield 129, 3) := zy_b09small_37.2.1
theorem dX7_about_54 : decode cX7_about 54 = .ok (.ireturn, 1) := zy_b09small_37.2.2.1
theorem dX7_about_55 : decode cX7_about 55 = .ok (.aload_n 0, 1) := zy_b09small_37.2.2.2.1
theorem dX7_about_56 : decode cX7_about 56 = .ok (.getfield 44, 3) := zy_b09small_37.2.2.2.2.1
theorem dX7_about_59 : decode cX7_about 59 = .ok (.getfield 126, 3) := zy_b09small_37.2.2.2.2.2.1
theorem dX7_about_62 : decode cX7_about 62 = .ok (.ireturn, 1) := zy_b09small_37.2.2.2.2.2.2.1
theorem dX7_about_63 : decode cX7_about 63 = .ok (.aload_n 0, 1) := zy_b09small_37.2.2.2.2.2.2.2
theorem zy_b09small_38 : decode cX7_about 64 = .ok (.getfield 151, 3) ∧ decode cX7_about 67 = .ok (.ireturn, 1) ∧ decode cX7_about 68 = .ok (.aload_n 0, 1) ∧ decode cX7_about 69 = .ok (.getfield 30, 3) ∧ decode cX7_about 72 = .ok (.getfield 99, 3) ∧ decode cX7_about 75 = .ok (.ireturn, 1) ∧ decode cX7_about 76 = .ok (.iload_n 1, 1) ∧ decode cX7_about 77 = .ok (.bipush 20, 2) := by decide +kernel
theorem dX7_about_64 : decode cX7_about 64 = .ok (.getfield 151, 3) := zy_b09small_38.1
theorem dX7_about_67 : decode cX7_about 67 = .ok (.ireturn, 1) := zy_b09small_38.2.1
theorem dX7_about_68 : decode cX7_about 68 = .ok (.aload_n 0, 1) := zy_b09small_38.2.2.1
theorem dX7_about_69 : decode cX7_about 69 = .ok (.getfield 30, 3) := zy_b09small_38.2.2.2.1
theorem dX7_about_72 : decode cX7_about 72 = .ok (.getfield 99, 3) := zy_b09small_38.2.2.2.2.1
theorem dX7_about_75 : decode cX7_about 75 = .ok (.ireturn, 1) := zy_b09small_38.2.2.2.2.2.1
theorem dX7_about_76 : decode cX7_about 76 = .ok (.iload_n 1, 1) := zy_b09small_38.2.2.2.2.2.2.1
theorem dX7_about_77 : decode cX7_about 77 = .ok (.bipush 20, 2) := zy_b09small_38.2.2.2.2.2.2.2
theorem zy_b09small_39 : decode cX7_about 79 = .ok (.bipush 29, 2) ∧ decode cX7_about 81 = .ok (.invokestatic 80, 3) ∧ decode cX7_about 84 = .ok (.ifCond .eq 15, 3) ∧ decode cX7_about 87 = .ok (.aload_n 0, 1) ∧ decode cX7_about 88 = .ok (.getfield 23, 3) ∧ decode cX7_about 91 = .ok (.iload_n 1, 1) ∧ decode cX7_about 92 = .ok (.bipush 20, 2) ∧ decode cX7_about 94 = .ok (.isub, 1) := by decide +kernel
theorem dX7_about_79 : decode cX7_about 79 = .ok (.bipush 29, 2) := zy_b09small_39.1
theorem dX7_about_81 : decode cX7_about 81 = .ok (.invokestatic 80, 3) := zy_b09small_39.2.1
theorem dX7_about_84 : decode cX7_about 84 = .ok (.ifCond .eq 15, 3) := zy_b09small_39.2.2.1
theorem dX7_about_87 : decode cX7_about 87 = .ok (.aload_n 0, 1) := zy_b09small_39.2.2.2.1
theorem dX7_about_88 : decode cX7_about 88 = .ok (.getfield 23, 3) := zy_b09small_39.2.2.2.2.1
theorem dX7_about_91 : decode cX7_about 91 = .ok (.iload_n 1, 1) := zy_b09small_39.2.2.2.2.2.1
theorem dX7_about_92 : decode cX7_about 92 = .ok (.bipush 20, 2) := zy_b09small_39.2.2.2.2.2.2.1
theorem dX7_about_94 : decode cX7_about 94 = .ok (.isub, 1) := zy_b09small_39.2.2.2.2.2.2.2
theorem zy_b09small_40 : decode cX7_about 95 = .ok (.iaload, 1) ∧ decode cX7_about 96 = .ok (.goto 4, 3) ∧ decode cX7_about 99 = .ok (.iconst (-1), 1) ∧ decode cX7_about 100 = .ok (.ireturn, 1) := by decide +kernel
theorem dX7_about_95 : decode cX7_about 95 = .ok (.iaload, 1) := zy_b09small_40.1
theorem dX7_about_96 : decode cX7_about 96 = .ok (.goto 4, 3) := zy_b09small_40.2.1
theorem dX7_about_99 : decode cX7_about 99 = .ok (.iconst (-1), 1) := zy_b09small_40.2.2.1
theorem dX7_about_100 : decode cX7_about 100 = .ok (.ireturn, 1) := zy_b09small_40.2.2.2
set_option maxHeartbeats 4000000 in
set_option maxRecDepth 100000 in
theorem k_end (l : Launch) (dC : Nat → ClassId) (dI : Nat → Nat → Nat) (a : Nat → Nat) (nh : Nat) (nf : Nat) (clk : Int32) (hi : Int32) (nt : Nat) (p0 : Int32) (sz : Nat) (ht : nt ≤ 200) : Met l yX7_end (zz_w yX7_end cX7_end 2 (some .int)) ({ frames := 1, cells := 0, slots := 0, locals := 22 }) (va_Pc [.ref (a 0), .int p0] (zz_B (dC, dI) sz [(a 0, .inr (7, [.ref (a 1), .ref (a 10), .ref (a 23), .ref (a 24), .ref (a 26), .ref (a 29), .ref (a 34), .ref (a 43), .int (nI nh), .int (nI nf), .int clk, .int hi])), (a 24, .inr (6, [.ref (a 25), .int (nI nt)]))] [])) (va_Qi (fun (r : Int32) (t2 : Nat) => ((0 ≤ p0.toInt ∧ p0.toInt ≤ (nt : Int)) ∧ r = p0 ∧ (t2 : Int) = p0.toInt) ∨ (¬ (0 ≤ p0.toInt ∧ p0.toInt ≤ (nt : Int)) ∧ r = -1 ∧ t2 = nt)) (fun (u0 : Nat) (t : State) => va_P (dC, dI) vwCl [(a 0, .inr (7, [.ref (a 1), .ref (a 10), .ref (a 23), .ref (a 24), .ref (a 26), .ref (a 29), .ref (a 34), .ref (a 43), .int (nI nh), .int (nI nf), .int clk, .int hi])), (a 24, .inr (6, [.ref (a 25), .int (nI u0)]))] t.heap ∧ va_K (dC, dI) vwCl [] t ∧ va_D (va_A [(a 0, .inr (7, [.ref (a 1), .ref (a 10), .ref (a 23), .ref (a 24), .ref (a 26), .ref (a 29), .ref (a 34), .ref (a 43), .int (nI nh), .int (nI nf), .int clk, .int hi])), (a 24, .inr (6, [.ref (a 25), .int (nI nt)]))] sz) [(a 0, .inr (7, [.ref (a 1), .ref (a 10), .ref (a 23), .ref (a 24), .ref (a 26), .ref (a 29), .ref (a 34), .ref (a 43), .int (nI nh), .int (nI nf), .int clk, .int hi])), (a 24, .inr (6, [.ref (a 25), .int (nI u0)]))]) (va_A [(a 0, .inr (7, [.ref (a 1), .ref (a 10), .ref (a 23), .ref (a 24), .ref (a 26), .ref (a 29), .ref (a 34), .ref (a 43), .int (nI nh), .int (nI nf), .int clk, .int hi])), (a 24, .inr (6, [.ref (a 25), .int (nI nt)]))] sz)) 0 0 (va_A [(a 0, .inr (7, [.ref (a 1), .ref (a 10), .ref (a 23), .ref (a 24), .ref (a 26), .ref (a 29), .ref (a 34), .ref (a 43), .int (nI nh), .int (nI nf), .int clk, .int hi])), (a 24, .inr (6, [.ref (a 25), .int (nI nt)]))] sz) := by
  refine Met.ofW (cc := cX7_end) (maxL := 2) (ret := (some .int)) (by decide) rfl ?_
  intro p e s m args below meth c s₁ B hml hv
  obtain ⟨rfl, hsz, hP, hK, hD0, hN⟩ := hv
  have hx := B.exec
  have hb := B.bytes
  have hr := B.returns
  have hts := atoms_spec (ws := zz_w yX7_end cX7_end 2 (some .int)) B.pre
  have hw : ∀ w ∈ zz_all, w.before _ s = true := fun w h => hts w (List.mem_cons_of_mem _ h)
  have hown : s.vm.findClass RX7 = some m.cls := findClass_of_methodNamed B.named
  have hlocks := B.notSynchronized
  subst hsz
  have hD := hD0.self (sz := s.heap.size)
  generalize hAe : va_A [(a 0, .inr (7, [.ref (a 1), .ref (a 10), .ref (a 23), .ref (a 24), .ref (a 26), .ref (a 29), .ref (a 34), .ref (a 43), .int (nI nh), .int (nI nf), .int clk, .int hi])), (a 24, .inr (6, [.ref (a 25), .int (nI nt)]))] s.heap.size = A at hD ⊢
  have hA : ∀ q : Nat, s.heap.size ≤ q → A q := fun q h => by rw [← hAe]; exact Or.inr h
  have hS : va_S A s.heap s.heap [] := va_S.rf
  have hP : va_P (dC, dI) vwCl [(a 0, .inr (7, [.ref (a 1), .ref (a 10), .ref (a 23), .ref (a 24), .ref (a 26), .ref (a 29), .ref (a 34), .ref (a 43), .int (nI nh), .int (nI nf), .int clk, .int hi])), (a 24, .inr (6, [.ref (a 25), .int (nI nt)]))] s.heap := hP
  have hl := lv_entry ([.ref (a 0), .int p0]) (n := 2) (Nat.le_of_ble_eq_true rfl)
  rw [lg_entry_eq]
  generalize (lg_sl ([.ref (a 0), .int p0]) ++ List.replicate (2 - (lg_sl ([.ref (a 0), .int p0])).length) Slot.unset).toArray = ls at hl ⊢
  have hl : lv_has ls 2 [(0, .ref (a 0)), (1, .int p0)] := hl
  refine lv_iload_n hx hb dX7_end_0 rfl (lv_at hl 1 rfl) ?_
  refine lv_iconst (v := 0) hx hb dX7_end_1 (by decide) ?_
  refine lv_aload_n hx hb dX7_end_2 rfl (lv_at hl 0 rfl) ?_
  refine va_get (D := (dC, dI)) (ci := 7) (v := .ref (a 24)) (C := RX7) (T := TX7) (N := 12) hx hb hw zz_inX7 hown hK hP 0 rfl rfl 3 (by decide) (hw _ tw_97) (fun _ h9 => h9) rfl dX7_end_3 ?_
  refine va_getN (D := (dC, dI)) (ci := 6) (v := .int (nI nt)) (C := RX6) (T := TX6) (N := 2) hx hb hw zz_inX6 hown hK hP 1 rfl rfl 1 (by decide) (hN.use zz_n23) (fun _ h9 => h9) rfl dX7_end_6 ?_
  obtain ⟨hPc, hDc⟩ := zz_sub2 (ws' := []) hP hD [] (by decide) rfl
  have hKc := hK.sub (tys' := []) [] rfl
  have hFc := zz_free0 hS hA
  refine va_calli (va_runS (As := [.int p0, .int 0, .int (nI nt)]) (rest := []) ⟨hx, hb, hml, hown, hw⟩ (k_within l dC dI p0 0 (nI nt) s.heap.size) ⟨callB_of 3 hw (zz_good tw_1) rfl rfl rfl (hw _ tw_2) (hw _ tw_3) (by decide +kernel) ⟨Nat.le_of_ble_eq_true rfl, Nat.le_of_ble_eq_true rfl⟩, (hw _ tw_4)⟩ ⟨zz_blind, zz_pre hPc hKc hDc hN⟩ rfl rfl hl.1 rfl (lv_room (Nat.le_of_ble_eq_true rfl)) dX7_end_9 ⟨Nat.le_of_ble_eq_true rfl, Nat.le_of_ble_eq_true rfl⟩) hS (fun q _ h => hFc q h) hFc (fun r_1 u_1 t H1 locs ht hvm e_1 hB hz1 hk1 hS => ?_)
  try dsimp only at e_1
  have hP := zz_keep hP hk1
  clear hk1 hB ht hvm
  generalize H1 = H at hP hS ⊢
  refine lv_if_ne (tgt := 17) hx hb dX7_end_12 (by decide) (fun c_2 => ?_) (fun c_2 => ?_)
  · have zc_2 := c_2
    rw [e_1, zz_in0, Int32.le_iff_toInt_le, Int32.le_iff_toInt_le] at zc_2
    try rw [show (0 : Int32).toInt = 0 from by decide] at zc_2
    try rw [zz_toInt nt (by omega)] at zc_2
    refine lv_aload_n hx hb dX7_end_17 rfl (lv_at hl 0 rfl) ?_
    refine va_get (D := (dC, dI)) (ci := 7) (v := .ref (a 24)) (C := RX7) (T := TX7) (N := 12) hx hb hw zz_inX7 hown hK hP 0 rfl rfl 3 (by decide) (hw _ tw_97) (fun _ h9 => h9) rfl dX7_end_18 ?_
    refine lv_iload_n hx hb dX7_end_21 rfl (lv_at hl 1 rfl) ?_
    refine zz_seti (nI (Int32.toNatClampNeg p0)) (zz_back (by omega)) ?_
    refine va_putN (D := (dC, dI)) (ci := 6) (v := .int (nI (Int32.toNatClampNeg p0))) (ty := .int) (C := RX6) (T := TX6) (N := 2) hx hb hw zz_inX6 tyX6 tyX6_ok nmX6 hown hK hP hD hS 1 rfl rfl 1 (by decide) (hN.use zz_n23) (fun _ h9 => h9) rfl (by decide +kernel) rfl rfl (Nat.le_of_ble_eq_true rfl) dX7_end_22 (fun H locs hP hD hS => ?_)
    obtain ⟨hP, hD⟩ := zz_ty (D := (dC, dI)) (cl := vwCl) (A := A) (H := H) [(a 0, .inr (7, [.ref (a 1), .ref (a 10), .ref (a 23), .ref (a 24), .ref (a 26), .ref (a 29), .ref (a 34), .ref (a 43), .int (nI nh), .int (nI nf), .int clk, .int hi])), (a 24, .inr (6, [.ref (a 25), .int (nI (Int32.toNatClampNeg p0))]))] hP hD rfl
    refine lv_iload_n hx hb dX7_end_25 rfl (lv_at hl 1 rfl) ?_
    obtain ⟨hP9, hD9⟩ := zz_sub2 (ws' := [(a 0, .inr (7, [.ref (a 1), .ref (a 10), .ref (a 23), .ref (a 24), .ref (a 26), .ref (a 29), .ref (a 34), .ref (a 43), .int (nI nh), .int (nI nf), .int clk, .int hi])), (a 24, .inr (6, [.ref (a 25), .int (nI (Int32.toNatClampNeg p0))]))]) hP hD [0, 1] (by decide) rfl
    have hK9 := hK.sub (tys' := []) [] rfl
    exact W.iret (v := p0) hx hb hr (fun t ht hW => ⟨⟨p0, ((Int32.toNatClampNeg p0)), rfl, (by first | exact Or.inl ⟨by omega, rfl, zz_clN (by omega)⟩ | exact Or.inr ⟨by omega, rfl, rfl⟩), by rw [ht]; exact hP9, va_K.moved hW.alike hK9, hD9⟩, hS.F ht⟩) hS.2.2 dX7_end_26
  · have zc_2 := c_2
    rw [e_1, zz_in0, Int32.le_iff_toInt_le, Int32.le_iff_toInt_le] at zc_2
    try rw [show (0 : Int32).toInt = 0 from by decide] at zc_2
    try rw [zz_toInt nt (by omega)] at zc_2
    refine lv_iconst (v := (-1)) hx hb dX7_end_15 (by decide) ?_
    obtain ⟨hP9, hD9⟩ := zz_sub2 (ws' := [(a 0, .inr (7, [.ref (a 1), .ref (a 10), .ref (a 23), .ref (a 24), .ref (a 26), .ref (a 29), .ref (a 34), .ref (a 43), .int (nI nh), .int (nI nf), .int clk, .int hi])), (a 24, .inr (6, [.ref (a 25), .int (nI nt)]))]) hP hD [0, 1] (by decide) rfl
    have hK9 := hK.sub (tys' := []) [] rfl
    exact W.iret (v := (-1)) hx hb hr (fun t ht hW => ⟨⟨(-1), (nt), rfl, (by first | exact Or.inl ⟨by omega, rfl, zz_clN (by omega)⟩ | exact Or.inr ⟨by omega, rfl, rfl⟩), by rw [ht]; exact hP9, va_K.moved hW.alike hK9, hD9⟩, hS.F ht⟩) hS.2.2 dX7_end_16
