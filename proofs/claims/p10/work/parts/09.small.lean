theorem tw_81 : Cond.code yX7_areTwoHouses cX7_areTwoHouses 3 (some .boolean) ∈ zz_all := zz_m3 61 rfl rfl
theorem tw_82 : Cond.methodLink RX7 181 yX7_areTwoHouses ∈ zz_all := zz_m3 58 rfl rfl
theorem tw_83 : Cond.instanceMethod yX7_areTwoHouses ∈ zz_all := zz_m3 60 rfl rfl
theorem tw_84 : Cond.selects RX7 yX7_areTwoHouses yX7_areTwoHouses ∈ zz_all := zz_ms 20 rfl rfl
theorem tw_85 : Cond.code yX1_unitsOwed cX1_unitsOwed 5 (some .int) ∈ zz_all := zz_m3 65 rfl rfl
theorem tw_86 : Cond.instanceMethod yX1_unitsOwed ∈ zz_all := zz_m3 64 rfl rfl
theorem tw_87 : Cond.selects RX1 yX1_unitsOwed yX1_unitsOwed ∈ zz_all := zz_ms 21 rfl rfl
theorem tw_88 : Cond.code yX1_firstDay cX1_firstDay 4 (some .int) ∈ zz_all := zz_m3 73 rfl rfl
theorem tw_89 : Cond.instanceMethod yX1_firstDay ∈ zz_all := zz_m3 72 rfl rfl
theorem tw_90 : Cond.selects RX1 yX1_firstDay yX1_firstDay ∈ zz_all := zz_ms 22 rfl rfl
theorem tw_91 : Cond.constant RX7 160 (-1000000) ∈ zz_all := zz_m3 45 rfl rfl
theorem tw_92 : Cond.code yX1_net cX1_net 4 (some .int) ∈ zz_all := zz_m3 49 rfl rfl
theorem tw_93 : Cond.instanceMethod yX1_net ∈ zz_all := zz_m3 48 rfl rfl
theorem tw_94 : Cond.selects RX1 yX1_net yX1_net ∈ zz_all := zz_ms 19 rfl rfl
theorem tw_95 : Cond.fieldLink RX6 15 "HandsReturned$Tape" "length" "I" ∈ zz_all := zz_m1 105 rfl rfl
theorem tw_96 : Cond.fieldLink RX6 9 "HandsReturned$Tape" "bytes" "[I" ∈ zz_all := zz_m1 104 rfl rfl
theorem tw_97 : Cond.fieldLink RX7 30 "HandsReturned" "tape" "LHandsReturned$Tape;" ∈ zz_all := zz_m2 29 rfl rfl
theorem tw_98 : Cond.code yX6_append cX6_append 3 none ∈ zz_all := zz_m2 89 rfl rfl
theorem tw_99 : Cond.initialized RX6 ∈ zz_all := zz_m1 4 rfl rfl
theorem tw_100 : Cond.instanceMethod yX6_append ∈ zz_all := zz_m2 88 rfl rfl
theorem tw_101 : Cond.selects RX6 yX6_append yX6_append ∈ zz_all := zz_ms 1 rfl rfl
theorem dX7_areTwoHouses_0 : decode cX7_areTwoHouses 0 = .ok (.iload_n 1, 1) := by decide +kernel
theorem dX7_areTwoHouses_1 : decode cX7_areTwoHouses 1 = .ok (.iload_n 2, 1) := by decide +kernel
theorem dX7_areTwoHouses_2 : decode cX7_areTwoHouses 2 = .ok (.if_icmp .eq 23, 3) := by decide +kernel
theorem dX7_areTwoHouses_5 : decode cX7_areTwoHouses 5 = .ok (.aload_n 0, 1) := by decide +kernel
theorem dX7_areTwoHouses_6 : decode cX7_areTwoHouses 6 = .ok (.iload_n 1, 1) := by decide +kernel
theorem dX7_areTwoHouses_7 : decode cX7_areTwoHouses 7 = .ok (.invokevirtual 73, 3) := by decide +kernel
theorem dX7_areTwoHouses_10 : decode cX7_areTwoHouses 10 = .ok (.ifnull 15, 3) := by decide +kernel
theorem dX7_areTwoHouses_13 : decode cX7_areTwoHouses 13 = .ok (.aload_n 0, 1) := by decide +kernel
theorem dX7_areTwoHouses_14 : decode cX7_areTwoHouses 14 = .ok (.iload_n 2, 1) := by decide +kernel
theorem dX7_areTwoHouses_15 : decode cX7_areTwoHouses 15 = .ok (.invokevirtual 73, 3) := by decide +kernel
theorem dX7_areTwoHouses_18 : decode cX7_areTwoHouses 18 = .ok (.ifnull 7, 3) := by decide +kernel
theorem dX7_areTwoHouses_21 : decode cX7_areTwoHouses 21 = .ok (.iconst 1, 1) := by decide +kernel
theorem dX7_areTwoHouses_22 : decode cX7_areTwoHouses 22 = .ok (.goto 4, 3) := by decide +kernel
theorem dX7_areTwoHouses_25 : decode cX7_areTwoHouses 25 = .ok (.iconst 0, 1) := by decide +kernel
theorem dX7_areTwoHouses_26 : decode cX7_areTwoHouses 26 = .ok (.ireturn, 1) := by decide +kernel
theorem dX7_owes_0 : decode cX7_owes 0 = .ok (.aload_n 0, 1) := by decide +kernel
theorem dX7_owes_1 : decode cX7_owes 1 = .ok (.iload_n 1, 1) := by decide +kernel
theorem dX7_owes_2 : decode cX7_owes 2 = .ok (.iload_n 2, 1) := by decide +kernel
theorem dX7_owes_3 : decode cX7_owes 3 = .ok (.invokevirtual 181, 3) := by decide +kernel
theorem dX7_owes_6 : decode cX7_owes 6 = .ok (.ifCond .eq 15, 3) := by decide +kernel
theorem dX7_owes_9 : decode cX7_owes 9 = .ok (.aload_n 0, 1) := by decide +kernel
theorem dX7_owes_10 : decode cX7_owes 10 = .ok (.getfield 44, 3) := by decide +kernel
theorem dX7_owes_13 : decode cX7_owes 13 = .ok (.iload_n 1, 1) := by decide +kernel
theorem dX7_owes_14 : decode cX7_owes 14 = .ok (.iload_n 2, 1) := by decide +kernel
theorem dX7_owes_15 : decode cX7_owes 15 = .ok (.invokevirtual 184, 3) := by decide +kernel
theorem dX7_owes_18 : decode cX7_owes 18 = .ok (.goto 4, 3) := by decide +kernel
theorem dX7_owes_21 : decode cX7_owes 21 = .ok (.iconst (-1), 1) := by decide +kernel
theorem dX7_owes_22 : decode cX7_owes 22 = .ok (.ireturn, 1) := by decide +kernel
theorem dX7_oldest_0 : decode cX7_oldest 0 = .ok (.aload_n 0, 1) := by decide +kernel
theorem dX7_oldest_1 : decode cX7_oldest 1 = .ok (.iload_n 1, 1) := by decide +kernel
theorem dX7_oldest_2 : decode cX7_oldest 2 = .ok (.iload_n 2, 1) := by decide +kernel
theorem dX7_oldest_3 : decode cX7_oldest 3 = .ok (.invokevirtual 181, 3) := by decide +kernel
theorem dX7_oldest_6 : decode cX7_oldest 6 = .ok (.ifCond .eq 15, 3) := by decide +kernel
theorem dX7_oldest_9 : decode cX7_oldest 9 = .ok (.aload_n 0, 1) := by decide +kernel
theorem dX7_oldest_10 : decode cX7_oldest 10 = .ok (.getfield 44, 3) := by decide +kernel
theorem dX7_oldest_13 : decode cX7_oldest 13 = .ok (.iload_n 1, 1) := by decide +kernel
theorem dX7_oldest_14 : decode cX7_oldest 14 = .ok (.iload_n 2, 1) := by decide +kernel
theorem dX7_oldest_15 : decode cX7_oldest 15 = .ok (.invokevirtual 188, 3) := by decide +kernel
theorem dX7_oldest_18 : decode cX7_oldest 18 = .ok (.goto 4, 3) := by decide +kernel
theorem dX7_oldest_21 : decode cX7_oldest 21 = .ok (.iconst (-1), 1) := by decide +kernel
theorem dX7_oldest_22 : decode cX7_oldest 22 = .ok (.ireturn, 1) := by decide +kernel
theorem dX7_houseOf_0 : decode cX7_houseOf 0 = .ok (.aload_n 0, 1) := by decide +kernel
theorem dX7_houseOf_1 : decode cX7_houseOf 1 = .ok (.iload_n 1, 1) := by decide +kernel
theorem dX7_houseOf_2 : decode cX7_houseOf 2 = .ok (.invokevirtual 73, 3) := by decide +kernel
theorem dX7_houseOf_5 : decode cX7_houseOf 5 = .ok (.astore_n 3, 1) := by decide +kernel
theorem dX7_houseOf_6 : decode cX7_houseOf 6 = .ok (.aload_n 3, 1) := by decide +kernel
theorem dX7_houseOf_7 : decode cX7_houseOf 7 = .ok (.ifnonnull 6, 3) := by decide +kernel
theorem dX7_houseOf_10 : decode cX7_houseOf 10 = .ok (.ldc 160, 2) := by decide +kernel
theorem dX7_houseOf_12 : decode cX7_houseOf 12 = .ok (.ireturn, 1) := by decide +kernel
theorem dX7_houseOf_13 : decode cX7_houseOf 13 = .ok (.iload_n 2, 1) := by decide +kernel
theorem dX7_houseOf_14 : decode cX7_houseOf 14 = .ok (.tableswitch 116 0 9 #[54, 59, 72, 77, 82, 91, 96, 101, 106, 111], 54) := by decide +kernel
theorem dX7_houseOf_68 : decode cX7_houseOf 68 = .ok (.aload_n 3, 1) := by decide +kernel
theorem dX7_houseOf_69 : decode cX7_houseOf 69 = .ok (.getfield 66, 3) := by decide +kernel
theorem dX7_houseOf_72 : decode cX7_houseOf 72 = .ok (.ireturn, 1) := by decide +kernel
theorem dX7_houseOf_73 : decode cX7_houseOf 73 = .ok (.aload_n 3, 1) := by decide +kernel
theorem dX7_houseOf_74 : decode cX7_houseOf 74 = .ok (.getfield 69, 3) := by decide +kernel
theorem dX7_houseOf_77 : decode cX7_houseOf 77 = .ok (.ifCond .eq 7, 3) := by decide +kernel
theorem dX7_houseOf_80 : decode cX7_houseOf 80 = .ok (.iconst 1, 1) := by decide +kernel
theorem dX7_houseOf_81 : decode cX7_houseOf 81 = .ok (.goto 4, 3) := by decide +kernel
theorem dX7_houseOf_84 : decode cX7_houseOf 84 = .ok (.iconst 0, 1) := by decide +kernel
theorem dX7_houseOf_85 : decode cX7_houseOf 85 = .ok (.ireturn, 1) := by decide +kernel
theorem dX7_houseOf_86 : decode cX7_houseOf 86 = .ok (.aload_n 3, 1) := by decide +kernel
theorem dX7_houseOf_87 : decode cX7_houseOf 87 = .ok (.getfield 119, 3) := by decide +kernel
theorem dX7_houseOf_90 : decode cX7_houseOf 90 = .ok (.ireturn, 1) := by decide +kernel
theorem dX7_houseOf_91 : decode cX7_houseOf 91 = .ok (.aload_n 3, 1) := by decide +kernel
theorem dX7_houseOf_92 : decode cX7_houseOf 92 = .ok (.invokevirtual 136, 3) := by decide +kernel
theorem dX7_houseOf_95 : decode cX7_houseOf 95 = .ok (.ireturn, 1) := by decide +kernel
theorem dX7_houseOf_96 : decode cX7_houseOf 96 = .ok (.aload_n 0, 1) := by decide +kernel
theorem dX7_houseOf_97 : decode cX7_houseOf 97 = .ok (.getfield 44, 3) := by decide +kernel
theorem dX7_houseOf_100 : decode cX7_houseOf 100 = .ok (.iload_n 1, 1) := by decide +kernel
theorem dX7_houseOf_101 : decode cX7_houseOf 101 = .ok (.invokevirtual 161, 3) := by decide +kernel
theorem dX7_houseOf_104 : decode cX7_houseOf 104 = .ok (.ireturn, 1) := by decide +kernel
theorem dX7_houseOf_105 : decode cX7_houseOf 105 = .ok (.aload_n 3, 1) := by decide +kernel
theorem dX7_houseOf_106 : decode cX7_houseOf 106 = .ok (.getfield 165, 3) := by decide +kernel
theorem dX7_houseOf_109 : decode cX7_houseOf 109 = .ok (.ireturn, 1) := by decide +kernel
theorem dX7_houseOf_110 : decode cX7_houseOf 110 = .ok (.aload_n 3, 1) := by decide +kernel
theorem dX7_houseOf_111 : decode cX7_houseOf 111 = .ok (.getfield 168, 3) := by decide +kernel
theorem dX7_houseOf_114 : decode cX7_houseOf 114 = .ok (.ireturn, 1) := by decide +kernel
theorem dX7_houseOf_115 : decode cX7_houseOf 115 = .ok (.aload_n 3, 1) := by decide +kernel
theorem dX7_houseOf_116 : decode cX7_houseOf 116 = .ok (.getfield 154, 3) := by decide +kernel
theorem dX7_houseOf_119 : decode cX7_houseOf 119 = .ok (.ireturn, 1) := by decide +kernel
theorem dX7_houseOf_120 : decode cX7_houseOf 120 = .ok (.aload_n 3, 1) := by decide +kernel
theorem dX7_houseOf_121 : decode cX7_houseOf 121 = .ok (.getfield 171, 3) := by decide +kernel
theorem dX7_houseOf_124 : decode cX7_houseOf 124 = .ok (.ireturn, 1) := by decide +kernel
theorem dX7_houseOf_125 : decode cX7_houseOf 125 = .ok (.aload_n 3, 1) := by decide +kernel
theorem dX7_houseOf_126 : decode cX7_houseOf 126 = .ok (.getfield 174, 3) := by decide +kernel
theorem dX7_houseOf_129 : decode cX7_houseOf 129 = .ok (.ireturn, 1) := by decide +kernel
theorem dX7_houseOf_130 : decode cX7_houseOf 130 = .ok (.ldc 160, 2) := by decide +kernel
theorem dX7_houseOf_132 : decode cX7_houseOf 132 = .ok (.ireturn, 1) := by decide +kernel
theorem dX7_fieldOf_0 : decode cX7_fieldOf 0 = .ok (.aload_n 0, 1) := by decide +kernel
theorem dX7_fieldOf_1 : decode cX7_fieldOf 1 = .ok (.iload_n 1, 1) := by decide +kernel
theorem dX7_fieldOf_2 : decode cX7_fieldOf 2 = .ok (.invokevirtual 122, 3) := by decide +kernel
theorem dX7_fieldOf_5 : decode cX7_fieldOf 5 = .ok (.astore_n 3, 1) := by decide +kernel
theorem dX7_fieldOf_6 : decode cX7_fieldOf 6 = .ok (.aload_n 3, 1) := by decide +kernel
theorem dX7_fieldOf_7 : decode cX7_fieldOf 7 = .ok (.ifnonnull 5, 3) := by decide +kernel
theorem dX7_fieldOf_10 : decode cX7_fieldOf 10 = .ok (.iconst (-1), 1) := by decide +kernel
theorem dX7_fieldOf_11 : decode cX7_fieldOf 11 = .ok (.ireturn, 1) := by decide +kernel
theorem dX7_fieldOf_12 : decode cX7_fieldOf 12 = .ok (.iload_n 2, 1) := by decide +kernel
theorem dX7_fieldOf_13 : decode cX7_fieldOf 13 = .ok (.tableswitch 78 0 6 #[43, 48, 53, 58, 63, 68, 73], 43) := by decide +kernel
theorem dX7_fieldOf_56 : decode cX7_fieldOf 56 = .ok (.aload_n 3, 1) := by decide +kernel
theorem dX7_fieldOf_57 : decode cX7_fieldOf 57 = .ok (.getfield 84, 3) := by decide +kernel
theorem dX7_fieldOf_60 : decode cX7_fieldOf 60 = .ok (.ireturn, 1) := by decide +kernel
theorem dX7_fieldOf_61 : decode cX7_fieldOf 61 = .ok (.aload_n 3, 1) := by decide +kernel
theorem dX7_fieldOf_62 : decode cX7_fieldOf 62 = .ok (.getfield 87, 3) := by decide +kernel
theorem dX7_fieldOf_65 : decode cX7_fieldOf 65 = .ok (.ireturn, 1) := by decide +kernel
theorem dX7_fieldOf_66 : decode cX7_fieldOf 66 = .ok (.aload_n 3, 1) := by decide +kernel
theorem dX7_fieldOf_67 : decode cX7_fieldOf 67 = .ok (.getfield 90, 3) := by decide +kernel
theorem dX7_fieldOf_70 : decode cX7_fieldOf 70 = .ok (.ireturn, 1) := by decide +kernel
theorem dX7_fieldOf_71 : decode cX7_fieldOf 71 = .ok (.aload_n 3, 1) := by decide +kernel
theorem dX7_fieldOf_72 : decode cX7_fieldOf 72 = .ok (.getfield 93, 3) := by decide +kernel
theorem dX7_fieldOf_75 : decode cX7_fieldOf 75 = .ok (.ireturn, 1) := by decide +kernel
theorem dX7_fieldOf_76 : decode cX7_fieldOf 76 = .ok (.aload_n 3, 1) := by decide +kernel
theorem dX7_fieldOf_77 : decode cX7_fieldOf 77 = .ok (.getfield 96, 3) := by decide +kernel
theorem dX7_fieldOf_80 : decode cX7_fieldOf 80 = .ok (.ireturn, 1) := by decide +kernel
theorem dX7_fieldOf_81 : decode cX7_fieldOf 81 = .ok (.aload_n 3, 1) := by decide +kernel
theorem dX7_fieldOf_82 : decode cX7_fieldOf 82 = .ok (.getfield 177, 3) := by decide +kernel
theorem dX7_fieldOf_85 : decode cX7_fieldOf 85 = .ok (.ireturn, 1) := by decide +kernel
theorem dX7_fieldOf_86 : decode cX7_fieldOf 86 = .ok (.aload_n 3, 1) := by decide +kernel
theorem dX7_fieldOf_87 : decode cX7_fieldOf 87 = .ok (.getfield 180, 3) := by decide +kernel
theorem dX7_fieldOf_90 : decode cX7_fieldOf 90 = .ok (.ireturn, 1) := by decide +kernel
theorem dX7_fieldOf_91 : decode cX7_fieldOf 91 = .ok (.iconst (-1), 1) := by decide +kernel
theorem dX7_fieldOf_92 : decode cX7_fieldOf 92 = .ok (.ireturn, 1) := by decide +kernel
theorem dX7_even_0 : decode cX7_even 0 = .ok (.aload_n 0, 1) := by decide +kernel
theorem dX7_even_1 : decode cX7_even 1 = .ok (.getfield 44, 3) := by decide +kernel
theorem dX7_even_4 : decode cX7_even 4 = .ok (.getfield 126, 3) := by decide +kernel
theorem dX7_even_7 : decode cX7_even 7 = .ok (.istore_n 1, 1) := by decide +kernel
theorem dX7_even_8 : decode cX7_even 8 = .ok (.aload_n 0, 1) := by decide +kernel
theorem dX7_even_9 : decode cX7_even 9 = .ok (.getfield 44, 3) := by decide +kernel
theorem dX7_even_12 : decode cX7_even 12 = .ok (.iconst 0, 1) := by decide +kernel
theorem dX7_even_13 : decode cX7_even 13 = .ok (.putfield 126, 3) := by decide +kernel
theorem dX7_even_16 : decode cX7_even 16 = .ok (.iload_n 1, 1) := by decide +kernel
theorem dX7_even_17 : decode cX7_even 17 = .ok (.ireturn, 1) := by decide +kernel
theorem dX7_loss_0 : decode cX7_loss 0 = .ok (.iload_n 1, 1) := by decide +kernel
theorem dX7_loss_1 : decode cX7_loss 1 = .ok (.iconst 0, 1) := by decide +kernel
theorem dX7_loss_2 : decode cX7_loss 2 = .ok (.bipush 9, 2) := by decide +kernel
theorem dX7_loss_4 : decode cX7_loss 4 = .ok (.invokestatic 80, 3) := by decide +kernel
theorem dX7_loss_7 : decode cX7_loss 7 = .ok (.ifCond .eq 13, 3) := by decide +kernel
theorem dX7_loss_10 : decode cX7_loss 10 = .ok (.iload_n 2, 1) := by decide +kernel
theorem dX7_loss_11 : decode cX7_loss 11 = .ok (.iconst 0, 1) := by decide +kernel
theorem dX7_loss_12 : decode cX7_loss 12 = .ok (.bipush 100, 2) := by decide +kernel
theorem dX7_loss_14 : decode cX7_loss 14 = .ok (.invokestatic 80, 3) := by decide +kernel
theorem dX7_loss_17 : decode cX7_loss 17 = .ok (.ifCond .ne 5, 3) := by decide +kernel
theorem dX7_loss_20 : decode cX7_loss 20 = .ok (.iconst 0, 1) := by decide +kernel
theorem dX7_loss_21 : decode cX7_loss 21 = .ok (.ireturn, 1) := by decide +kernel
theorem dX7_loss_22 : decode cX7_loss 22 = .ok (.aload_n 0, 1) := by decide +kernel
theorem dX7_loss_23 : decode cX7_loss 23 = .ok (.getfield 23, 3) := by decide +kernel
theorem dX7_loss_26 : decode cX7_loss 26 = .ok (.iload_n 1, 1) := by decide +kernel
theorem dX7_loss_27 : decode cX7_loss 27 = .ok (.iload_n 2, 1) := by decide +kernel
theorem dX7_loss_28 : decode cX7_loss 28 = .ok (.iastore, 1) := by decide +kernel
theorem dX7_loss_29 : decode cX7_loss 29 = .ok (.iconst 1, 1) := by decide +kernel
theorem dX7_loss_30 : decode cX7_loss 30 = .ok (.ireturn, 1) := by decide +kernel
theorem dX7_fault_0 : decode cX7_fault 0 = .ok (.iload_n 1, 1) := by decide +kernel
theorem dX7_fault_1 : decode cX7_fault 1 = .ok (.lookupswitch 43 #[(0, 27), (1, 35)], 27) := by decide +kernel
theorem dX7_fault_28 : decode cX7_fault 28 = .ok (.aload_n 0, 1) := by decide +kernel
theorem dX7_fault_29 : decode cX7_fault 29 = .ok (.getfield 37, 3) := by decide +kernel
theorem dX7_fault_32 : decode cX7_fault 32 = .ok (.getfield 110, 3) := by decide +kernel
theorem dX7_fault_35 : decode cX7_fault 35 = .ok (.ireturn, 1) := by decide +kernel
theorem dX7_fault_36 : decode cX7_fault 36 = .ok (.aload_n 0, 1) := by decide +kernel
theorem dX7_fault_37 : decode cX7_fault 37 = .ok (.getfield 37, 3) := by decide +kernel
theorem dX7_fault_40 : decode cX7_fault 40 = .ok (.getfield 113, 3) := by decide +kernel
theorem dX7_fault_43 : decode cX7_fault 43 = .ok (.ireturn, 1) := by decide +kernel
theorem dX7_fault_44 : decode cX7_fault 44 = .ok (.iconst (-1), 1) := by decide +kernel
theorem dX7_fault_45 : decode cX7_fault 45 = .ok (.ireturn, 1) := by decide +kernel
theorem dX7_says_0 : decode cX7_says 0 = .ok (.iload_n 1, 1) := by decide +kernel
theorem dX7_says_1 : decode cX7_says 1 = .ok (.iconst 0, 1) := by decide +kernel
theorem dX7_says_2 : decode cX7_says 2 = .ok (.bipush 6, 2) := by decide +kernel
theorem dX7_says_4 : decode cX7_says 4 = .ok (.invokestatic 80, 3) := by decide +kernel
theorem dX7_says_7 : decode cX7_says 7 = .ok (.ifCond .eq 15, 3) := by decide +kernel
theorem dX7_says_10 : decode cX7_says 10 = .ok (.aload_n 0, 1) := by decide +kernel
theorem dX7_says_11 : decode cX7_says 11 = .ok (.getfield 37, 3) := by decide +kernel
theorem dX7_says_14 : decode cX7_says 14 = .ok (.getfield 116, 3) := by decide +kernel
theorem dX7_says_17 : decode cX7_says 17 = .ok (.iload_n 1, 1) := by decide +kernel
theorem dX7_says_18 : decode cX7_says 18 = .ok (.iaload, 1) := by decide +kernel
theorem dX7_says_19 : decode cX7_says 19 = .ok (.goto 4, 3) := by decide +kernel
theorem dX7_says_22 : decode cX7_says 22 = .ok (.iconst (-1), 1) := by decide +kernel
theorem dX7_says_23 : decode cX7_says 23 = .ok (.ireturn, 1) := by decide +kernel
theorem dX6_append_0 : decode cX6_append 0 = .ok (.bipush 24, 2) := by decide +kernel
theorem dX6_append_2 : decode cX6_append 2 = .ok (.istore_n 2, 1) := by decide +kernel
theorem dX6_append_3 : decode cX6_append 3 = .ok (.iload_n 2, 1) := by decide +kernel
theorem dX6_append_4 : decode cX6_append 4 = .ok (.ifCond .lt 45, 3) := by decide +kernel
theorem dX6_append_7 : decode cX6_append 7 = .ok (.aload_n 0, 1) := by decide +kernel
theorem dX6_append_8 : decode cX6_append 8 = .ok (.getfield 15, 3) := by decide +kernel
theorem dX6_append_11 : decode cX6_append 11 = .ok (.sipush 200, 3) := by decide +kernel
theorem dX6_append_14 : decode cX6_append 14 = .ok (.if_icmp .ge 35, 3) := by decide +kernel
theorem dX6_append_17 : decode cX6_append 17 = .ok (.aload_n 0, 1) := by decide +kernel
theorem dX6_append_18 : decode cX6_append 18 = .ok (.getfield 9, 3) := by decide +kernel
theorem dX6_append_21 : decode cX6_append 21 = .ok (.aload_n 0, 1) := by decide +kernel
theorem dX6_append_22 : decode cX6_append 22 = .ok (.getfield 15, 3) := by decide +kernel
theorem dX6_append_25 : decode cX6_append 25 = .ok (.iload_n 1, 1) := by decide +kernel
theorem dX6_append_26 : decode cX6_append 26 = .ok (.iload_n 2, 1) := by decide +kernel
theorem dX6_append_27 : decode cX6_append 27 = .ok (.iushr, 1) := by decide +kernel
theorem dX6_append_28 : decode cX6_append 28 = .ok (.sipush 255, 3) := by decide +kernel
theorem dX6_append_31 : decode cX6_append 31 = .ok (.iand, 1) := by decide +kernel
theorem dX6_append_32 : decode cX6_append 32 = .ok (.iastore, 1) := by decide +kernel
theorem dX6_append_33 : decode cX6_append 33 = .ok (.aload_n 0, 1) := by decide +kernel
theorem dX6_append_34 : decode cX6_append 34 = .ok (.dup, 1) := by decide +kernel
theorem dX6_append_35 : decode cX6_append 35 = .ok (.getfield 15, 3) := by decide +kernel
theorem dX6_append_38 : decode cX6_append 38 = .ok (.iconst 1, 1) := by decide +kernel
theorem dX6_append_39 : decode cX6_append 39 = .ok (.iadd, 1) := by decide +kernel
theorem dX6_append_40 : decode cX6_append 40 = .ok (.putfield 15, 3) := by decide +kernel
theorem dX6_append_43 : decode cX6_append 43 = .ok (.iinc 2 (-8), 3) := by decide +kernel
theorem dX6_append_46 : decode cX6_append 46 = .ok (.goto (-43), 3) := by decide +kernel
theorem dX6_append_49 : decode cX6_append 49 = .ok (.return_, 1) := by decide +kernel
theorem dX6_at_0 : decode cX6_at 0 = .ok (.iload_n 1, 1) := by decide +kernel
theorem dX6_at_1 : decode cX6_at 1 = .ok (.ifCond .lt 27, 3) := by decide +kernel
theorem dX6_at_4 : decode cX6_at 4 = .ok (.iload_n 1, 1) := by decide +kernel
theorem dX6_at_5 : decode cX6_at 5 = .ok (.aload_n 0, 1) := by decide +kernel
theorem dX6_at_6 : decode cX6_at 6 = .ok (.getfield 15, 3) := by decide +kernel
theorem dX6_at_9 : decode cX6_at 9 = .ok (.if_icmp .ge 19, 3) := by decide +kernel
theorem dX6_at_12 : decode cX6_at 12 = .ok (.iload_n 1, 1) := by decide +kernel
theorem dX6_at_13 : decode cX6_at 13 = .ok (.sipush 200, 3) := by decide +kernel
theorem dX6_at_16 : decode cX6_at 16 = .ok (.if_icmp .ge 12, 3) := by decide +kernel
theorem dX6_at_19 : decode cX6_at 19 = .ok (.aload_n 0, 1) := by decide +kernel
theorem dX6_at_20 : decode cX6_at 20 = .ok (.getfield 9, 3) := by decide +kernel
theorem dX6_at_23 : decode cX6_at 23 = .ok (.iload_n 1, 1) := by decide +kernel
theorem dX6_at_24 : decode cX6_at 24 = .ok (.iaload, 1) := by decide +kernel
theorem dX6_at_25 : decode cX6_at 25 = .ok (.goto 5, 3) := by decide +kernel
theorem dX6_at_28 : decode cX6_at 28 = .ok (.bipush 32, 2) := by decide +kernel
theorem dX6_at_30 : decode cX6_at 30 = .ok (.ireturn, 1) := by decide +kernel
theorem dX7_feed_0 : decode cX7_feed 0 = .ok (.aload_n 0, 1) := by decide +kernel
theorem dX7_feed_1 : decode cX7_feed 1 = .ok (.getfield 30, 3) := by decide +kernel
theorem dX7_feed_4 : decode cX7_feed 4 = .ok (.getfield 99, 3) := by decide +kernel
theorem dX7_feed_7 : decode cX7_feed 7 = .ok (.sipush 180, 3) := by decide +kernel
theorem dX7_feed_10 : decode cX7_feed 10 = .ok (.if_icmp .le 5, 3) := by decide +kernel
theorem dX7_feed_13 : decode cX7_feed 13 = .ok (.iconst (-1), 1) := by decide +kernel
theorem dX7_feed_14 : decode cX7_feed 14 = .ok (.ireturn, 1) := by decide +kernel
theorem dX7_feed_15 : decode cX7_feed 15 = .ok (.aload_n 0, 1) := by decide +kernel
theorem dX7_feed_16 : decode cX7_feed 16 = .ok (.getfield 30, 3) := by decide +kernel
theorem dX7_feed_19 : decode cX7_feed 19 = .ok (.iload_n 1, 1) := by decide +kernel
theorem dX7_feed_20 : decode cX7_feed 20 = .ok (.invokevirtual 102, 3) := by decide +kernel
theorem dX7_feed_23 : decode cX7_feed 23 = .ok (.aload_n 0, 1) := by decide +kernel
theorem dX7_feed_24 : decode cX7_feed 24 = .ok (.getfield 30, 3) := by decide +kernel
theorem dX7_feed_27 : decode cX7_feed 27 = .ok (.iload_n 2, 1) := by decide +kernel
theorem dX7_feed_28 : decode cX7_feed 28 = .ok (.invokevirtual 102, 3) := by decide +kernel
theorem dX7_feed_31 : decode cX7_feed 31 = .ok (.aload_n 0, 1) := by decide +kernel
theorem dX7_feed_32 : decode cX7_feed 32 = .ok (.getfield 30, 3) := by decide +kernel
theorem dX7_feed_35 : decode cX7_feed 35 = .ok (.iload_n 3, 1) := by decide +kernel
theorem dX7_feed_36 : decode cX7_feed 36 = .ok (.invokevirtual 102, 3) := by decide +kernel
theorem dX7_feed_39 : decode cX7_feed 39 = .ok (.aload_n 0, 1) := by decide +kernel
theorem dX7_feed_40 : decode cX7_feed 40 = .ok (.getfield 30, 3) := by decide +kernel
theorem dX7_feed_43 : decode cX7_feed 43 = .ok (.iload 4, 2) := by decide +kernel
theorem dX7_feed_45 : decode cX7_feed 45 = .ok (.invokevirtual 102, 3) := by decide +kernel
theorem dX7_feed_48 : decode cX7_feed 48 = .ok (.aload_n 0, 1) := by decide +kernel
theorem dX7_feed_49 : decode cX7_feed 49 = .ok (.getfield 30, 3) := by decide +kernel
theorem dX7_feed_52 : decode cX7_feed 52 = .ok (.iload 5, 2) := by decide +kernel
theorem dX7_feed_54 : decode cX7_feed 54 = .ok (.invokevirtual 102, 3) := by decide +kernel
theorem dX7_feed_57 : decode cX7_feed 57 = .ok (.aload_n 0, 1) := by decide +kernel
theorem dX7_feed_58 : decode cX7_feed 58 = .ok (.getfield 30, 3) := by decide +kernel
theorem dX7_feed_61 : decode cX7_feed 61 = .ok (.getfield 99, 3) := by decide +kernel
theorem dX7_feed_64 : decode cX7_feed 64 = .ok (.ireturn, 1) := by decide +kernel
theorem dX7_end_0 : decode cX7_end 0 = .ok (.iload_n 1, 1) := by decide +kernel
theorem dX7_end_1 : decode cX7_end 1 = .ok (.iconst 0, 1) := by decide +kernel
theorem dX7_end_2 : decode cX7_end 2 = .ok (.aload_n 0, 1) := by decide +kernel
theorem dX7_end_3 : decode cX7_end 3 = .ok (.getfield 30, 3) := by decide +kernel
theorem dX7_end_6 : decode cX7_end 6 = .ok (.getfield 99, 3) := by decide +kernel
theorem dX7_end_9 : decode cX7_end 9 = .ok (.invokestatic 80, 3) := by decide +kernel
theorem dX7_end_12 : decode cX7_end 12 = .ok (.ifCond .ne 5, 3) := by decide +kernel
theorem dX7_end_15 : decode cX7_end 15 = .ok (.iconst (-1), 1) := by decide +kernel
theorem dX7_end_16 : decode cX7_end 16 = .ok (.ireturn, 1) := by decide +kernel
theorem dX7_end_17 : decode cX7_end 17 = .ok (.aload_n 0, 1) := by decide +kernel
theorem dX7_end_18 : decode cX7_end 18 = .ok (.getfield 30, 3) := by decide +kernel
theorem dX7_end_21 : decode cX7_end 21 = .ok (.iload_n 1, 1) := by decide +kernel
theorem dX7_end_22 : decode cX7_end 22 = .ok (.putfield 99, 3) := by decide +kernel
theorem dX7_end_25 : decode cX7_end 25 = .ok (.iload_n 1, 1) := by decide +kernel
theorem dX7_end_26 : decode cX7_end 26 = .ok (.ireturn, 1) := by decide +kernel
theorem dX7_about_0 : decode cX7_about 0 = .ok (.iload_n 1, 1) := by decide +kernel
theorem dX7_about_1 : decode cX7_about 1 = .ok (.tableswitch 75 0 5 #[39, 44, 49, 54, 62, 67], 39) := by decide +kernel
theorem dX7_about_40 : decode cX7_about 40 = .ok (.aload_n 0, 1) := by decide +kernel
theorem dX7_about_41 : decode cX7_about 41 = .ok (.getfield 62, 3) := by decide +kernel
theorem dX7_about_44 : decode cX7_about 44 = .ok (.ireturn, 1) := by decide +kernel
theorem dX7_about_45 : decode cX7_about 45 = .ok (.aload_n 0, 1) := by decide +kernel
theorem dX7_about_46 : decode cX7_about 46 = .ok (.getfield 77, 3) := by decide +kernel
theorem dX7_about_49 : decode cX7_about 49 = .ok (.ireturn, 1) := by decide +kernel
theorem dX7_about_50 : decode cX7_about 50 = .ok (.aload_n 0, 1) := by decide +kernel
theorem dX7_about_51 : decode cX7_about 51 = .ok (.getfield 129, 3) := by decide +kernel
theorem dX7_about_54 : decode cX7_about 54 = .ok (.ireturn, 1) := by decide +kernel
theorem dX7_about_55 : decode cX7_about 55 = .ok (.aload_n 0, 1) := by decide +kernel
theorem dX7_about_56 : decode cX7_about 56 = .ok (.getfield 44, 3) := by decide +kernel
theorem dX7_about_59 : decode cX7_about 59 = .ok (.getfield 126, 3) := by decide +kernel
theorem dX7_about_62 : decode cX7_about 62 = .ok (.ireturn, 1) := by decide +kernel
theorem dX7_about_63 : decode cX7_about 63 = .ok (.aload_n 0, 1) := by decide +kernel
theorem dX7_about_64 : decode cX7_about 64 = .ok (.getfield 151, 3) := by decide +kernel
theorem dX7_about_67 : decode cX7_about 67 = .ok (.ireturn, 1) := by decide +kernel
theorem dX7_about_68 : decode cX7_about 68 = .ok (.aload_n 0, 1) := by decide +kernel
theorem dX7_about_69 : decode cX7_about 69 = .ok (.getfield 30, 3) := by decide +kernel
theorem dX7_about_72 : decode cX7_about 72 = .ok (.getfield 99, 3) := by decide +kernel
theorem dX7_about_75 : decode cX7_about 75 = .ok (.ireturn, 1) := by decide +kernel
theorem dX7_about_76 : decode cX7_about 76 = .ok (.iload_n 1, 1) := by decide +kernel
theorem dX7_about_77 : decode cX7_about 77 = .ok (.bipush 20, 2) := by decide +kernel
theorem dX7_about_79 : decode cX7_about 79 = .ok (.bipush 29, 2) := by decide +kernel
theorem dX7_about_81 : decode cX7_about 81 = .ok (.invokestatic 80, 3) := by decide +kernel
theorem dX7_about_84 : decode cX7_about 84 = .ok (.ifCond .eq 15, 3) := by decide +kernel
theorem dX7_about_87 : decode cX7_about 87 = .ok (.aload_n 0, 1) := by decide +kernel
theorem dX7_about_88 : decode cX7_about 88 = .ok (.getfield 23, 3) := by decide +kernel
theorem dX7_about_91 : decode cX7_about 91 = .ok (.iload_n 1, 1) := by decide +kernel
theorem dX7_about_92 : decode cX7_about 92 = .ok (.bipush 20, 2) := by decide +kernel
theorem dX7_about_94 : decode cX7_about 94 = .ok (.isub, 1) := by decide +kernel
theorem dX7_about_95 : decode cX7_about 95 = .ok (.iaload, 1) := by decide +kernel
theorem dX7_about_96 : decode cX7_about 96 = .ok (.goto 4, 3) := by decide +kernel
theorem dX7_about_99 : decode cX7_about 99 = .ok (.iconst (-1), 1) := by decide +kernel
theorem dX7_about_100 : decode cX7_about 100 = .ok (.ireturn, 1) := by decide +kernel
set_option maxHeartbeats 4000000 in
set_option maxRecDepth 100000 in
theorem k_areTwo (l : Launch) (dC : Nat → ClassId) (dI : Nat → Nat → Nat) (a : Nat → Nat) (nh : Nat) (nf : Nat) (clk : Int32) (hi : Int32) (cH : ClassId) (fH : Nat → Option Nat) (p0 : Int32) (p1 : Int32) (sz : Nat) (hc8 : nh ≤ 8) (hf12 : nf ≤ 12) (hfH : ∀ k, k < 8 → fH k = some (a (2 + k))) : Met l yX7_areTwoHouses (zz_w yX7_areTwoHouses cX7_areTwoHouses 3 (some .boolean)) ({ frames := 2, cells := 0, slots := 0, locals := 43 }) (va_Pc [.ref (a 0), .int p0, .int p1] (zz_B (dC, dI) sz [(a 0, .inr (7, [.ref (a 1), .ref (a 10), .ref (a 23), .ref (a 24), .ref (a 26), .ref (a 29), .ref (a 34), .ref (a 43), .int (nI nh), .int (nI nf), .int clk, .int hi])), (a 1, .inl (cH, 8, .inr (.inr (.inr (.inr fH)))))] [(cH, .object RX4)])) (va_Qi (fun (r : Int32) (_ : Unit) => r = 0 ∨ r = 1) (fun _ _ => True) (va_A [] sz)) 0 0 (va_A [] sz) := by
  refine Met.ofW (cc := cX7_areTwoHouses) (maxL := 3) (ret := (some .boolean)) (by decide) rfl ?_
  intro p e s m args below meth c s₁ B hml hv
  obtain ⟨rfl, hsz, hP, hK, hD0, hN⟩ := hv
  have hx := B.exec
  have hb := B.bytes
  have hr := B.returns
  have hts := atoms_spec (ws := zz_w yX7_areTwoHouses cX7_areTwoHouses 3 (some .boolean)) B.pre
  have hw : ∀ w ∈ zz_all, w.before _ s = true := fun w h => hts w (List.mem_cons_of_mem _ h)
  have hown : s.vm.findClass RX7 = some m.cls := findClass_of_methodNamed B.named
  have hlocks := B.notSynchronized
  subst hsz
  have hD := hD0
  generalize hAe : va_A [] s.heap.size = A
  have hA : ∀ q : Nat, s.heap.size ≤ q → A q := fun q h => by rw [← hAe]; exact Or.inr h
  have hS : va_S A s.heap s.heap [] := va_S.rf
  have hP : va_P (dC, dI) vwCl [(a 0, .inr (7, [.ref (a 1), .ref (a 10), .ref (a 23), .ref (a 24), .ref (a 26), .ref (a 29), .ref (a 34), .ref (a 43), .int (nI nh), .int (nI nf), .int clk, .int hi])), (a 1, .inl (cH, 8, .inr (.inr (.inr (.inr fH)))))] s.heap := hP
  have hl := lv_entry ([.ref (a 0), .int p0, .int p1]) (n := 3) (Nat.le_of_ble_eq_true rfl)
  rw [lg_entry_eq]
  generalize (lg_sl ([.ref (a 0), .int p0, .int p1]) ++ List.replicate (3 - (lg_sl ([.ref (a 0), .int p0, .int p1])).length) Slot.unset).toArray = ls at hl ⊢
  have hl : lv_has ls 3 [(0, .ref (a 0)), (1, .int p0), (2, .int p1)] := hl
  refine lv_iload_n hx hb dX7_areTwoHouses_0 rfl (lv_at hl 1 rfl) ?_
  refine lv_iload_n hx hb dX7_areTwoHouses_1 rfl (lv_at hl 2 rfl) ?_
  refine lv_icmp_eq (tgt := 25) hx hb dX7_areTwoHouses_2 (by decide) (fun c_1 => ?_) (fun c_1 => ?_)
  · have zc_1 := c_1
    rw [← Int32.toInt_inj] at zc_1
    refine lv_iconst (v := 0) hx hb dX7_areTwoHouses_25 (by decide) ?_
    exact W.zret (v := 0) hx hb hr (rfl) (fun t ht hW => ⟨⟨0, (), rfl, Or.inl rfl, trivial⟩, hS.F ht⟩) hS.2.2 dX7_areTwoHouses_26
  · have zc_1 := c_1
    rw [← Int32.toInt_inj] at zc_1
    refine lv_aload_n hx hb dX7_areTwoHouses_5 rfl (lv_at hl 0 rfl) ?_
    refine lv_iload_n hx hb dX7_areTwoHouses_6 rfl (lv_at hl 1 rfl) ?_
    have hPc := hP.sub (ws' := [(a 0, .inr (7, [.ref (a 1), .ref (a 10), .ref (a 23), .ref (a 24), .ref (a 26), .ref (a 29), .ref (a 34), .ref (a 43), .int (nI nh), .int (nI nf), .int clk, .int hi])), (a 1, .inl (cH, 8, .inr (.inr (.inr (.inr fH)))))]) [0, 1] rfl
    have hDc := hD.sub (ws' := [(a 0, .inr (7, [.ref (a 1), .ref (a 10), .ref (a 23), .ref (a 24), .ref (a 26), .ref (a 29), .ref (a 34), .ref (a 43), .int (nI nh), .int (nI nf), .int clk, .int hi])), (a 1, .inl (cH, 8, .inr (.inr (.inr (.inr fH)))))]) [0, 1] (by decide) rfl
    have hKc := hK.sub (tys' := [(cH, .object RX4)]) [0] rfl
    have hFc := zz_free0 hS hA
    refine va_callq (va_runV (As := [.int p0]) (rest := []) ⟨hx, hb, hml, hown, hw⟩ (k_houseAt l dC dI a nh nf clk hi cH fH p0 s.heap.size (by omega) (by omega) hfH) ⟨callB_of 1 hw (zz_good tw_8) rfl rfl rfl (hw _ tw_2) (hw _ tw_9) (by decide +kernel) ⟨Nat.le_of_ble_eq_true rfl, Nat.le_of_ble_eq_true rfl⟩, (hw _ tw_10), (hw _ tw_11)⟩ ⟨zz_blind, va_recv hKc hPc (ci := 7) (q0 := 0) rfl rfl, zz_pre hPc hKc hDc hN⟩ rfl rfl hl.1 rfl (lv_room (Nat.le_of_ble_eq_true rfl)) dX7_areTwoHouses_7 ⟨Nat.le_of_ble_eq_true rfl, Nat.le_of_ble_eq_true rfl⟩) hS (fun q _ h => hFc q h) hFc (fun r_2 u_2 t H1 locs ht hvm e_2 hB hz1 hk1 hS => ?_)
    try dsimp only at e_2
    have hP := zz_keep hP hk1
    clear hk1 hB ht hvm
    generalize H1 = H at hP hS ⊢
    rcases e_2 with ⟨er_2, nk_2⟩ | ⟨er_2, nk_2⟩
    · refine zz_setv (.null) (congrArg va_rf er_2) ?_
      refine lv_ifnullN (tgt := 25) hx hb dX7_areTwoHouses_10 (by decide) ?_
      refine lv_iconst (v := 0) hx hb dX7_areTwoHouses_25 (by decide) ?_
      exact W.zret (v := 0) hx hb hr (rfl) (fun t ht hW => ⟨⟨0, (), rfl, Or.inl rfl, trivial⟩, hS.F ht⟩) hS.2.2 dX7_areTwoHouses_26
    · refine zz_setv (.ref (a (2 + (Int32.toNatClampNeg p0)))) (congrArg va_rf er_2) ?_
      refine lv_ifnull hx hb dX7_areTwoHouses_10 ?_
      refine lv_aload_n hx hb dX7_areTwoHouses_13 rfl (lv_at hl 0 rfl) ?_
      refine lv_iload_n hx hb dX7_areTwoHouses_14 rfl (lv_at hl 2 rfl) ?_
      have hPc := hP.sub (ws' := [(a 0, .inr (7, [.ref (a 1), .ref (a 10), .ref (a 23), .ref (a 24), .ref (a 26), .ref (a 29), .ref (a 34), .ref (a 43), .int (nI nh), .int (nI nf), .int clk, .int hi])), (a 1, .inl (cH, 8, .inr (.inr (.inr (.inr fH)))))]) [0, 1] rfl
      have hDc := hD.sub (ws' := [(a 0, .inr (7, [.ref (a 1), .ref (a 10), .ref (a 23), .ref (a 24), .ref (a 26), .ref (a 29), .ref (a 34), .ref (a 43), .int (nI nh), .int (nI nf), .int clk, .int hi])), (a 1, .inl (cH, 8, .inr (.inr (.inr (.inr fH)))))]) [0, 1] (by decide) rfl
      have hKc := hK.sub (tys' := [(cH, .object RX4)]) [0] rfl
      have hFc := zz_free0 hS hA
      refine va_callq (va_runV (As := [.int p1]) (rest := []) ⟨hx, hb, hml, hown, hw⟩ (k_houseAt l dC dI a nh nf clk hi cH fH p1 H.size (by omega) (by omega) hfH) ⟨callB_of 1 hw (zz_good tw_8) rfl rfl rfl (hw _ tw_2) (hw _ tw_9) (by decide +kernel) ⟨Nat.le_of_ble_eq_true rfl, Nat.le_of_ble_eq_true rfl⟩, (hw _ tw_10), (hw _ tw_11)⟩ ⟨zz_blind, va_recv hKc hPc (ci := 7) (q0 := 0) rfl rfl, zz_pre hPc hKc hDc hN⟩ rfl rfl hl.1 rfl (lv_room (Nat.le_of_ble_eq_true rfl)) dX7_areTwoHouses_15 ⟨Nat.le_of_ble_eq_true rfl, Nat.le_of_ble_eq_true rfl⟩) hS (fun q _ h => hFc q h) hFc (fun r_3 u_3 t H1 locs ht hvm e_3 hB hz1 hk1 hS => ?_)
      try dsimp only at e_3
      have hP := zz_keep hP hk1
      clear hk1 hB ht hvm
      generalize H1 = H at hP hS ⊢
      rcases e_3 with ⟨er_3, nk_3⟩ | ⟨er_3, nk_3⟩
      · refine zz_setv (.null) (congrArg va_rf er_3) ?_
        refine lv_ifnullN (tgt := 25) hx hb dX7_areTwoHouses_18 (by decide) ?_
        refine lv_iconst (v := 0) hx hb dX7_areTwoHouses_25 (by decide) ?_
        exact W.zret (v := 0) hx hb hr (rfl) (fun t ht hW => ⟨⟨0, (), rfl, Or.inl rfl, trivial⟩, hS.F ht⟩) hS.2.2 dX7_areTwoHouses_26
      · refine zz_setv (.ref (a (2 + (Int32.toNatClampNeg p1)))) (congrArg va_rf er_3) ?_
        refine lv_ifnull hx hb dX7_areTwoHouses_18 ?_
        refine lv_iconst (v := 1) hx hb dX7_areTwoHouses_21 (by decide) ?_
        refine lv_goto (tgt := 26) hx hb dX7_areTwoHouses_22 (by decide) ?_
        exact W.zret (v := 1) hx hb hr (rfl) (fun t ht hW => ⟨⟨1, (), rfl, Or.inr rfl, trivial⟩, hS.F ht⟩) hS.2.2 dX7_areTwoHouses_26

set_option maxHeartbeats 4000000 in
set_option maxRecDepth 100000 in
theorem k_owes (l : Launch) (dC : Nat → ClassId) (dI : Nat → Nat → Nat) (a : Nat → Nat) (nh : Nat) (nf : Nat) (clk : Int32) (hi : Int32) (cH : ClassId) (fH : Nat → Option Nat) (cI : ClassId) (nd : Nat) (fo : Nat → Int32) (fc : Nat → Int32) (fs : Nat → Int32) (fu : Nat → Int32) (p0 : Int32) (p1 : Int32) (sz : Nat) (hc8 : nh ≤ 8) (hf12 : nf ≤ 12) (hfH : ∀ k, k < 8 → fH k = some (a (2 + k))) (hnd : nd ≤ 300) : Met l yX7_owes (zz_w yX7_owes cX7_owes 3 (some .int)) ({ frames := 3, cells := 0, slots := 0, locals := 65 }) (va_Pc [.ref (a 0), .int p0, .int p1] (zz_B (dC, dI) sz [(a 0, .inr (7, [.ref (a 1), .ref (a 10), .ref (a 23), .ref (a 24), .ref (a 26), .ref (a 29), .ref (a 34), .ref (a 43), .int (nI nh), .int (nI nf), .int clk, .int hi])), (a 1, .inl (cH, 8, .inr (.inr (.inr (.inr fH))))), (a 29, .inr (1, [.ref (a 30), .ref (a 31), .ref (a 32), .ref (a 33), .int (nI nd)])), (a 30, .inl (cI, 300, .inl fo)), (a 31, .inl (cI, 300, .inl fc)), (a 32, .inl (cI, 300, .inl fs)), (a 33, .inl (cI, 300, .inl fu))] [(cH, .object RX4), (cI, .int)])) (va_Qi (fun (_ : Int32) (_ : Unit) => True) (fun _ _ => True) (va_A [] sz)) 0 0 (va_A [] sz) := by
  refine Met.ofW (cc := cX7_owes) (maxL := 3) (ret := (some .int)) (by decide) rfl ?_
  intro p e s m args below meth c s₁ B hml hv
  obtain ⟨rfl, hsz, hP, hK, hD0, hN⟩ := hv
  have hx := B.exec
  have hb := B.bytes
  have hr := B.returns
  have hts := atoms_spec (ws := zz_w yX7_owes cX7_owes 3 (some .int)) B.pre
  have hw : ∀ w ∈ zz_all, w.before _ s = true := fun w h => hts w (List.mem_cons_of_mem _ h)
  have hown : s.vm.findClass RX7 = some m.cls := findClass_of_methodNamed B.named
  have hlocks := B.notSynchronized
  subst hsz
  have hD := hD0
  generalize hAe : va_A [] s.heap.size = A
  have hA : ∀ q : Nat, s.heap.size ≤ q → A q := fun q h => by rw [← hAe]; exact Or.inr h
  have hS : va_S A s.heap s.heap [] := va_S.rf
  have hP : va_P (dC, dI) vwCl [(a 0, .inr (7, [.ref (a 1), .ref (a 10), .ref (a 23), .ref (a 24), .ref (a 26), .ref (a 29), .ref (a 34), .ref (a 43), .int (nI nh), .int (nI nf), .int clk, .int hi])), (a 1, .inl (cH, 8, .inr (.inr (.inr (.inr fH))))), (a 29, .inr (1, [.ref (a 30), .ref (a 31), .ref (a 32), .ref (a 33), .int (nI nd)])), (a 30, .inl (cI, 300, .inl fo)), (a 31, .inl (cI, 300, .inl fc)), (a 32, .inl (cI, 300, .inl fs)), (a 33, .inl (cI, 300, .inl fu))] s.heap := hP
  have hl := lv_entry ([.ref (a 0), .int p0, .int p1]) (n := 3) (Nat.le_of_ble_eq_true rfl)
  rw [lg_entry_eq]
  generalize (lg_sl ([.ref (a 0), .int p0, .int p1]) ++ List.replicate (3 - (lg_sl ([.ref (a 0), .int p0, .int p1])).length) Slot.unset).toArray = ls at hl ⊢
  have hl : lv_has ls 3 [(0, .ref (a 0)), (1, .int p0), (2, .int p1)] := hl
  refine lv_aload_n hx hb dX7_owes_0 rfl (lv_at hl 0 rfl) ?_
  refine lv_iload_n hx hb dX7_owes_1 rfl (lv_at hl 1 rfl) ?_
  refine lv_iload_n hx hb dX7_owes_2 rfl (lv_at hl 2 rfl) ?_
  have hPc := hP.sub (ws' := [(a 0, .inr (7, [.ref (a 1), .ref (a 10), .ref (a 23), .ref (a 24), .ref (a 26), .ref (a 29), .ref (a 34), .ref (a 43), .int (nI nh), .int (nI nf), .int clk, .int hi])), (a 1, .inl (cH, 8, .inr (.inr (.inr (.inr fH)))))]) [0, 1] rfl
  have hDc := hD.sub (ws' := [(a 0, .inr (7, [.ref (a 1), .ref (a 10), .ref (a 23), .ref (a 24), .ref (a 26), .ref (a 29), .ref (a 34), .ref (a 43), .int (nI nh), .int (nI nf), .int clk, .int hi])), (a 1, .inl (cH, 8, .inr (.inr (.inr (.inr fH)))))]) [0, 1] (by decide) rfl
  have hKc := hK.sub (tys' := [(cH, .object RX4)]) [0] rfl
  have hFc := zz_free0 hS hA
  refine va_calli (va_runV (As := [.int p0, .int p1]) (rest := []) ⟨hx, hb, hml, hown, hw⟩ (k_areTwo l dC dI a nh nf clk hi cH fH p0 p1 s.heap.size (by omega) (by omega) hfH) ⟨callB_of 2 hw (zz_good tw_81) rfl rfl rfl (hw _ tw_2) (hw _ tw_82) (by decide +kernel) ⟨Nat.le_of_ble_eq_true rfl, Nat.le_of_ble_eq_true rfl⟩, (hw _ tw_83), (hw _ tw_84)⟩ ⟨zz_blind, va_recv hKc hPc (ci := 7) (q0 := 0) rfl rfl, zz_pre hPc hKc hDc hN⟩ rfl rfl hl.1 rfl (lv_room (Nat.le_of_ble_eq_true rfl)) dX7_owes_3 ⟨Nat.le_of_ble_eq_true rfl, Nat.le_of_ble_eq_true rfl⟩) hS (fun q _ h => hFc q h) hFc (fun r_1 u_1 t H1 locs ht hvm e_1 hB hz1 hk1 hS => ?_)
  try dsimp only at e_1
  have hP := zz_keep hP hk1
  clear hk1 hB ht hvm
  generalize H1 = H at hP hS ⊢
  refine lv_if_eq (tgt := 21) hx hb dX7_owes_6 (by decide) (fun c_2 => ?_) (fun c_2 => ?_)
  · have zc_2 := c_2
    rw [← Int32.toInt_inj] at zc_2
    try rw [show (0 : Int32).toInt = 0 from by decide] at zc_2
    refine lv_iconst (v := (-1)) hx hb dX7_owes_21 (by decide) ?_
    exact W.iret (v := (-1)) hx hb hr (fun t ht hW => ⟨⟨(-1), (), rfl, trivial, trivial⟩, hS.F ht⟩) hS.2.2 dX7_owes_22
  · have zc_2 := c_2
    rw [← Int32.toInt_inj] at zc_2
    try rw [show (0 : Int32).toInt = 0 from by decide] at zc_2
    refine lv_aload_n hx hb dX7_owes_9 rfl (lv_at hl 0 rfl) ?_
    refine va_get (D := (dC, dI)) (ci := 7) (v := .ref (a 29)) (C := RX7) (T := TX7) (N := 12) hx hb hw zz_inX7 hown hK hP 0 rfl rfl 5 (by decide) (hw _ tw_44) (fun _ h9 => h9) rfl dX7_owes_10 ?_
    refine lv_iload_n hx hb dX7_owes_13 rfl (lv_at hl 1 rfl) ?_
    refine lv_iload_n hx hb dX7_owes_14 rfl (lv_at hl 2 rfl) ?_
    have hPc := hP.sub (ws' := [(a 29, .inr (1, [.ref (a 30), .ref (a 31), .ref (a 32), .ref (a 33), .int (nI nd)])), (a 30, .inl (cI, 300, .inl fo)), (a 31, .inl (cI, 300, .inl fc)), (a 32, .inl (cI, 300, .inl fs)), (a 33, .inl (cI, 300, .inl fu))]) [2, 3, 4, 5, 6] rfl
    have hDc := hD.sub (ws' := [(a 29, .inr (1, [.ref (a 30), .ref (a 31), .ref (a 32), .ref (a 33), .int (nI nd)])), (a 30, .inl (cI, 300, .inl fo)), (a 31, .inl (cI, 300, .inl fc)), (a 32, .inl (cI, 300, .inl fs)), (a 33, .inl (cI, 300, .inl fu))]) [2, 3, 4, 5, 6] (by decide) rfl
    have hKc := hK.sub (tys' := [(cI, .int)]) [1] rfl
    have hFc := zz_free0 hS hA
    refine va_calli (va_runVN (As := [.int p0, .int p1]) (rest := []) ⟨hx, hb, hml, hown, hw⟩ (k_unitsOwed l dC dI a cI nd fo fc fs fu p0 p1 H.size (by omega)) ⟨va_cnB 2 hw (zz_good tw_85) rfl rfl rfl (hN.1 _ zz_n58) (hw _ tw_16) (by decide +kernel) ⟨Nat.le_of_ble_eq_true rfl, Nat.le_of_ble_eq_true rfl⟩, (hw _ tw_86), (hw _ tw_87)⟩ ⟨zz_blind, va_recv hKc hPc (ci := 1) (q0 := 0) rfl rfl, zz_pre hPc hKc hDc hN⟩ rfl rfl hl.1 rfl (lv_room (Nat.le_of_ble_eq_true rfl)) dX7_owes_15 ⟨Nat.le_of_ble_eq_true rfl, Nat.le_of_ble_eq_true rfl⟩) hS (fun q _ h => hFc q h) hFc (fun r_3 u_3 t H1 locs ht hvm e_3 hB hz1 hk1 hS => ?_)
    try dsimp only at e_3
    have hP := zz_keep hP hk1
    clear hk1 hB ht hvm
    generalize H1 = H at hP hS ⊢
    refine lv_goto (tgt := 22) hx hb dX7_owes_18 (by decide) ?_
    exact W.iret (v := r_3) hx hb hr (fun t ht hW => ⟨⟨r_3, (), rfl, trivial, trivial⟩, hS.F ht⟩) hS.2.2 dX7_owes_22

set_option maxHeartbeats 4000000 in
set_option maxRecDepth 100000 in
theorem k_oldest (l : Launch) (dC : Nat → ClassId) (dI : Nat → Nat → Nat) (a : Nat → Nat) (nh : Nat) (nf : Nat) (clk : Int32) (hi : Int32) (cH : ClassId) (fH : Nat → Option Nat) (cI : ClassId) (nd : Nat) (fo : Nat → Int32) (fc : Nat → Int32) (fs : Nat → Int32) (fu : Nat → Int32) (p0 : Int32) (p1 : Int32) (sz : Nat) (hc8 : nh ≤ 8) (hf12 : nf ≤ 12) (hfH : ∀ k, k < 8 → fH k = some (a (2 + k))) (hnd : nd ≤ 300) : Met l yX7_oldest (zz_w yX7_oldest cX7_oldest 3 (some .int)) ({ frames := 3, cells := 0, slots := 0, locals := 65 }) (va_Pc [.ref (a 0), .int p0, .int p1] (zz_B (dC, dI) sz [(a 0, .inr (7, [.ref (a 1), .ref (a 10), .ref (a 23), .ref (a 24), .ref (a 26), .ref (a 29), .ref (a 34), .ref (a 43), .int (nI nh), .int (nI nf), .int clk, .int hi])), (a 1, .inl (cH, 8, .inr (.inr (.inr (.inr fH))))), (a 29, .inr (1, [.ref (a 30), .ref (a 31), .ref (a 32), .ref (a 33), .int (nI nd)])), (a 30, .inl (cI, 300, .inl fo)), (a 31, .inl (cI, 300, .inl fc)), (a 32, .inl (cI, 300, .inl fs)), (a 33, .inl (cI, 300, .inl fu))] [(cH, .object RX4), (cI, .int)])) (va_Qi (fun (_ : Int32) (_ : Unit) => True) (fun _ _ => True) (va_A [] sz)) 0 0 (va_A [] sz) := by
  refine Met.ofW (cc := cX7_oldest) (maxL := 3) (ret := (some .int)) (by decide) rfl ?_
  intro p e s m args below meth c s₁ B hml hv
  obtain ⟨rfl, hsz, hP, hK, hD0, hN⟩ := hv
  have hx := B.exec
  have hb := B.bytes
  have hr := B.returns
  have hts := atoms_spec (ws := zz_w yX7_oldest cX7_oldest 3 (some .int)) B.pre
  have hw : ∀ w ∈ zz_all, w.before _ s = true := fun w h => hts w (List.mem_cons_of_mem _ h)
  have hown : s.vm.findClass RX7 = some m.cls := findClass_of_methodNamed B.named
  have hlocks := B.notSynchronized
  subst hsz
  have hD := hD0
  generalize hAe : va_A [] s.heap.size = A
  have hA : ∀ q : Nat, s.heap.size ≤ q → A q := fun q h => by rw [← hAe]; exact Or.inr h
  have hS : va_S A s.heap s.heap [] := va_S.rf
  have hP : va_P (dC, dI) vwCl [(a 0, .inr (7, [.ref (a 1), .ref (a 10), .ref (a 23), .ref (a 24), .ref (a 26), .ref (a 29), .ref (a 34), .ref (a 43), .int (nI nh), .int (nI nf), .int clk, .int hi])), (a 1, .inl (cH, 8, .inr (.inr (.inr (.inr fH))))), (a 29, .inr (1, [.ref (a 30), .ref (a 31), .ref (a 32), .ref (a 33), .int (nI nd)])), (a 30, .inl (cI, 300, .inl fo)), (a 31, .inl (cI, 300, .inl fc)), (a 32, .inl (cI, 300, .inl fs)), (a 33, .inl (cI, 300, .inl fu))] s.heap := hP
  have hl := lv_entry ([.ref (a 0), .int p0, .int p1]) (n := 3) (Nat.le_of_ble_eq_true rfl)
  rw [lg_entry_eq]
  generalize (lg_sl ([.ref (a 0), .int p0, .int p1]) ++ List.replicate (3 - (lg_sl ([.ref (a 0), .int p0, .int p1])).length) Slot.unset).toArray = ls at hl ⊢
  have hl : lv_has ls 3 [(0, .ref (a 0)), (1, .int p0), (2, .int p1)] := hl
  refine lv_aload_n hx hb dX7_oldest_0 rfl (lv_at hl 0 rfl) ?_
  refine lv_iload_n hx hb dX7_oldest_1 rfl (lv_at hl 1 rfl) ?_
  refine lv_iload_n hx hb dX7_oldest_2 rfl (lv_at hl 2 rfl) ?_
  have hPc := hP.sub (ws' := [(a 0, .inr (7, [.ref (a 1), .ref (a 10), .ref (a 23), .ref (a 24), .ref (a 26), .ref (a 29), .ref (a 34), .ref (a 43), .int (nI nh), .int (nI nf), .int clk, .int hi])), (a 1, .inl (cH, 8, .inr (.inr (.inr (.inr fH)))))]) [0, 1] rfl
  have hDc := hD.sub (ws' := [(a 0, .inr (7, [.ref (a 1), .ref (a 10), .ref (a 23), .ref (a 24), .ref (a 26), .ref (a 29), .ref (a 34), .ref (a 43), .int (nI nh), .int (nI nf), .int clk, .int hi])), (a 1, .inl (cH, 8, .inr (.inr (.inr (.inr fH)))))]) [0, 1] (by decide) rfl
  have hKc := hK.sub (tys' := [(cH, .object RX4)]) [0] rfl
  have hFc := zz_free0 hS hA
  refine va_calli (va_runV (As := [.int p0, .int p1]) (rest := []) ⟨hx, hb, hml, hown, hw⟩ (k_areTwo l dC dI a nh nf clk hi cH fH p0 p1 s.heap.size (by omega) (by omega) hfH) ⟨callB_of 2 hw (zz_good tw_81) rfl rfl rfl (hw _ tw_2) (hw _ tw_82) (by decide +kernel) ⟨Nat.le_of_ble_eq_true rfl, Nat.le_of_ble_eq_true rfl⟩, (hw _ tw_83), (hw _ tw_84)⟩ ⟨zz_blind, va_recv hKc hPc (ci := 7) (q0 := 0) rfl rfl, zz_pre hPc hKc hDc hN⟩ rfl rfl hl.1 rfl (lv_room (Nat.le_of_ble_eq_true rfl)) dX7_oldest_3 ⟨Nat.le_of_ble_eq_true rfl, Nat.le_of_ble_eq_true rfl⟩) hS (fun q _ h => hFc q h) hFc (fun r_1 u_1 t H1 locs ht hvm e_1 hB hz1 hk1 hS => ?_)
  try dsimp only at e_1
  have hP := zz_keep hP hk1
  clear hk1 hB ht hvm
  generalize H1 = H at hP hS ⊢
  refine lv_if_eq (tgt := 21) hx hb dX7_oldest_6 (by decide) (fun c_2 => ?_) (fun c_2 => ?_)
  · have zc_2 := c_2
    rw [← Int32.toInt_inj] at zc_2
    try rw [show (0 : Int32).toInt = 0 from by decide] at zc_2
    refine lv_iconst (v := (-1)) hx hb dX7_oldest_21 (by decide) ?_
    exact W.iret (v := (-1)) hx hb hr (fun t ht hW => ⟨⟨(-1), (), rfl, trivial, trivial⟩, hS.F ht⟩) hS.2.2 dX7_oldest_22
  · have zc_2 := c_2
    rw [← Int32.toInt_inj] at zc_2
    try rw [show (0 : Int32).toInt = 0 from by decide] at zc_2
    refine lv_aload_n hx hb dX7_oldest_9 rfl (lv_at hl 0 rfl) ?_
    refine va_get (D := (dC, dI)) (ci := 7) (v := .ref (a 29)) (C := RX7) (T := TX7) (N := 12) hx hb hw zz_inX7 hown hK hP 0 rfl rfl 5 (by decide) (hw _ tw_44) (fun _ h9 => h9) rfl dX7_oldest_10 ?_
    refine lv_iload_n hx hb dX7_oldest_13 rfl (lv_at hl 1 rfl) ?_
    refine lv_iload_n hx hb dX7_oldest_14 rfl (lv_at hl 2 rfl) ?_
    have hPc := hP.sub (ws' := [(a 29, .inr (1, [.ref (a 30), .ref (a 31), .ref (a 32), .ref (a 33), .int (nI nd)])), (a 30, .inl (cI, 300, .inl fo)), (a 31, .inl (cI, 300, .inl fc)), (a 32, .inl (cI, 300, .inl fs)), (a 33, .inl (cI, 300, .inl fu))]) [2, 3, 4, 5, 6] rfl
    have hDc := hD.sub (ws' := [(a 29, .inr (1, [.ref (a 30), .ref (a 31), .ref (a 32), .ref (a 33), .int (nI nd)])), (a 30, .inl (cI, 300, .inl fo)), (a 31, .inl (cI, 300, .inl fc)), (a 32, .inl (cI, 300, .inl fs)), (a 33, .inl (cI, 300, .inl fu))]) [2, 3, 4, 5, 6] (by decide) rfl
    have hKc := hK.sub (tys' := [(cI, .int)]) [1] rfl
    have hFc := zz_free0 hS hA
    refine va_calli (va_runVN (As := [.int p0, .int p1]) (rest := []) ⟨hx, hb, hml, hown, hw⟩ (k_firstDay l dC dI a cI nd fo fc fs fu p0 p1 H.size (by omega)) ⟨va_cnB 2 hw (zz_good tw_88) rfl rfl rfl (hN.1 _ zz_n59) (hw _ tw_16) (by decide +kernel) ⟨Nat.le_of_ble_eq_true rfl, Nat.le_of_ble_eq_true rfl⟩, (hw _ tw_89), (hw _ tw_90)⟩ ⟨zz_blind, va_recv hKc hPc (ci := 1) (q0 := 0) rfl rfl, zz_pre hPc hKc hDc hN⟩ rfl rfl hl.1 rfl (lv_room (Nat.le_of_ble_eq_true rfl)) dX7_oldest_15 ⟨Nat.le_of_ble_eq_true rfl, Nat.le_of_ble_eq_true rfl⟩) hS (fun q _ h => hFc q h) hFc (fun r_3 u_3 t H1 locs ht hvm e_3 hB hz1 hk1 hS => ?_)
    try dsimp only at e_3
    have hP := zz_keep hP hk1
    clear hk1 hB ht hvm
    generalize H1 = H at hP hS ⊢
    refine lv_goto (tgt := 22) hx hb dX7_oldest_18 (by decide) ?_
    exact W.iret (v := r_3) hx hb hr (fun t ht hW => ⟨⟨r_3, (), rfl, trivial, trivial⟩, hS.F ht⟩) hS.2.2 dX7_oldest_22

set_option maxHeartbeats 4000000 in
set_option maxRecDepth 100000 in
theorem k_houseOf (l : Launch) (dC : Nat → ClassId) (dI : Nat → Nat → Nat) (a : Nat → Nat) (nh : Nat) (nf : Nat) (clk : Int32) (hi : Int32) (cH : ClassId) (fH : Nat → Option Nat) (cI : ClassId) (nd : Nat) (fo : Nat → Int32) (fc : Nat → Int32) (fs : Nat → Int32) (fu : Nat → Int32) (V : Nat → Nat → Int32) (p0 : Int32) (p1 : Int32) (L : List Nat) (K : Nat → Nat) (sz : Nat) (hc8 : nh ≤ 8) (hf12 : nf ≤ 12) (hfH : ∀ k, k < 8 → fH k = some (a (2 + k))) (hH : ∀ k, k < 8 → a (2 + k) ∈ L ∧ K (a (2 + k)) = 4) (hnd : nd ≤ 300) : Met l yX7_houseOf (zz_w yX7_houseOf cX7_houseOf 4 (some .int)) ({ frames := 2, cells := 0, slots := 0, locals := 43 }) (va_Pc [.ref (a 0), .int p0, .int p1] (zz_B (dC, dI) sz (([(a 0, .inr (7, [.ref (a 1), .ref (a 10), .ref (a 23), .ref (a 24), .ref (a 26), .ref (a 29), .ref (a 34), .ref (a 43), .int (nI nh), .int (nI nf), .int clk, .int hi])), (a 1, .inl (cH, 8, .inr (.inr (.inr (.inr fH))))), (a 29, .inr (1, [.ref (a 30), .ref (a 31), .ref (a 32), .ref (a 33), .int (nI nd)])), (a 30, .inl (cI, 300, .inl fo)), (a 31, .inl (cI, 300, .inl fc)), (a 32, .inl (cI, 300, .inl fs)), (a 33, .inl (cI, 300, .inl fu))] : va_W) ++ va_pl L (zz_F K V)) [(cH, .object RX4), (cI, .int)])) (va_Qi (fun (_ : Int32) (_ : Unit) => True) (fun _ _ => True) (va_A [] sz)) 0 0 (va_A [] sz) := by
  refine Met.ofW (cc := cX7_houseOf) (maxL := 4) (ret := (some .int)) (by decide) rfl ?_
  intro p e s m args below meth c s₁ B hml hv
  obtain ⟨rfl, hsz, hP, hK, hD0, hN⟩ := hv
  have hx := B.exec
  have hb := B.bytes
  have hr := B.returns
  have hts := atoms_spec (ws := zz_w yX7_houseOf cX7_houseOf 4 (some .int)) B.pre
  have hw : ∀ w ∈ zz_all, w.before _ s = true := fun w h => hts w (List.mem_cons_of_mem _ h)
  have hown : s.vm.findClass RX7 = some m.cls := findClass_of_methodNamed B.named
  have hlocks := B.notSynchronized
  subst hsz
  have hD := hD0
  generalize hAe : va_A [] s.heap.size = A
  have hA : ∀ q : Nat, s.heap.size ≤ q → A q := fun q h => by rw [← hAe]; exact Or.inr h
  have hS : va_S A s.heap s.heap [] := va_S.rf
  have hP : va_P (dC, dI) vwCl (([(a 0, .inr (7, [.ref (a 1), .ref (a 10), .ref (a 23), .ref (a 24), .ref (a 26), .ref (a 29), .ref (a 34), .ref (a 43), .int (nI nh), .int (nI nf), .int clk, .int hi])), (a 1, .inl (cH, 8, .inr (.inr (.inr (.inr fH))))), (a 29, .inr (1, [.ref (a 30), .ref (a 31), .ref (a 32), .ref (a 33), .int (nI nd)])), (a 30, .inl (cI, 300, .inl fo)), (a 31, .inl (cI, 300, .inl fc)), (a 32, .inl (cI, 300, .inl fs)), (a 33, .inl (cI, 300, .inl fu))] : va_W) ++ va_pl L (zz_F K V)) s.heap := hP
  have hl := lv_entry ([.ref (a 0), .int p0, .int p1]) (n := 4) (Nat.le_of_ble_eq_true rfl)
  rw [lg_entry_eq]
  generalize (lg_sl ([.ref (a 0), .int p0, .int p1]) ++ List.replicate (4 - (lg_sl ([.ref (a 0), .int p0, .int p1])).length) Slot.unset).toArray = ls at hl ⊢
  have hl : lv_has ls 4 [(0, .ref (a 0)), (1, .int p0), (2, .int p1)] := hl
  refine lv_aload_n hx hb dX7_houseOf_0 rfl (lv_at hl 0 rfl) ?_
  refine lv_iload_n hx hb dX7_houseOf_1 rfl (lv_at hl 1 rfl) ?_
  have hPc := hP.sub (ws' := [(a 0, .inr (7, [.ref (a 1), .ref (a 10), .ref (a 23), .ref (a 24), .ref (a 26), .ref (a 29), .ref (a 34), .ref (a 43), .int (nI nh), .int (nI nf), .int clk, .int hi])), (a 1, .inl (cH, 8, .inr (.inr (.inr (.inr fH)))))]) [0, 1] rfl
  have hDc := hD.sub (ws' := [(a 0, .inr (7, [.ref (a 1), .ref (a 10), .ref (a 23), .ref (a 24), .ref (a 26), .ref (a 29), .ref (a 34), .ref (a 43), .int (nI nh), .int (nI nf), .int clk, .int hi])), (a 1, .inl (cH, 8, .inr (.inr (.inr (.inr fH)))))]) [0, 1] (by decide) rfl
  have hKc := hK.sub (tys' := [(cH, .object RX4)]) [0] rfl
  have hFc := zz_free0 hS hA
  refine va_callq (va_runV (As := [.int p0]) (rest := []) ⟨hx, hb, hml, hown, hw⟩ (k_houseAt l dC dI a nh nf clk hi cH fH p0 s.heap.size (by omega) (by omega) hfH) ⟨callB_of 1 hw (zz_good tw_8) rfl rfl rfl (hw _ tw_2) (hw _ tw_9) (by decide +kernel) ⟨Nat.le_of_ble_eq_true rfl, Nat.le_of_ble_eq_true rfl⟩, (hw _ tw_10), (hw _ tw_11)⟩ ⟨zz_blind, va_recv hKc hPc (ci := 7) (q0 := 0) rfl rfl, zz_pre hPc hKc hDc hN⟩ rfl rfl hl.1 rfl (lv_room (Nat.le_of_ble_eq_true rfl)) dX7_houseOf_2 ⟨Nat.le_of_ble_eq_true rfl, Nat.le_of_ble_eq_true rfl⟩) hS (fun q _ h => hFc q h) hFc (fun r_1 u_1 t H1 locs ht hvm e_1 hB hz1 hk1 hS => ?_)
  try dsimp only at e_1
  have hP := zz_keep hP hk1
  clear hk1 hB ht hvm
  generalize H1 = H at hP hS ⊢
  rcases e_1 with ⟨er_1, nk_1⟩ | ⟨er_1, nk_1⟩
  · refine zz_setv (.null) (congrArg va_rf er_1) ?_
    refine lv_astore_nN (lv' := [(3, .null), (0, .ref (a 0)), (1, .int p0), (2, .int p1)]) hx hb dX7_houseOf_5 rfl hl (by decide) rfl (fun ls hl => ?_)
    refine lv_aload_nN hx hb dX7_houseOf_6 rfl (lv_at hl 0 rfl) ?_
    refine lv_ifnonnullN hx hb dX7_houseOf_7 ?_
    refine lv_ldc (v := (-1000000)) hx hb hown (hw _ tw_91) dX7_houseOf_10 ?_
    exact W.iret (v := (-1000000)) hx hb hr (fun t ht hW => ⟨⟨(-1000000), (), rfl, trivial, trivial⟩, hS.F ht⟩) hS.2.2 dX7_houseOf_12
  · refine zz_setv (.ref (a (2 + (Int32.toNatClampNeg p0)))) (congrArg va_rf er_1) ?_
    refine lv_astore_n (lv' := [(3, .ref (a (2 + (Int32.toNatClampNeg p0)))), (0, .ref (a 0)), (1, .int p0), (2, .int p1)]) hx hb dX7_houseOf_5 rfl hl (by decide) rfl (fun ls hl => ?_)
    refine lv_aload_n hx hb dX7_houseOf_6 rfl (lv_at hl 0 rfl) ?_
    refine lv_ifnonnull (tgt := 13) hx hb dX7_houseOf_7 (by decide) ?_
    refine lv_iload_n hx hb dX7_houseOf_13 rfl (lv_at hl 3 rfl) ?_
    by_cases c_2 : p1 = 0
    · have zc_2 := c_2
      rw [← Int32.toInt_inj] at zc_2
      try rw [show (0 : Int32).toInt = 0 from by decide] at zc_2
      refine lv_tableIn (tgt := 68) hx hb dX7_houseOf_14 (by rw [c_2]; decide) (by rw [c_2]; decide) (by rw [c_2]; rfl) (by decide) ?_
      refine lv_aload_n hx hb dX7_houseOf_68 rfl (lv_at hl 0 rfl) ?_
      obtain ⟨kq_3, hq_3⟩ := zz_pg4 (X := [(a 0, .inr (7, [.ref (a 1), .ref (a 10), .ref (a 23), .ref (a 24), .ref (a 26), .ref (a 29), .ref (a 34), .ref (a 43), .int (nI nh), .int (nI nf), .int clk, .int hi])), (a 1, .inl (cH, 8, .inr (.inr (.inr (.inr fH))))), (a 29, .inr (1, [.ref (a 30), .ref (a 31), .ref (a 32), .ref (a 33), .int (nI nd)])), (a 30, .inl (cI, 300, .inl fo)), (a 31, .inl (cI, 300, .inl fc)), (a 32, .inl (cI, 300, .inl fs)), (a 33, .inl (cI, 300, .inl fu))]) (V := V) (hH (Int32.toNatClampNeg p0) (zz_lt nk_1 hc8 (by omega))).1 (hH (Int32.toNatClampNeg p0) (zz_lt nk_1 hc8 (by omega))).2
      have hDo := hD
      refine va_getN (D := (dC, dI)) (ci := 4) (v := .int (V (a (2 + (Int32.toNatClampNeg p0))) 0)) (C := RX4) (T := TX4) (N := 9) hx hb hw zz_inX4 hown hK hP kq_3 hq_3 rfl 0 (by decide) (hN.use zz_n1) (fun _ h9 => h9) rfl dX7_houseOf_69 ?_
      exact W.iret (v := (V (a (2 + (Int32.toNatClampNeg p0))) 0)) hx hb hr (fun t ht hW => ⟨⟨(V (a (2 + (Int32.toNatClampNeg p0))) 0), (), rfl, trivial, trivial⟩, hS.F ht⟩) hS.2.2 dX7_houseOf_72
    by_cases c_4 : p1 = 1
    · have zc_4 := c_4
      rw [← Int32.toInt_inj] at zc_4
      try rw [show (1 : Int32).toInt = 1 from by decide] at zc_4
      refine lv_tableIn (tgt := 73) hx hb dX7_houseOf_14 (by rw [c_4]; decide) (by rw [c_4]; decide) (by rw [c_4]; rfl) (by decide) ?_
      refine lv_aload_n hx hb dX7_houseOf_73 rfl (lv_at hl 0 rfl) ?_
      obtain ⟨kq_5, hq_5⟩ := zz_pg4 (X := [(a 0, .inr (7, [.ref (a 1), .ref (a 10), .ref (a 23), .ref (a 24), .ref (a 26), .ref (a 29), .ref (a 34), .ref (a 43), .int (nI nh), .int (nI nf), .int clk, .int hi])), (a 1, .inl (cH, 8, .inr (.inr (.inr (.inr fH))))), (a 29, .inr (1, [.ref (a 30), .ref (a 31), .ref (a 32), .ref (a 33), .int (nI nd)])), (a 30, .inl (cI, 300, .inl fo)), (a 31, .inl (cI, 300, .inl fc)), (a 32, .inl (cI, 300, .inl fs)), (a 33, .inl (cI, 300, .inl fu))]) (V := V) (hH (Int32.toNatClampNeg p0) (zz_lt nk_1 hc8 (by omega))).1 (hH (Int32.toNatClampNeg p0) (zz_lt nk_1 hc8 (by omega))).2
      have hDo := hD
      refine va_getN (D := (dC, dI)) (ci := 4) (v := .int (V (a (2 + (Int32.toNatClampNeg p0))) 1)) (C := RX4) (T := TX4) (N := 9) hx hb hw zz_inX4 hown hK hP kq_5 hq_5 rfl 1 (by decide) (hN.use zz_n2) (fun _ h9 => h9) rfl dX7_houseOf_74 ?_
      refine lv_if_eq (tgt := 84) hx hb dX7_houseOf_77 (by decide) (fun c_6 => ?_) (fun c_6 => ?_)
      · have zc_6 := c_6
        rw [← Int32.toInt_inj] at zc_6
        try rw [show (0 : Int32).toInt = 0 from by decide] at zc_6
        refine lv_iconst (v := 0) hx hb dX7_houseOf_84 (by decide) ?_
        exact W.iret (v := 0) hx hb hr (fun t ht hW => ⟨⟨0, (), rfl, trivial, trivial⟩, hS.F ht⟩) hS.2.2 dX7_houseOf_85
      · have zc_6 := c_6
        rw [← Int32.toInt_inj] at zc_6
        try rw [show (0 : Int32).toInt = 0 from by decide] at zc_6
        refine lv_iconst (v := 1) hx hb dX7_houseOf_80 (by decide) ?_
        refine lv_goto (tgt := 85) hx hb dX7_houseOf_81 (by decide) ?_
        exact W.iret (v := 1) hx hb hr (fun t ht hW => ⟨⟨1, (), rfl, trivial, trivial⟩, hS.F ht⟩) hS.2.2 dX7_houseOf_85
    by_cases c_7 : p1 = 2
    · have zc_7 := c_7
      rw [← Int32.toInt_inj] at zc_7
      try rw [show (2 : Int32).toInt = 2 from by decide] at zc_7
      refine lv_tableIn (tgt := 86) hx hb dX7_houseOf_14 (by rw [c_7]; decide) (by rw [c_7]; decide) (by rw [c_7]; rfl) (by decide) ?_
      refine lv_aload_n hx hb dX7_houseOf_86 rfl (lv_at hl 0 rfl) ?_
      obtain ⟨kq_8, hq_8⟩ := zz_pg4 (X := [(a 0, .inr (7, [.ref (a 1), .ref (a 10), .ref (a 23), .ref (a 24), .ref (a 26), .ref (a 29), .ref (a 34), .ref (a 43), .int (nI nh), .int (nI nf), .int clk, .int hi])), (a 1, .inl (cH, 8, .inr (.inr (.inr (.inr fH))))), (a 29, .inr (1, [.ref (a 30), .ref (a 31), .ref (a 32), .ref (a 33), .int (nI nd)])), (a 30, .inl (cI, 300, .inl fo)), (a 31, .inl (cI, 300, .inl fc)), (a 32, .inl (cI, 300, .inl fs)), (a 33, .inl (cI, 300, .inl fu))]) (V := V) (hH (Int32.toNatClampNeg p0) (zz_lt nk_1 hc8 (by omega))).1 (hH (Int32.toNatClampNeg p0) (zz_lt nk_1 hc8 (by omega))).2
      have hDo := hD
      refine va_getN (D := (dC, dI)) (ci := 4) (v := .int (V (a (2 + (Int32.toNatClampNeg p0))) 2)) (C := RX4) (T := TX4) (N := 9) hx hb hw zz_inX4 hown hK hP kq_8 hq_8 rfl 2 (by decide) (hN.use zz_n3) (fun _ h9 => h9) rfl dX7_houseOf_87 ?_
      exact W.iret (v := (V (a (2 + (Int32.toNatClampNeg p0))) 2)) hx hb hr (fun t ht hW => ⟨⟨(V (a (2 + (Int32.toNatClampNeg p0))) 2), (), rfl, trivial, trivial⟩, hS.F ht⟩) hS.2.2 dX7_houseOf_90
    by_cases c_9 : p1 = 3
    · have zc_9 := c_9
      rw [← Int32.toInt_inj] at zc_9
      try rw [show (3 : Int32).toInt = 3 from by decide] at zc_9
      refine lv_tableIn (tgt := 91) hx hb dX7_houseOf_14 (by rw [c_9]; decide) (by rw [c_9]; decide) (by rw [c_9]; rfl) (by decide) ?_
      refine lv_aload_n hx hb dX7_houseOf_91 rfl (lv_at hl 0 rfl) ?_
      have hPc := hP.part (cx := []) [] rfl
      have hDc := hD.part (cx := []) [] (by decide) rfl
      have hKc := hK.sub (tys' := []) [] rfl
      have hFc := zz_free0 hS hA
      obtain ⟨kr_10, hr_10⟩ := zz_pg4 (X := []) (V := V) (hH (Int32.toNatClampNeg p0) (zz_lt nk_1 hc8 (by omega))).1 (hH (Int32.toNatClampNeg p0) (zz_lt nk_1 hc8 (by omega))).2
      refine va_calli (va_runVN (As := []) (rest := []) ⟨hx, hb, hml, hown, hw⟩ (k_freeHands l dC dI (a (2 + (Int32.toNatClampNeg p0))) V L K H.size (hH (Int32.toNatClampNeg p0) (zz_lt nk_1 hc8 (by omega))).1 (hH (Int32.toNatClampNeg p0) (zz_lt nk_1 hc8 (by omega))).2) ⟨va_cnB 0 hw (zz_good tw_60) rfl rfl rfl (hN.1 _ zz_n53) (hw _ tw_61) (by decide +kernel) ⟨Nat.le_of_ble_eq_true rfl, Nat.le_of_ble_eq_true rfl⟩, (hw _ tw_62), (hw _ tw_63)⟩ ⟨zz_blind, va_recv hKc hPc (ci := 4) (q0 := kr_10) rfl hr_10, zz_pre hPc hKc hDc hN⟩ rfl rfl hl.1 rfl (lv_room (Nat.le_of_ble_eq_true rfl)) dX7_houseOf_92 ⟨Nat.le_of_ble_eq_true rfl, Nat.le_of_ble_eq_true rfl⟩) hS (fun q _ h => hFc q h) hFc (fun r_10 u_10 t H1 locs ht hvm e_10 hB hz1 hk1 hS => ?_)
      try dsimp only at e_10
      have hP := zz_keep hP hk1
      clear hk1 hB ht hvm
      generalize H1 = H at hP hS ⊢
      exact W.iret (v := r_10) hx hb hr (fun t ht hW => ⟨⟨r_10, (), rfl, trivial, trivial⟩, hS.F ht⟩) hS.2.2 dX7_houseOf_95
    by_cases c_11 : p1 = 4
    · have zc_11 := c_11
      rw [← Int32.toInt_inj] at zc_11
      try rw [show (4 : Int32).toInt = 4 from by decide] at zc_11
      refine lv_tableIn (tgt := 96) hx hb dX7_houseOf_14 (by rw [c_11]; decide) (by rw [c_11]; decide) (by rw [c_11]; rfl) (by decide) ?_
      refine lv_aload_n hx hb dX7_houseOf_96 rfl (lv_at hl 1 rfl) ?_
      refine va_get (D := (dC, dI)) (ci := 7) (v := .ref (a 29)) (C := RX7) (T := TX7) (N := 12) hx hb hw zz_inX7 hown hK hP 0 rfl rfl 5 (by decide) (hw _ tw_44) (fun _ h9 => h9) rfl dX7_houseOf_97 ?_
      refine lv_iload_n hx hb dX7_houseOf_100 rfl (lv_at hl 2 rfl) ?_
      have hPc := hP.sub (ws' := [(a 29, .inr (1, [.ref (a 30), .ref (a 31), .ref (a 32), .ref (a 33), .int (nI nd)])), (a 30, .inl (cI, 300, .inl fo)), (a 31, .inl (cI, 300, .inl fc)), (a 32, .inl (cI, 300, .inl fs)), (a 33, .inl (cI, 300, .inl fu))]) [2, 3, 4, 5, 6] rfl
      have hDc := hD.sub (ws' := [(a 29, .inr (1, [.ref (a 30), .ref (a 31), .ref (a 32), .ref (a 33), .int (nI nd)])), (a 30, .inl (cI, 300, .inl fo)), (a 31, .inl (cI, 300, .inl fc)), (a 32, .inl (cI, 300, .inl fs)), (a 33, .inl (cI, 300, .inl fu))]) [2, 3, 4, 5, 6] (by decide) rfl
      have hKc := hK.sub (tys' := [(cI, .int)]) [1] rfl
      have hFc := zz_free0 hS hA
      refine va_calli (va_runVN (As := [.int p0]) (rest := []) ⟨hx, hb, hml, hown, hw⟩ (k_net l dC dI a cI nd fo fc fs fu p0 H.size (by omega)) ⟨va_cnB 1 hw (zz_good tw_92) rfl rfl rfl (hN.1 _ zz_n57) (hw _ tw_16) (by decide +kernel) ⟨Nat.le_of_ble_eq_true rfl, Nat.le_of_ble_eq_true rfl⟩, (hw _ tw_93), (hw _ tw_94)⟩ ⟨zz_blind, va_recv hKc hPc (ci := 1) (q0 := 0) rfl rfl, zz_pre hPc hKc hDc hN⟩ rfl rfl hl.1 rfl (lv_room (Nat.le_of_ble_eq_true rfl)) dX7_houseOf_101 ⟨Nat.le_of_ble_eq_true rfl, Nat.le_of_ble_eq_true rfl⟩) hS (fun q _ h => hFc q h) hFc (fun r_12 u_12 t H1 locs ht hvm e_12 hB hz1 hk1 hS => ?_)
      try dsimp only at e_12
      have hP := zz_keep hP hk1
      clear hk1 hB ht hvm
      generalize H1 = H at hP hS ⊢
      exact W.iret (v := r_12) hx hb hr (fun t ht hW => ⟨⟨r_12, (), rfl, trivial, trivial⟩, hS.F ht⟩) hS.2.2 dX7_houseOf_104
    by_cases c_13 : p1 = 5
    · have zc_13 := c_13
      rw [← Int32.toInt_inj] at zc_13
      try rw [show (5 : Int32).toInt = 5 from by decide] at zc_13
      refine lv_tableIn (tgt := 105) hx hb dX7_houseOf_14 (by rw [c_13]; decide) (by rw [c_13]; decide) (by rw [c_13]; rfl) (by decide) ?_
      refine lv_aload_n hx hb dX7_houseOf_105 rfl (lv_at hl 0 rfl) ?_
      obtain ⟨kq_14, hq_14⟩ := zz_pg4 (X := [(a 0, .inr (7, [.ref (a 1), .ref (a 10), .ref (a 23), .ref (a 24), .ref (a 26), .ref (a 29), .ref (a 34), .ref (a 43), .int (nI nh), .int (nI nf), .int clk, .int hi])), (a 1, .inl (cH, 8, .inr (.inr (.inr (.inr fH))))), (a 29, .inr (1, [.ref (a 30), .ref (a 31), .ref (a 32), .ref (a 33), .int (nI nd)])), (a 30, .inl (cI, 300, .inl fo)), (a 31, .inl (cI, 300, .inl fc)), (a 32, .inl (cI, 300, .inl fs)), (a 33, .inl (cI, 300, .inl fu))]) (V := V) (hH (Int32.toNatClampNeg p0) (zz_lt nk_1 hc8 (by omega))).1 (hH (Int32.toNatClampNeg p0) (zz_lt nk_1 hc8 (by omega))).2
      have hDo := hD
      refine va_getN (D := (dC, dI)) (ci := 4) (v := .int (V (a (2 + (Int32.toNatClampNeg p0))) 4)) (C := RX4) (T := TX4) (N := 9) hx hb hw zz_inX4 hown hK hP kq_14 hq_14 rfl 4 (by decide) (hN.use zz_n5) (fun _ h9 => h9) rfl dX7_houseOf_106 ?_
      exact W.iret (v := (V (a (2 + (Int32.toNatClampNeg p0))) 4)) hx hb hr (fun t ht hW => ⟨⟨(V (a (2 + (Int32.toNatClampNeg p0))) 4), (), rfl, trivial, trivial⟩, hS.F ht⟩) hS.2.2 dX7_houseOf_109
    by_cases c_15 : p1 = 6
    · have zc_15 := c_15
      rw [← Int32.toInt_inj] at zc_15
      try rw [show (6 : Int32).toInt = 6 from by decide] at zc_15
      refine lv_tableIn (tgt := 110) hx hb dX7_houseOf_14 (by rw [c_15]; decide) (by rw [c_15]; decide) (by rw [c_15]; rfl) (by decide) ?_
      refine lv_aload_n hx hb dX7_houseOf_110 rfl (lv_at hl 0 rfl) ?_
      obtain ⟨kq_16, hq_16⟩ := zz_pg4 (X := [(a 0, .inr (7, [.ref (a 1), .ref (a 10), .ref (a 23), .ref (a 24), .ref (a 26), .ref (a 29), .ref (a 34), .ref (a 43), .int (nI nh), .int (nI nf), .int clk, .int hi])), (a 1, .inl (cH, 8, .inr (.inr (.inr (.inr fH))))), (a 29, .inr (1, [.ref (a 30), .ref (a 31), .ref (a 32), .ref (a 33), .int (nI nd)])), (a 30, .inl (cI, 300, .inl fo)), (a 31, .inl (cI, 300, .inl fc)), (a 32, .inl (cI, 300, .inl fs)), (a 33, .inl (cI, 300, .inl fu))]) (V := V) (hH (Int32.toNatClampNeg p0) (zz_lt nk_1 hc8 (by omega))).1 (hH (Int32.toNatClampNeg p0) (zz_lt nk_1 hc8 (by omega))).2
      have hDo := hD
      refine va_getN (D := (dC, dI)) (ci := 4) (v := .int (V (a (2 + (Int32.toNatClampNeg p0))) 5)) (C := RX4) (T := TX4) (N := 9) hx hb hw zz_inX4 hown hK hP kq_16 hq_16 rfl 5 (by decide) (hN.use zz_n6) (fun _ h9 => h9) rfl dX7_houseOf_111 ?_
      exact W.iret (v := (V (a (2 + (Int32.toNatClampNeg p0))) 5)) hx hb hr (fun t ht hW => ⟨⟨(V (a (2 + (Int32.toNatClampNeg p0))) 5), (), rfl, trivial, trivial⟩, hS.F ht⟩) hS.2.2 dX7_houseOf_114
    by_cases c_17 : p1 = 7
    · have zc_17 := c_17
      rw [← Int32.toInt_inj] at zc_17
      try rw [show (7 : Int32).toInt = 7 from by decide] at zc_17
      refine lv_tableIn (tgt := 115) hx hb dX7_houseOf_14 (by rw [c_17]; decide) (by rw [c_17]; decide) (by rw [c_17]; rfl) (by decide) ?_
      refine lv_aload_n hx hb dX7_houseOf_115 rfl (lv_at hl 0 rfl) ?_
      obtain ⟨kq_18, hq_18⟩ := zz_pg4 (X := [(a 0, .inr (7, [.ref (a 1), .ref (a 10), .ref (a 23), .ref (a 24), .ref (a 26), .ref (a 29), .ref (a 34), .ref (a 43), .int (nI nh), .int (nI nf), .int clk, .int hi])), (a 1, .inl (cH, 8, .inr (.inr (.inr (.inr fH))))), (a 29, .inr (1, [.ref (a 30), .ref (a 31), .ref (a 32), .ref (a 33), .int (nI nd)])), (a 30, .inl (cI, 300, .inl fo)), (a 31, .inl (cI, 300, .inl fc)), (a 32, .inl (cI, 300, .inl fs)), (a 33, .inl (cI, 300, .inl fu))]) (V := V) (hH (Int32.toNatClampNeg p0) (zz_lt nk_1 hc8 (by omega))).1 (hH (Int32.toNatClampNeg p0) (zz_lt nk_1 hc8 (by omega))).2
      have hDo := hD
      refine va_getN (D := (dC, dI)) (ci := 4) (v := .int (V (a (2 + (Int32.toNatClampNeg p0))) 6)) (C := RX4) (T := TX4) (N := 9) hx hb hw zz_inX4 hown hK hP kq_18 hq_18 rfl 6 (by decide) (hN.use zz_n7) (fun _ h9 => h9) rfl dX7_houseOf_116 ?_
      exact W.iret (v := (V (a (2 + (Int32.toNatClampNeg p0))) 6)) hx hb hr (fun t ht hW => ⟨⟨(V (a (2 + (Int32.toNatClampNeg p0))) 6), (), rfl, trivial, trivial⟩, hS.F ht⟩) hS.2.2 dX7_houseOf_119
    by_cases c_19 : p1 = 8
    · have zc_19 := c_19
      rw [← Int32.toInt_inj] at zc_19
      try rw [show (8 : Int32).toInt = 8 from by decide] at zc_19
      refine lv_tableIn (tgt := 120) hx hb dX7_houseOf_14 (by rw [c_19]; decide) (by rw [c_19]; decide) (by rw [c_19]; rfl) (by decide) ?_
      refine lv_aload_n hx hb dX7_houseOf_120 rfl (lv_at hl 0 rfl) ?_
      obtain ⟨kq_20, hq_20⟩ := zz_pg4 (X := [(a 0, .inr (7, [.ref (a 1), .ref (a 10), .ref (a 23), .ref (a 24), .ref (a 26), .ref (a 29), .ref (a 34), .ref (a 43), .int (nI nh), .int (nI nf), .int clk, .int hi])), (a 1, .inl (cH, 8, .inr (.inr (.inr (.inr fH))))), (a 29, .inr (1, [.ref (a 30), .ref (a 31), .ref (a 32), .ref (a 33), .int (nI nd)])), (a 30, .inl (cI, 300, .inl fo)), (a 31, .inl (cI, 300, .inl fc)), (a 32, .inl (cI, 300, .inl fs)), (a 33, .inl (cI, 300, .inl fu))]) (V := V) (hH (Int32.toNatClampNeg p0) (zz_lt nk_1 hc8 (by omega))).1 (hH (Int32.toNatClampNeg p0) (zz_lt nk_1 hc8 (by omega))).2
      have hDo := hD
      refine va_getN (D := (dC, dI)) (ci := 4) (v := .int (V (a (2 + (Int32.toNatClampNeg p0))) 7)) (C := RX4) (T := TX4) (N := 9) hx hb hw zz_inX4 hown hK hP kq_20 hq_20 rfl 7 (by decide) (hN.use zz_n8) (fun _ h9 => h9) rfl dX7_houseOf_121 ?_
      exact W.iret (v := (V (a (2 + (Int32.toNatClampNeg p0))) 7)) hx hb hr (fun t ht hW => ⟨⟨(V (a (2 + (Int32.toNatClampNeg p0))) 7), (), rfl, trivial, trivial⟩, hS.F ht⟩) hS.2.2 dX7_houseOf_124
    by_cases c_21 : p1 = 9
    · have zc_21 := c_21
      rw [← Int32.toInt_inj] at zc_21
      try rw [show (9 : Int32).toInt = 9 from by decide] at zc_21
      refine lv_tableIn (tgt := 125) hx hb dX7_houseOf_14 (by rw [c_21]; decide) (by rw [c_21]; decide) (by rw [c_21]; rfl) (by decide) ?_
      refine lv_aload_n hx hb dX7_houseOf_125 rfl (lv_at hl 0 rfl) ?_
      obtain ⟨kq_22, hq_22⟩ := zz_pg4 (X := [(a 0, .inr (7, [.ref (a 1), .ref (a 10), .ref (a 23), .ref (a 24), .ref (a 26), .ref (a 29), .ref (a 34), .ref (a 43), .int (nI nh), .int (nI nf), .int clk, .int hi])), (a 1, .inl (cH, 8, .inr (.inr (.inr (.inr fH))))), (a 29, .inr (1, [.ref (a 30), .ref (a 31), .ref (a 32), .ref (a 33), .int (nI nd)])), (a 30, .inl (cI, 300, .inl fo)), (a 31, .inl (cI, 300, .inl fc)), (a 32, .inl (cI, 300, .inl fs)), (a 33, .inl (cI, 300, .inl fu))]) (V := V) (hH (Int32.toNatClampNeg p0) (zz_lt nk_1 hc8 (by omega))).1 (hH (Int32.toNatClampNeg p0) (zz_lt nk_1 hc8 (by omega))).2
      have hDo := hD
      refine va_getN (D := (dC, dI)) (ci := 4) (v := .int (V (a (2 + (Int32.toNatClampNeg p0))) 8)) (C := RX4) (T := TX4) (N := 9) hx hb hw zz_inX4 hown hK hP kq_22 hq_22 rfl 8 (by decide) (hN.use zz_n9) (fun _ h9 => h9) rfl dX7_houseOf_126 ?_
      exact W.iret (v := (V (a (2 + (Int32.toNatClampNeg p0))) 8)) hx hb hr (fun t ht hW => ⟨⟨(V (a (2 + (Int32.toNatClampNeg p0))) 8), (), rfl, trivial, trivial⟩, hS.F ht⟩) hS.2.2 dX7_houseOf_129
    refine lv_tableOut (tgt := 130) hx hb dX7_houseOf_14 (by have := zz_ne c_2; rw [show (0 : Int32).toInt = 0 from by decide] at this; have := zz_ne c_4; rw [show (1 : Int32).toInt = 1 from by decide] at this; have := zz_ne c_7; rw [show (2 : Int32).toInt = 2 from by decide] at this; have := zz_ne c_9; rw [show (3 : Int32).toInt = 3 from by decide] at this; have := zz_ne c_11; rw [show (4 : Int32).toInt = 4 from by decide] at this; have := zz_ne c_13; rw [show (5 : Int32).toInt = 5 from by decide] at this; have := zz_ne c_15; rw [show (6 : Int32).toInt = 6 from by decide] at this; have := zz_ne c_17; rw [show (7 : Int32).toInt = 7 from by decide] at this; have := zz_ne c_19; rw [show (8 : Int32).toInt = 8 from by decide] at this; have := zz_ne c_21; rw [show (9 : Int32).toInt = 9 from by decide] at this; omega) (by decide) ?_
    have zc_2 := c_2
    rw [← Int32.toInt_inj] at zc_2
    try rw [show (0 : Int32).toInt = 0 from by decide] at zc_2
    have zc_4 := c_4
    rw [← Int32.toInt_inj] at zc_4
    try rw [show (1 : Int32).toInt = 1 from by decide] at zc_4
    have zc_7 := c_7
    rw [← Int32.toInt_inj] at zc_7
    try rw [show (2 : Int32).toInt = 2 from by decide] at zc_7
    have zc_9 := c_9
    rw [← Int32.toInt_inj] at zc_9
    try rw [show (3 : Int32).toInt = 3 from by decide] at zc_9
    have zc_11 := c_11
    rw [← Int32.toInt_inj] at zc_11
    try rw [show (4 : Int32).toInt = 4 from by decide] at zc_11
    have zc_13 := c_13
    rw [← Int32.toInt_inj] at zc_13
    try rw [show (5 : Int32).toInt = 5 from by decide] at zc_13
    have zc_15 := c_15
    rw [← Int32.toInt_inj] at zc_15
    try rw [show (6 : Int32).toInt = 6 from by decide] at zc_15
    have zc_17 := c_17
    rw [← Int32.toInt_inj] at zc_17
    try rw [show (7 : Int32).toInt = 7 from by decide] at zc_17
    have zc_19 := c_19
    rw [← Int32.toInt_inj] at zc_19
    try rw [show (8 : Int32).toInt = 8 from by decide] at zc_19
    have zc_21 := c_21
    rw [← Int32.toInt_inj] at zc_21
    try rw [show (9 : Int32).toInt = 9 from by decide] at zc_21
    refine lv_ldc (v := (-1000000)) hx hb hown (hw _ tw_91) dX7_houseOf_130 ?_
    exact W.iret (v := (-1000000)) hx hb hr (fun t ht hW => ⟨⟨(-1000000), (), rfl, trivial, trivial⟩, hS.F ht⟩) hS.2.2 dX7_houseOf_132

set_option maxHeartbeats 4000000 in
set_option maxRecDepth 100000 in
theorem k_fieldOf (l : Launch) (dC : Nat → ClassId) (dI : Nat → Nat → Nat) (a : Nat → Nat) (nh : Nat) (nf : Nat) (clk : Int32) (hi : Int32) (cF : ClassId) (fF : Nat → Option Nat) (V : Nat → Nat → Int32) (p0 : Int32) (p1 : Int32) (L : List Nat) (K : Nat → Nat) (sz : Nat) (hc8 : nh ≤ 8) (hf12 : nf ≤ 12) (hfF : ∀ k, k < 12 → fF k = some (a (11 + k))) (hF : ∀ k, k < 12 → a (11 + k) ∈ L ∧ K (a (11 + k)) = 3) : Met l yX7_fieldOf (zz_w yX7_fieldOf cX7_fieldOf 4 (some .int)) ({ frames := 2, cells := 0, slots := 0, locals := 43 }) (va_Pc [.ref (a 0), .int p0, .int p1] (zz_B (dC, dI) sz (([(a 0, .inr (7, [.ref (a 1), .ref (a 10), .ref (a 23), .ref (a 24), .ref (a 26), .ref (a 29), .ref (a 34), .ref (a 43), .int (nI nh), .int (nI nf), .int clk, .int hi])), (a 10, .inl (cF, 12, .inr (.inr (.inr (.inr fF)))))] : va_W) ++ va_pl L (zz_F K V)) [(cF, .object RX3)])) (va_Qi (fun (_ : Int32) (_ : Unit) => True) (fun _ _ => True) (va_A [] sz)) 0 0 (va_A [] sz) := by
  refine Met.ofW (cc := cX7_fieldOf) (maxL := 4) (ret := (some .int)) (by decide) rfl ?_
  intro p e s m args below meth c s₁ B hml hv
  obtain ⟨rfl, hsz, hP, hK, hD0, hN⟩ := hv
  have hx := B.exec
  have hb := B.bytes
  have hr := B.returns
  have hts := atoms_spec (ws := zz_w yX7_fieldOf cX7_fieldOf 4 (some .int)) B.pre
  have hw : ∀ w ∈ zz_all, w.before _ s = true := fun w h => hts w (List.mem_cons_of_mem _ h)
  have hown : s.vm.findClass RX7 = some m.cls := findClass_of_methodNamed B.named
  have hlocks := B.notSynchronized
  subst hsz
  have hD := hD0
  generalize hAe : va_A [] s.heap.size = A
  have hA : ∀ q : Nat, s.heap.size ≤ q → A q := fun q h => by rw [← hAe]; exact Or.inr h
  have hS : va_S A s.heap s.heap [] := va_S.rf
  have hP : va_P (dC, dI) vwCl (([(a 0, .inr (7, [.ref (a 1), .ref (a 10), .ref (a 23), .ref (a 24), .ref (a 26), .ref (a 29), .ref (a 34), .ref (a 43), .int (nI nh), .int (nI nf), .int clk, .int hi])), (a 10, .inl (cF, 12, .inr (.inr (.inr (.inr fF)))))] : va_W) ++ va_pl L (zz_F K V)) s.heap := hP
  have hl := lv_entry ([.ref (a 0), .int p0, .int p1]) (n := 4) (Nat.le_of_ble_eq_true rfl)
  rw [lg_entry_eq]
  generalize (lg_sl ([.ref (a 0), .int p0, .int p1]) ++ List.replicate (4 - (lg_sl ([.ref (a 0), .int p0, .int p1])).length) Slot.unset).toArray = ls at hl ⊢
  have hl : lv_has ls 4 [(0, .ref (a 0)), (1, .int p0), (2, .int p1)] := hl
  refine lv_aload_n hx hb dX7_fieldOf_0 rfl (lv_at hl 0 rfl) ?_
  refine lv_iload_n hx hb dX7_fieldOf_1 rfl (lv_at hl 1 rfl) ?_
  have hPc := hP.sub (ws' := [(a 0, .inr (7, [.ref (a 1), .ref (a 10), .ref (a 23), .ref (a 24), .ref (a 26), .ref (a 29), .ref (a 34), .ref (a 43), .int (nI nh), .int (nI nf), .int clk, .int hi])), (a 10, .inl (cF, 12, .inr (.inr (.inr (.inr fF)))))]) [0, 1] rfl
  have hDc := hD.sub (ws' := [(a 0, .inr (7, [.ref (a 1), .ref (a 10), .ref (a 23), .ref (a 24), .ref (a 26), .ref (a 29), .ref (a 34), .ref (a 43), .int (nI nh), .int (nI nf), .int clk, .int hi])), (a 10, .inl (cF, 12, .inr (.inr (.inr (.inr fF)))))]) [0, 1] (by decide) rfl
  have hKc := hK.sub (tys' := [(cF, .object RX3)]) [0] rfl
  have hFc := zz_free0 hS hA
  refine va_callq (va_runV (As := [.int p0]) (rest := []) ⟨hx, hb, hml, hown, hw⟩ (k_fieldAt l dC dI a nh nf clk hi cF fF p0 s.heap.size (by omega) (by omega) hfF) ⟨callB_of 1 hw (zz_good tw_52) rfl rfl rfl (hw _ tw_2) (hw _ tw_53) (by decide +kernel) ⟨Nat.le_of_ble_eq_true rfl, Nat.le_of_ble_eq_true rfl⟩, (hw _ tw_54), (hw _ tw_55)⟩ ⟨zz_blind, va_recv hKc hPc (ci := 7) (q0 := 0) rfl rfl, zz_pre hPc hKc hDc hN⟩ rfl rfl hl.1 rfl (lv_room (Nat.le_of_ble_eq_true rfl)) dX7_fieldOf_2 ⟨Nat.le_of_ble_eq_true rfl, Nat.le_of_ble_eq_true rfl⟩) hS (fun q _ h => hFc q h) hFc (fun r_1 u_1 t H1 locs ht hvm e_1 hB hz1 hk1 hS => ?_)
  try dsimp only at e_1
  have hP := zz_keep hP hk1
  clear hk1 hB ht hvm
  generalize H1 = H at hP hS ⊢
  rcases e_1 with ⟨er_1, nk_1⟩ | ⟨er_1, nk_1⟩
  · refine zz_setv (.null) (congrArg va_rf er_1) ?_
    refine lv_astore_nN (lv' := [(3, .null), (0, .ref (a 0)), (1, .int p0), (2, .int p1)]) hx hb dX7_fieldOf_5 rfl hl (by decide) rfl (fun ls hl => ?_)
    refine lv_aload_nN hx hb dX7_fieldOf_6 rfl (lv_at hl 0 rfl) ?_
    refine lv_ifnonnullN hx hb dX7_fieldOf_7 ?_
    refine lv_iconst (v := (-1)) hx hb dX7_fieldOf_10 (by decide) ?_
    exact W.iret (v := (-1)) hx hb hr (fun t ht hW => ⟨⟨(-1), (), rfl, trivial, trivial⟩, hS.F ht⟩) hS.2.2 dX7_fieldOf_11
  · refine zz_setv (.ref (a (11 + (Int32.toNatClampNeg p0)))) (congrArg va_rf er_1) ?_
    refine lv_astore_n (lv' := [(3, .ref (a (11 + (Int32.toNatClampNeg p0)))), (0, .ref (a 0)), (1, .int p0), (2, .int p1)]) hx hb dX7_fieldOf_5 rfl hl (by decide) rfl (fun ls hl => ?_)
    refine lv_aload_n hx hb dX7_fieldOf_6 rfl (lv_at hl 0 rfl) ?_
    refine lv_ifnonnull (tgt := 12) hx hb dX7_fieldOf_7 (by decide) ?_
    refine lv_iload_n hx hb dX7_fieldOf_12 rfl (lv_at hl 3 rfl) ?_
    by_cases c_2 : p1 = 0
    · have zc_2 := c_2
      rw [← Int32.toInt_inj] at zc_2
      try rw [show (0 : Int32).toInt = 0 from by decide] at zc_2
      refine lv_tableIn (tgt := 56) hx hb dX7_fieldOf_13 (by rw [c_2]; decide) (by rw [c_2]; decide) (by rw [c_2]; rfl) (by decide) ?_
      refine lv_aload_n hx hb dX7_fieldOf_56 rfl (lv_at hl 0 rfl) ?_
      obtain ⟨kq_3, hq_3⟩ := zz_pg3 (X := [(a 0, .inr (7, [.ref (a 1), .ref (a 10), .ref (a 23), .ref (a 24), .ref (a 26), .ref (a 29), .ref (a 34), .ref (a 43), .int (nI nh), .int (nI nf), .int clk, .int hi])), (a 10, .inl (cF, 12, .inr (.inr (.inr (.inr fF)))))]) (V := V) (hF (Int32.toNatClampNeg p0) (zz_lt nk_1 hf12 (by omega))).1 (hF (Int32.toNatClampNeg p0) (zz_lt nk_1 hf12 (by omega))).2
      have hDo := hD
      refine va_getN (D := (dC, dI)) (ci := 3) (v := .int (V (a (11 + (Int32.toNatClampNeg p0))) 0)) (C := RX3) (T := TX3) (N := 7) hx hb hw zz_inX3 hown hK hP kq_3 hq_3 rfl 0 (by decide) (hN.use zz_n11) (fun _ h9 => h9) rfl dX7_fieldOf_57 ?_
      exact W.iret (v := (V (a (11 + (Int32.toNatClampNeg p0))) 0)) hx hb hr (fun t ht hW => ⟨⟨(V (a (11 + (Int32.toNatClampNeg p0))) 0), (), rfl, trivial, trivial⟩, hS.F ht⟩) hS.2.2 dX7_fieldOf_60
    by_cases c_4 : p1 = 1
    · have zc_4 := c_4
      rw [← Int32.toInt_inj] at zc_4
      try rw [show (1 : Int32).toInt = 1 from by decide] at zc_4
      refine lv_tableIn (tgt := 61) hx hb dX7_fieldOf_13 (by rw [c_4]; decide) (by rw [c_4]; decide) (by rw [c_4]; rfl) (by decide) ?_
      refine lv_aload_n hx hb dX7_fieldOf_61 rfl (lv_at hl 0 rfl) ?_
      obtain ⟨kq_5, hq_5⟩ := zz_pg3 (X := [(a 0, .inr (7, [.ref (a 1), .ref (a 10), .ref (a 23), .ref (a 24), .ref (a 26), .ref (a 29), .ref (a 34), .ref (a 43), .int (nI nh), .int (nI nf), .int clk, .int hi])), (a 10, .inl (cF, 12, .inr (.inr (.inr (.inr fF)))))]) (V := V) (hF (Int32.toNatClampNeg p0) (zz_lt nk_1 hf12 (by omega))).1 (hF (Int32.toNatClampNeg p0) (zz_lt nk_1 hf12 (by omega))).2
      have hDo := hD
      refine va_getN (D := (dC, dI)) (ci := 3) (v := .int (V (a (11 + (Int32.toNatClampNeg p0))) 1)) (C := RX3) (T := TX3) (N := 7) hx hb hw zz_inX3 hown hK hP kq_5 hq_5 rfl 1 (by decide) (hN.use zz_n12) (fun _ h9 => h9) rfl dX7_fieldOf_62 ?_
      exact W.iret (v := (V (a (11 + (Int32.toNatClampNeg p0))) 1)) hx hb hr (fun t ht hW => ⟨⟨(V (a (11 + (Int32.toNatClampNeg p0))) 1), (), rfl, trivial, trivial⟩, hS.F ht⟩) hS.2.2 dX7_fieldOf_65
    by_cases c_6 : p1 = 2
    · have zc_6 := c_6
      rw [← Int32.toInt_inj] at zc_6
      try rw [show (2 : Int32).toInt = 2 from by decide] at zc_6
      refine lv_tableIn (tgt := 66) hx hb dX7_fieldOf_13 (by rw [c_6]; decide) (by rw [c_6]; decide) (by rw [c_6]; rfl) (by decide) ?_
      refine lv_aload_n hx hb dX7_fieldOf_66 rfl (lv_at hl 0 rfl) ?_
      obtain ⟨kq_7, hq_7⟩ := zz_pg3 (X := [(a 0, .inr (7, [.ref (a 1), .ref (a 10), .ref (a 23), .ref (a 24), .ref (a 26), .ref (a 29), .ref (a 34), .ref (a 43), .int (nI nh), .int (nI nf), .int clk, .int hi])), (a 10, .inl (cF, 12, .inr (.inr (.inr (.inr fF)))))]) (V := V) (hF (Int32.toNatClampNeg p0) (zz_lt nk_1 hf12 (by omega))).1 (hF (Int32.toNatClampNeg p0) (zz_lt nk_1 hf12 (by omega))).2
      have hDo := hD
      refine va_getN (D := (dC, dI)) (ci := 3) (v := .int (V (a (11 + (Int32.toNatClampNeg p0))) 2)) (C := RX3) (T := TX3) (N := 7) hx hb hw zz_inX3 hown hK hP kq_7 hq_7 rfl 2 (by decide) (hN.use zz_n13) (fun _ h9 => h9) rfl dX7_fieldOf_67 ?_
      exact W.iret (v := (V (a (11 + (Int32.toNatClampNeg p0))) 2)) hx hb hr (fun t ht hW => ⟨⟨(V (a (11 + (Int32.toNatClampNeg p0))) 2), (), rfl, trivial, trivial⟩, hS.F ht⟩) hS.2.2 dX7_fieldOf_70
    by_cases c_8 : p1 = 3
    · have zc_8 := c_8
      rw [← Int32.toInt_inj] at zc_8
      try rw [show (3 : Int32).toInt = 3 from by decide] at zc_8
      refine lv_tableIn (tgt := 71) hx hb dX7_fieldOf_13 (by rw [c_8]; decide) (by rw [c_8]; decide) (by rw [c_8]; rfl) (by decide) ?_
      refine lv_aload_n hx hb dX7_fieldOf_71 rfl (lv_at hl 0 rfl) ?_
      obtain ⟨kq_9, hq_9⟩ := zz_pg3 (X := [(a 0, .inr (7, [.ref (a 1), .ref (a 10), .ref (a 23), .ref (a 24), .ref (a 26), .ref (a 29), .ref (a 34), .ref (a 43), .int (nI nh), .int (nI nf), .int clk, .int hi])), (a 10, .inl (cF, 12, .inr (.inr (.inr (.inr fF)))))]) (V := V) (hF (Int32.toNatClampNeg p0) (zz_lt nk_1 hf12 (by omega))).1 (hF (Int32.toNatClampNeg p0) (zz_lt nk_1 hf12 (by omega))).2
      have hDo := hD
      refine va_getN (D := (dC, dI)) (ci := 3) (v := .int (V (a (11 + (Int32.toNatClampNeg p0))) 3)) (C := RX3) (T := TX3) (N := 7) hx hb hw zz_inX3 hown hK hP kq_9 hq_9 rfl 3 (by decide) (hN.use zz_n16) (fun _ h9 => h9) rfl dX7_fieldOf_72 ?_
      exact W.iret (v := (V (a (11 + (Int32.toNatClampNeg p0))) 3)) hx hb hr (fun t ht hW => ⟨⟨(V (a (11 + (Int32.toNatClampNeg p0))) 3), (), rfl, trivial, trivial⟩, hS.F ht⟩) hS.2.2 dX7_fieldOf_75
    by_cases c_10 : p1 = 4
    · have zc_10 := c_10
      rw [← Int32.toInt_inj] at zc_10
      try rw [show (4 : Int32).toInt = 4 from by decide] at zc_10
      refine lv_tableIn (tgt := 76) hx hb dX7_fieldOf_13 (by rw [c_10]; decide) (by rw [c_10]; decide) (by rw [c_10]; rfl) (by decide) ?_
      refine lv_aload_n hx hb dX7_fieldOf_76 rfl (lv_at hl 0 rfl) ?_
      obtain ⟨kq_11, hq_11⟩ := zz_pg3 (X := [(a 0, .inr (7, [.ref (a 1), .ref (a 10), .ref (a 23), .ref (a 24), .ref (a 26), .ref (a 29), .ref (a 34), .ref (a 43), .int (nI nh), .int (nI nf), .int clk, .int hi])), (a 10, .inl (cF, 12, .inr (.inr (.inr (.inr fF)))))]) (V := V) (hF (Int32.toNatClampNeg p0) (zz_lt nk_1 hf12 (by omega))).1 (hF (Int32.toNatClampNeg p0) (zz_lt nk_1 hf12 (by omega))).2
      have hDo := hD
      refine va_getN (D := (dC, dI)) (ci := 3) (v := .int (V (a (11 + (Int32.toNatClampNeg p0))) 4)) (C := RX3) (T := TX3) (N := 7) hx hb hw zz_inX3 hown hK hP kq_11 hq_11 rfl 4 (by decide) (hN.use zz_n17) (fun _ h9 => h9) rfl dX7_fieldOf_77 ?_
      exact W.iret (v := (V (a (11 + (Int32.toNatClampNeg p0))) 4)) hx hb hr (fun t ht hW => ⟨⟨(V (a (11 + (Int32.toNatClampNeg p0))) 4), (), rfl, trivial, trivial⟩, hS.F ht⟩) hS.2.2 dX7_fieldOf_80
    by_cases c_12 : p1 = 5
    · have zc_12 := c_12
      rw [← Int32.toInt_inj] at zc_12
      try rw [show (5 : Int32).toInt = 5 from by decide] at zc_12
      refine lv_tableIn (tgt := 81) hx hb dX7_fieldOf_13 (by rw [c_12]; decide) (by rw [c_12]; decide) (by rw [c_12]; rfl) (by decide) ?_
      refine lv_aload_n hx hb dX7_fieldOf_81 rfl (lv_at hl 0 rfl) ?_
      obtain ⟨kq_13, hq_13⟩ := zz_pg3 (X := [(a 0, .inr (7, [.ref (a 1), .ref (a 10), .ref (a 23), .ref (a 24), .ref (a 26), .ref (a 29), .ref (a 34), .ref (a 43), .int (nI nh), .int (nI nf), .int clk, .int hi])), (a 10, .inl (cF, 12, .inr (.inr (.inr (.inr fF)))))]) (V := V) (hF (Int32.toNatClampNeg p0) (zz_lt nk_1 hf12 (by omega))).1 (hF (Int32.toNatClampNeg p0) (zz_lt nk_1 hf12 (by omega))).2
      have hDo := hD
      refine va_getN (D := (dC, dI)) (ci := 3) (v := .int (V (a (11 + (Int32.toNatClampNeg p0))) 5)) (C := RX3) (T := TX3) (N := 7) hx hb hw zz_inX3 hown hK hP kq_13 hq_13 rfl 5 (by decide) (hN.use zz_n19) (fun _ h9 => h9) rfl dX7_fieldOf_82 ?_
      exact W.iret (v := (V (a (11 + (Int32.toNatClampNeg p0))) 5)) hx hb hr (fun t ht hW => ⟨⟨(V (a (11 + (Int32.toNatClampNeg p0))) 5), (), rfl, trivial, trivial⟩, hS.F ht⟩) hS.2.2 dX7_fieldOf_85
    by_cases c_14 : p1 = 6
    · have zc_14 := c_14
      rw [← Int32.toInt_inj] at zc_14
      try rw [show (6 : Int32).toInt = 6 from by decide] at zc_14
      refine lv_tableIn (tgt := 86) hx hb dX7_fieldOf_13 (by rw [c_14]; decide) (by rw [c_14]; decide) (by rw [c_14]; rfl) (by decide) ?_
      refine lv_aload_n hx hb dX7_fieldOf_86 rfl (lv_at hl 0 rfl) ?_
      obtain ⟨kq_15, hq_15⟩ := zz_pg3 (X := [(a 0, .inr (7, [.ref (a 1), .ref (a 10), .ref (a 23), .ref (a 24), .ref (a 26), .ref (a 29), .ref (a 34), .ref (a 43), .int (nI nh), .int (nI nf), .int clk, .int hi])), (a 10, .inl (cF, 12, .inr (.inr (.inr (.inr fF)))))]) (V := V) (hF (Int32.toNatClampNeg p0) (zz_lt nk_1 hf12 (by omega))).1 (hF (Int32.toNatClampNeg p0) (zz_lt nk_1 hf12 (by omega))).2
      have hDo := hD
      refine va_getN (D := (dC, dI)) (ci := 3) (v := .int (V (a (11 + (Int32.toNatClampNeg p0))) 6)) (C := RX3) (T := TX3) (N := 7) hx hb hw zz_inX3 hown hK hP kq_15 hq_15 rfl 6 (by decide) (hN.use zz_n20) (fun _ h9 => h9) rfl dX7_fieldOf_87 ?_
      exact W.iret (v := (V (a (11 + (Int32.toNatClampNeg p0))) 6)) hx hb hr (fun t ht hW => ⟨⟨(V (a (11 + (Int32.toNatClampNeg p0))) 6), (), rfl, trivial, trivial⟩, hS.F ht⟩) hS.2.2 dX7_fieldOf_90
    refine lv_tableOut (tgt := 91) hx hb dX7_fieldOf_13 (by have := zz_ne c_2; rw [show (0 : Int32).toInt = 0 from by decide] at this; have := zz_ne c_4; rw [show (1 : Int32).toInt = 1 from by decide] at this; have := zz_ne c_6; rw [show (2 : Int32).toInt = 2 from by decide] at this; have := zz_ne c_8; rw [show (3 : Int32).toInt = 3 from by decide] at this; have := zz_ne c_10; rw [show (4 : Int32).toInt = 4 from by decide] at this; have := zz_ne c_12; rw [show (5 : Int32).toInt = 5 from by decide] at this; have := zz_ne c_14; rw [show (6 : Int32).toInt = 6 from by decide] at this; omega) (by decide) ?_
    have zc_2 := c_2
    rw [← Int32.toInt_inj] at zc_2
    try rw [show (0 : Int32).toInt = 0 from by decide] at zc_2
    have zc_4 := c_4
    rw [← Int32.toInt_inj] at zc_4
    try rw [show (1 : Int32).toInt = 1 from by decide] at zc_4
    have zc_6 := c_6
    rw [← Int32.toInt_inj] at zc_6
    try rw [show (2 : Int32).toInt = 2 from by decide] at zc_6
    have zc_8 := c_8
    rw [← Int32.toInt_inj] at zc_8
    try rw [show (3 : Int32).toInt = 3 from by decide] at zc_8
    have zc_10 := c_10
    rw [← Int32.toInt_inj] at zc_10
    try rw [show (4 : Int32).toInt = 4 from by decide] at zc_10
    have zc_12 := c_12
    rw [← Int32.toInt_inj] at zc_12
    try rw [show (5 : Int32).toInt = 5 from by decide] at zc_12
    have zc_14 := c_14
    rw [← Int32.toInt_inj] at zc_14
    try rw [show (6 : Int32).toInt = 6 from by decide] at zc_14
    refine lv_iconst (v := (-1)) hx hb dX7_fieldOf_91 (by decide) ?_
    exact W.iret (v := (-1)) hx hb hr (fun t ht hW => ⟨⟨(-1), (), rfl, trivial, trivial⟩, hS.F ht⟩) hS.2.2 dX7_fieldOf_92

set_option maxHeartbeats 4000000 in
set_option maxRecDepth 100000 in
theorem k_even (l : Launch) (dC : Nat → ClassId) (dI : Nat → Nat → Nat) (a : Nat → Nat) (nh : Nat) (nf : Nat) (clk : Int32) (hi : Int32) (nd : Nat) (sz : Nat) : Met l yX7_even (zz_w yX7_even cX7_even 2 (some .int)) ({ frames := 0, cells := 0, slots := 0, locals := 0 }) (va_Pc [.ref (a 0)] (zz_B (dC, dI) sz [(a 0, .inr (7, [.ref (a 1), .ref (a 10), .ref (a 23), .ref (a 24), .ref (a 26), .ref (a 29), .ref (a 34), .ref (a 43), .int (nI nh), .int (nI nf), .int clk, .int hi])), (a 29, .inr (1, [.ref (a 30), .ref (a 31), .ref (a 32), .ref (a 33), .int (nI nd)]))] [])) (va_Qi (fun (_ : Int32) (md : Nat) => md ≤ 300) (fun (u0 : Nat) (t : State) => va_P (dC, dI) vwCl [(a 0, .inr (7, [.ref (a 1), .ref (a 10), .ref (a 23), .ref (a 24), .ref (a 26), .ref (a 29), .ref (a 34), .ref (a 43), .int (nI nh), .int (nI nf), .int clk, .int hi])), (a 29, .inr (1, [.ref (a 30), .ref (a 31), .ref (a 32), .ref (a 33), .int (nI u0)]))] t.heap ∧ va_K (dC, dI) vwCl [] t ∧ va_D (va_A [(a 0, .inr (7, [.ref (a 1), .ref (a 10), .ref (a 23), .ref (a 24), .ref (a 26), .ref (a 29), .ref (a 34), .ref (a 43), .int (nI nh), .int (nI nf), .int clk, .int hi])), (a 29, .inr (1, [.ref (a 30), .ref (a 31), .ref (a 32), .ref (a 33), .int (nI nd)]))] sz) [(a 0, .inr (7, [.ref (a 1), .ref (a 10), .ref (a 23), .ref (a 24), .ref (a 26), .ref (a 29), .ref (a 34), .ref (a 43), .int (nI nh), .int (nI nf), .int clk, .int hi])), (a 29, .inr (1, [.ref (a 30), .ref (a 31), .ref (a 32), .ref (a 33), .int (nI u0)]))]) (va_A [(a 0, .inr (7, [.ref (a 1), .ref (a 10), .ref (a 23), .ref (a 24), .ref (a 26), .ref (a 29), .ref (a 34), .ref (a 43), .int (nI nh), .int (nI nf), .int clk, .int hi])), (a 29, .inr (1, [.ref (a 30), .ref (a 31), .ref (a 32), .ref (a 33), .int (nI nd)]))] sz)) 0 0 (va_A [(a 0, .inr (7, [.ref (a 1), .ref (a 10), .ref (a 23), .ref (a 24), .ref (a 26), .ref (a 29), .ref (a 34), .ref (a 43), .int (nI nh), .int (nI nf), .int clk, .int hi])), (a 29, .inr (1, [.ref (a 30), .ref (a 31), .ref (a 32), .ref (a 33), .int (nI nd)]))] sz) := by
  refine Met.ofW (cc := cX7_even) (maxL := 2) (ret := (some .int)) (by decide) rfl ?_
  intro p e s m args below meth c s₁ B hml hv
  obtain ⟨rfl, hsz, hP, hK, hD0, hN⟩ := hv
  have hx := B.exec
  have hb := B.bytes
  have hr := B.returns
  have hts := atoms_spec (ws := zz_w yX7_even cX7_even 2 (some .int)) B.pre
  have hw : ∀ w ∈ zz_all, w.before _ s = true := fun w h => hts w (List.mem_cons_of_mem _ h)
  have hown : s.vm.findClass RX7 = some m.cls := findClass_of_methodNamed B.named
  have hlocks := B.notSynchronized
  subst hsz
  have hD := hD0.self (sz := s.heap.size)
  generalize hAe : va_A [(a 0, .inr (7, [.ref (a 1), .ref (a 10), .ref (a 23), .ref (a 24), .ref (a 26), .ref (a 29), .ref (a 34), .ref (a 43), .int (nI nh), .int (nI nf), .int clk, .int hi])), (a 29, .inr (1, [.ref (a 30), .ref (a 31), .ref (a 32), .ref (a 33), .int (nI nd)]))] s.heap.size = A at hD ⊢
  have hA : ∀ q : Nat, s.heap.size ≤ q → A q := fun q h => by rw [← hAe]; exact Or.inr h
  have hS : va_S A s.heap s.heap [] := va_S.rf
  have hP : va_P (dC, dI) vwCl [(a 0, .inr (7, [.ref (a 1), .ref (a 10), .ref (a 23), .ref (a 24), .ref (a 26), .ref (a 29), .ref (a 34), .ref (a 43), .int (nI nh), .int (nI nf), .int clk, .int hi])), (a 29, .inr (1, [.ref (a 30), .ref (a 31), .ref (a 32), .ref (a 33), .int (nI nd)]))] s.heap := hP
  have hl := lv_entry ([.ref (a 0)]) (n := 2) (Nat.le_of_ble_eq_true rfl)
  rw [lg_entry_eq]
  generalize (lg_sl ([.ref (a 0)]) ++ List.replicate (2 - (lg_sl ([.ref (a 0)])).length) Slot.unset).toArray = ls at hl ⊢
  have hl : lv_has ls 2 [(0, .ref (a 0))] := hl
  refine lv_aload_n hx hb dX7_even_0 rfl (lv_at hl 0 rfl) ?_
  refine va_get (D := (dC, dI)) (ci := 7) (v := .ref (a 29)) (C := RX7) (T := TX7) (N := 12) hx hb hw zz_inX7 hown hK hP 0 rfl rfl 5 (by decide) (hw _ tw_44) (fun _ h9 => h9) rfl dX7_even_1 ?_
  refine va_getN (D := (dC, dI)) (ci := 1) (v := .int (nI nd)) (C := RX1) (T := TX1) (N := 5) hx hb hw zz_inX1 hown hK hP 1 rfl rfl 4 (by decide) (hN.use zz_n37) (fun _ h9 => h9) rfl dX7_even_4 ?_
  refine lv_istore_n (lv' := [(1, .int (nI nd)), (0, .ref (a 0))]) hx hb dX7_even_7 rfl hl (by decide) rfl (fun ls hl => ?_)
  refine lv_aload_n hx hb dX7_even_8 rfl (lv_at hl 1 rfl) ?_
  refine va_get (D := (dC, dI)) (ci := 7) (v := .ref (a 29)) (C := RX7) (T := TX7) (N := 12) hx hb hw zz_inX7 hown hK hP 0 rfl rfl 5 (by decide) (hw _ tw_44) (fun _ h9 => h9) rfl dX7_even_9 ?_
  refine lv_iconst (v := 0) hx hb dX7_even_12 (by decide) ?_
  refine va_putN (D := (dC, dI)) (ci := 1) (v := .int 0) (ty := .int) (C := RX1) (T := TX1) (N := 5) hx hb hw zz_inX1 tyX1 tyX1_ok nmX1 hown hK hP hD hS 1 rfl rfl 4 (by decide) (hN.use zz_n37) (fun _ h9 => h9) rfl (by decide +kernel) rfl rfl (Nat.le_of_ble_eq_true rfl) dX7_even_13 (fun H locs hP hD hS => ?_)
  have hP : va_P (dC, dI) vwCl [(a 0, .inr (7, [.ref (a 1), .ref (a 10), .ref (a 23), .ref (a 24), .ref (a 26), .ref (a 29), .ref (a 34), .ref (a 43), .int (nI nh), .int (nI nf), .int clk, .int hi])), (a 29, .inr (1, [.ref (a 30), .ref (a 31), .ref (a 32), .ref (a 33), .int 0]))] H := hP
  have hD : va_D A [(a 0, .inr (7, [.ref (a 1), .ref (a 10), .ref (a 23), .ref (a 24), .ref (a 26), .ref (a 29), .ref (a 34), .ref (a 43), .int (nI nh), .int (nI nf), .int clk, .int hi])), (a 29, .inr (1, [.ref (a 30), .ref (a 31), .ref (a 32), .ref (a 33), .int 0]))] := hD
  refine lv_iload_n hx hb dX7_even_16 rfl (lv_at hl 0 rfl) ?_
  have hP9 := hP.sub (ws' := [(a 0, .inr (7, [.ref (a 1), .ref (a 10), .ref (a 23), .ref (a 24), .ref (a 26), .ref (a 29), .ref (a 34), .ref (a 43), .int (nI nh), .int (nI nf), .int clk, .int hi])), (a 29, .inr (1, [.ref (a 30), .ref (a 31), .ref (a 32), .ref (a 33), .int 0]))]) [0, 1] rfl
  have hD9 := hD.sub (ws' := [(a 0, .inr (7, [.ref (a 1), .ref (a 10), .ref (a 23), .ref (a 24), .ref (a 26), .ref (a 29), .ref (a 34), .ref (a 43), .int (nI nh), .int (nI nf), .int clk, .int hi])), (a 29, .inr (1, [.ref (a 30), .ref (a 31), .ref (a 32), .ref (a 33), .int 0]))]) [0, 1] (by decide) rfl
  have hK9 := hK.sub (tys' := []) [] rfl
  exact W.iret (v := (nI nd)) hx hb hr (fun t ht hW => ⟨⟨(nI nd), (0), rfl, (by show _ ≤ _; omega), by rw [ht]; exact hP9, va_K.moved hW.alike hK9, hD9⟩, hS.F ht⟩) hS.2.2 dX7_even_17

set_option maxHeartbeats 4000000 in
set_option maxRecDepth 100000 in
theorem k_loss (l : Launch) (dC : Nat → ClassId) (dI : Nat → Nat → Nat) (a : Nat → Nat) (nh : Nat) (nf : Nat) (clk : Int32) (hi : Int32) (cI : ClassId) (fl : Nat → Int32) (p0 : Int32) (p1 : Int32) (sz : Nat) : Met l yX7_loss (zz_w yX7_loss cX7_loss 3 (some .boolean)) ({ frames := 1, cells := 0, slots := 0, locals := 22 }) (va_Pc [.ref (a 0), .int p0, .int p1] (zz_B (dC, dI) sz [(a 0, .inr (7, [.ref (a 1), .ref (a 10), .ref (a 23), .ref (a 24), .ref (a 26), .ref (a 29), .ref (a 34), .ref (a 43), .int (nI nh), .int (nI nf), .int clk, .int hi])), (a 23, .inl (cI, 10, .inl fl))] [(cI, .int)])) (va_Qi (fun (r : Int32) (_ : Nat → Int32) => (((0 ≤ p0.toInt ∧ p0.toInt ≤ 9) ∧ (0 ≤ p1.toInt ∧ p1.toInt ≤ 100)) ∧ r = 1) ∨ (¬ ((0 ≤ p0.toInt ∧ p0.toInt ≤ 9) ∧ (0 ≤ p1.toInt ∧ p1.toInt ≤ 100)) ∧ r = 0)) (fun (u0 : Nat → Int32) (t : State) => va_P (dC, dI) vwCl [(a 0, .inr (7, [.ref (a 1), .ref (a 10), .ref (a 23), .ref (a 24), .ref (a 26), .ref (a 29), .ref (a 34), .ref (a 43), .int (nI nh), .int (nI nf), .int clk, .int hi])), (a 23, .inl (cI, 10, .inl u0))] t.heap ∧ va_K (dC, dI) vwCl [(cI, .int)] t ∧ va_D (va_A [(a 0, .inr (7, [.ref (a 1), .ref (a 10), .ref (a 23), .ref (a 24), .ref (a 26), .ref (a 29), .ref (a 34), .ref (a 43), .int (nI nh), .int (nI nf), .int clk, .int hi])), (a 23, .inl (cI, 10, .inl fl))] sz) [(a 0, .inr (7, [.ref (a 1), .ref (a 10), .ref (a 23), .ref (a 24), .ref (a 26), .ref (a 29), .ref (a 34), .ref (a 43), .int (nI nh), .int (nI nf), .int clk, .int hi])), (a 23, .inl (cI, 10, .inl u0))]) (va_A [(a 0, .inr (7, [.ref (a 1), .ref (a 10), .ref (a 23), .ref (a 24), .ref (a 26), .ref (a 29), .ref (a 34), .ref (a 43), .int (nI nh), .int (nI nf), .int clk, .int hi])), (a 23, .inl (cI, 10, .inl fl))] sz)) 0 0 (va_A [(a 0, .inr (7, [.ref (a 1), .ref (a 10), .ref (a 23), .ref (a 24), .ref (a 26), .ref (a 29), .ref (a 34), .ref (a 43), .int (nI nh), .int (nI nf), .int clk, .int hi])), (a 23, .inl (cI, 10, .inl fl))] sz) := by
  refine Met.ofW (cc := cX7_loss) (maxL := 3) (ret := (some .boolean)) (by decide) rfl ?_
  intro p e s m args below meth c s₁ B hml hv
  obtain ⟨rfl, hsz, hP, hK, hD0, hN⟩ := hv
  have hx := B.exec
  have hb := B.bytes
  have hr := B.returns
  have hts := atoms_spec (ws := zz_w yX7_loss cX7_loss 3 (some .boolean)) B.pre
  have hw : ∀ w ∈ zz_all, w.before _ s = true := fun w h => hts w (List.mem_cons_of_mem _ h)
  have hown : s.vm.findClass RX7 = some m.cls := findClass_of_methodNamed B.named
  have hlocks := B.notSynchronized
  subst hsz
  have hD := hD0.self (sz := s.heap.size)
  generalize hAe : va_A [(a 0, .inr (7, [.ref (a 1), .ref (a 10), .ref (a 23), .ref (a 24), .ref (a 26), .ref (a 29), .ref (a 34), .ref (a 43), .int (nI nh), .int (nI nf), .int clk, .int hi])), (a 23, .inl (cI, 10, .inl fl))] s.heap.size = A at hD ⊢
  have hA : ∀ q : Nat, s.heap.size ≤ q → A q := fun q h => by rw [← hAe]; exact Or.inr h
  have hS : va_S A s.heap s.heap [] := va_S.rf
  have hP : va_P (dC, dI) vwCl [(a 0, .inr (7, [.ref (a 1), .ref (a 10), .ref (a 23), .ref (a 24), .ref (a 26), .ref (a 29), .ref (a 34), .ref (a 43), .int (nI nh), .int (nI nf), .int clk, .int hi])), (a 23, .inl (cI, 10, .inl fl))] s.heap := hP
  have hl := lv_entry ([.ref (a 0), .int p0, .int p1]) (n := 3) (Nat.le_of_ble_eq_true rfl)
  rw [lg_entry_eq]
  generalize (lg_sl ([.ref (a 0), .int p0, .int p1]) ++ List.replicate (3 - (lg_sl ([.ref (a 0), .int p0, .int p1])).length) Slot.unset).toArray = ls at hl ⊢
  have hl : lv_has ls 3 [(0, .ref (a 0)), (1, .int p0), (2, .int p1)] := hl
  refine lv_iload_n hx hb dX7_loss_0 rfl (lv_at hl 1 rfl) ?_
  refine lv_iconst (v := 0) hx hb dX7_loss_1 (by decide) ?_
  refine lv_bipush (v := 9) hx hb dX7_loss_2 (by decide) ?_
  have hPc := hP.sub (ws' := []) [] rfl
  have hDc := hD.sub (ws' := []) [] (by decide) rfl
  have hKc := hK.sub (tys' := []) [] rfl
  have hFc := zz_free0 hS hA
  refine va_calli (va_runS (As := [.int p0, .int 0, .int 9]) (rest := []) ⟨hx, hb, hml, hown, hw⟩ (k_within l dC dI p0 0 9 s.heap.size) ⟨callB_of 3 hw (zz_good tw_1) rfl rfl rfl (hw _ tw_2) (hw _ tw_3) (by decide +kernel) ⟨Nat.le_of_ble_eq_true rfl, Nat.le_of_ble_eq_true rfl⟩, (hw _ tw_4)⟩ ⟨zz_blind, zz_pre hPc hKc hDc hN⟩ rfl rfl hl.1 rfl (lv_room (Nat.le_of_ble_eq_true rfl)) dX7_loss_4 ⟨Nat.le_of_ble_eq_true rfl, Nat.le_of_ble_eq_true rfl⟩) hS (fun q _ h => hFc q h) hFc (fun r_1 u_1 t H1 locs ht hvm e_1 hB hz1 hk1 hS => ?_)
  try dsimp only at e_1
  have hP := zz_keep hP hk1
  clear hk1 hB ht hvm
  generalize H1 = H at hP hS ⊢
  refine lv_if_eq (tgt := 20) hx hb dX7_loss_7 (by decide) (fun c_2 => ?_) (fun c_2 => ?_)
  · have zc_2 := c_2
    rw [e_1, zz_in0, Int32.le_iff_toInt_le, Int32.le_iff_toInt_le] at zc_2
    try rw [show (0 : Int32).toInt = 0 from by decide] at zc_2
    try rw [show (9 : Int32).toInt = 9 from by decide] at zc_2
    refine lv_iconst (v := 0) hx hb dX7_loss_20 (by decide) ?_
    have hP9 := hP.sub (ws' := [(a 0, .inr (7, [.ref (a 1), .ref (a 10), .ref (a 23), .ref (a 24), .ref (a 26), .ref (a 29), .ref (a 34), .ref (a 43), .int (nI nh), .int (nI nf), .int clk, .int hi])), (a 23, .inl (cI, 10, .inl fl))]) [0, 1] rfl
    have hD9 := hD.sub (ws' := [(a 0, .inr (7, [.ref (a 1), .ref (a 10), .ref (a 23), .ref (a 24), .ref (a 26), .ref (a 29), .ref (a 34), .ref (a 43), .int (nI nh), .int (nI nf), .int clk, .int hi])), (a 23, .inl (cI, 10, .inl fl))]) [0, 1] (by decide) rfl
    have hK9 := hK.sub (tys' := [(cI, .int)]) [0] rfl
    exact W.zret (v := 0) hx hb hr (rfl) (fun t ht hW => ⟨⟨0, (fl), rfl, (by first | exact Or.inl ⟨by omega, rfl⟩ | exact Or.inr ⟨by omega, rfl⟩), by rw [ht]; exact hP9, va_K.moved hW.alike hK9, hD9⟩, hS.F ht⟩) hS.2.2 dX7_loss_21
  · have zc_2 := c_2
    rw [e_1, zz_in0, Int32.le_iff_toInt_le, Int32.le_iff_toInt_le] at zc_2
    try rw [show (0 : Int32).toInt = 0 from by decide] at zc_2
    try rw [show (9 : Int32).toInt = 9 from by decide] at zc_2
    refine lv_iload_n hx hb dX7_loss_10 rfl (lv_at hl 2 rfl) ?_
    refine lv_iconst (v := 0) hx hb dX7_loss_11 (by decide) ?_
    refine lv_bipush (v := 100) hx hb dX7_loss_12 (by decide) ?_
    have hPc := hP.sub (ws' := []) [] rfl
    have hDc := hD.sub (ws' := []) [] (by decide) rfl
    have hKc := hK.sub (tys' := []) [] rfl
    have hFc := zz_free0 hS hA
    refine va_calli (va_runS (As := [.int p1, .int 0, .int 100]) (rest := []) ⟨hx, hb, hml, hown, hw⟩ (k_within l dC dI p1 0 100 H.size) ⟨callB_of 3 hw (zz_good tw_1) rfl rfl rfl (hw _ tw_2) (hw _ tw_3) (by decide +kernel) ⟨Nat.le_of_ble_eq_true rfl, Nat.le_of_ble_eq_true rfl⟩, (hw _ tw_4)⟩ ⟨zz_blind, zz_pre hPc hKc hDc hN⟩ rfl rfl hl.1 rfl (lv_room (Nat.le_of_ble_eq_true rfl)) dX7_loss_14 ⟨Nat.le_of_ble_eq_true rfl, Nat.le_of_ble_eq_true rfl⟩) hS (fun q _ h => hFc q h) hFc (fun r_3 u_3 t H1 locs ht hvm e_3 hB hz1 hk1 hS => ?_)
    try dsimp only at e_3
    have hP := zz_keep hP hk1
    clear hk1 hB ht hvm
    generalize H1 = H at hP hS ⊢
    refine lv_if_ne (tgt := 22) hx hb dX7_loss_17 (by decide) (fun c_4 => ?_) (fun c_4 => ?_)
    · have zc_4 := c_4
      rw [e_3, zz_in0, Int32.le_iff_toInt_le, Int32.le_iff_toInt_le] at zc_4
      try rw [show (0 : Int32).toInt = 0 from by decide] at zc_4
      try rw [show (100 : Int32).toInt = 100 from by decide] at zc_4
      refine lv_aload_n hx hb dX7_loss_22 rfl (lv_at hl 0 rfl) ?_
      refine va_get (D := (dC, dI)) (ci := 7) (v := .ref (a 23)) (C := RX7) (T := TX7) (N := 12) hx hb hw zz_inX7 hown hK hP 0 rfl rfl 2 (by decide) (hw _ tw_40) (fun _ h9 => h9) rfl dX7_loss_23 ?_
      refine lv_iload_n hx hb dX7_loss_26 rfl (lv_at hl 1 rfl) ?_
      refine lv_iload_n hx hb dX7_loss_27 rfl (lv_at hl 2 rfl) ?_
      refine va_iast hx hb hK hP hD hS 1 0 rfl rfl (vp_in_iff.mpr (by constructor <;> omega)) dX7_loss_28 (fun H locs hP hD hS => ?_)
      have hP : va_P (dC, dI) vwCl [(a 0, .inr (7, [.ref (a 1), .ref (a 10), .ref (a 23), .ref (a 24), .ref (a 26), .ref (a 29), .ref (a 34), .ref (a 43), .int (nI nh), .int (nI nf), .int clk, .int hi])), (a 23, .inl (cI, 10, .inl (upd fl (Int32.toNatClampNeg p0) p1)))] H := hP
      have hD : va_D A [(a 0, .inr (7, [.ref (a 1), .ref (a 10), .ref (a 23), .ref (a 24), .ref (a 26), .ref (a 29), .ref (a 34), .ref (a 43), .int (nI nh), .int (nI nf), .int clk, .int hi])), (a 23, .inl (cI, 10, .inl (upd fl (Int32.toNatClampNeg p0) p1)))] := hD
      refine lv_iconst (v := 1) hx hb dX7_loss_29 (by decide) ?_
      have hP9 := hP.sub (ws' := [(a 0, .inr (7, [.ref (a 1), .ref (a 10), .ref (a 23), .ref (a 24), .ref (a 26), .ref (a 29), .ref (a 34), .ref (a 43), .int (nI nh), .int (nI nf), .int clk, .int hi])), (a 23, .inl (cI, 10, .inl (upd fl (Int32.toNatClampNeg p0) p1)))]) [0, 1] rfl
      have hD9 := hD.sub (ws' := [(a 0, .inr (7, [.ref (a 1), .ref (a 10), .ref (a 23), .ref (a 24), .ref (a 26), .ref (a 29), .ref (a 34), .ref (a 43), .int (nI nh), .int (nI nf), .int clk, .int hi])), (a 23, .inl (cI, 10, .inl (upd fl (Int32.toNatClampNeg p0) p1)))]) [0, 1] (by decide) rfl
      have hK9 := hK.sub (tys' := [(cI, .int)]) [0] rfl
      exact W.zret (v := 1) hx hb hr (rfl) (fun t ht hW => ⟨⟨1, ((upd fl (Int32.toNatClampNeg p0) p1)), rfl, (by first | exact Or.inl ⟨by omega, rfl⟩ | exact Or.inr ⟨by omega, rfl⟩), by rw [ht]; exact hP9, va_K.moved hW.alike hK9, hD9⟩, hS.F ht⟩) hS.2.2 dX7_loss_30
    · have zc_4 := c_4
      rw [e_3, zz_in0, Int32.le_iff_toInt_le, Int32.le_iff_toInt_le] at zc_4
      try rw [show (0 : Int32).toInt = 0 from by decide] at zc_4
      try rw [show (100 : Int32).toInt = 100 from by decide] at zc_4
      refine lv_iconst (v := 0) hx hb dX7_loss_20 (by decide) ?_
      have hP9 := hP.sub (ws' := [(a 0, .inr (7, [.ref (a 1), .ref (a 10), .ref (a 23), .ref (a 24), .ref (a 26), .ref (a 29), .ref (a 34), .ref (a 43), .int (nI nh), .int (nI nf), .int clk, .int hi])), (a 23, .inl (cI, 10, .inl fl))]) [0, 1] rfl
      have hD9 := hD.sub (ws' := [(a 0, .inr (7, [.ref (a 1), .ref (a 10), .ref (a 23), .ref (a 24), .ref (a 26), .ref (a 29), .ref (a 34), .ref (a 43), .int (nI nh), .int (nI nf), .int clk, .int hi])), (a 23, .inl (cI, 10, .inl fl))]) [0, 1] (by decide) rfl
      have hK9 := hK.sub (tys' := [(cI, .int)]) [0] rfl
      exact W.zret (v := 0) hx hb hr (rfl) (fun t ht hW => ⟨⟨0, (fl), rfl, (by first | exact Or.inl ⟨by omega, rfl⟩ | exact Or.inr ⟨by omega, rfl⟩), by rw [ht]; exact hP9, va_K.moved hW.alike hK9, hD9⟩, hS.F ht⟩) hS.2.2 dX7_loss_21

set_option maxHeartbeats 4000000 in
set_option maxRecDepth 100000 in
theorem k_fault (l : Launch) (dC : Nat → ClassId) (dI : Nat → Nat → Nat) (a : Nat → Nat) (nh : Nat) (nf : Nat) (clk : Int32) (hi : Int32) (cu0 : Int32) (cu1 : Int32) (cu2 : Int32) (cu3 : Int32) (cu4 : Int32) (cu5 : Int32) (p0 : Int32) (sz : Nat) : Met l yX7_fault (zz_w yX7_fault cX7_fault 2 (some .int)) ({ frames := 0, cells := 0, slots := 0, locals := 0 }) (va_Pc [.ref (a 0), .int p0] (zz_B (dC, dI) sz [(a 0, .inr (7, [.ref (a 1), .ref (a 10), .ref (a 23), .ref (a 24), .ref (a 26), .ref (a 29), .ref (a 34), .ref (a 43), .int (nI nh), .int (nI nf), .int clk, .int hi])), (a 26, .inr (0, [.ref (a 27), .ref (a 28), .int cu0, .int cu1, .int cu2, .int cu3, .int cu4, .int cu5]))] [])) (va_Qi (fun (_ : Int32) (_ : Unit) => True) (fun _ _ => True) (va_A [] sz)) 0 0 (va_A [] sz) := by
  refine Met.ofW (cc := cX7_fault) (maxL := 2) (ret := (some .int)) (by decide) rfl ?_
  intro p e s m args below meth c s₁ B hml hv
  obtain ⟨rfl, hsz, hP, hK, hD0, hN⟩ := hv
  have hx := B.exec
  have hb := B.bytes
  have hr := B.returns
  have hts := atoms_spec (ws := zz_w yX7_fault cX7_fault 2 (some .int)) B.pre
  have hw : ∀ w ∈ zz_all, w.before _ s = true := fun w h => hts w (List.mem_cons_of_mem _ h)
  have hown : s.vm.findClass RX7 = some m.cls := findClass_of_methodNamed B.named
  have hlocks := B.notSynchronized
  subst hsz
  have hD := hD0
  generalize hAe : va_A [] s.heap.size = A
  have hA : ∀ q : Nat, s.heap.size ≤ q → A q := fun q h => by rw [← hAe]; exact Or.inr h
  have hS : va_S A s.heap s.heap [] := va_S.rf
  have hP : va_P (dC, dI) vwCl [(a 0, .inr (7, [.ref (a 1), .ref (a 10), .ref (a 23), .ref (a 24), .ref (a 26), .ref (a 29), .ref (a 34), .ref (a 43), .int (nI nh), .int (nI nf), .int clk, .int hi])), (a 26, .inr (0, [.ref (a 27), .ref (a 28), .int cu0, .int cu1, .int cu2, .int cu3, .int cu4, .int cu5]))] s.heap := hP
  have hl := lv_entry ([.ref (a 0), .int p0]) (n := 2) (Nat.le_of_ble_eq_true rfl)
  rw [lg_entry_eq]
  generalize (lg_sl ([.ref (a 0), .int p0]) ++ List.replicate (2 - (lg_sl ([.ref (a 0), .int p0])).length) Slot.unset).toArray = ls at hl ⊢
  have hl : lv_has ls 2 [(0, .ref (a 0)), (1, .int p0)] := hl
  refine lv_iload_n hx hb dX7_fault_0 rfl (lv_at hl 1 rfl) ?_
  by_cases c_1 : p0 = 0
  · have zc_1 := c_1
    rw [← Int32.toInt_inj] at zc_1
    try rw [show (0 : Int32).toInt = 0 from by decide] at zc_1
    refine lv_lookup (off := 27) (tgt := 28) hx hb dX7_fault_1 (by decide) (by rw [c_1]; decide) (by decide) ?_
    refine lv_aload_n hx hb dX7_fault_28 rfl (lv_at hl 0 rfl) ?_
    refine va_get (D := (dC, dI)) (ci := 7) (v := .ref (a 26)) (C := RX7) (T := TX7) (N := 12) hx hb hw zz_inX7 hown hK hP 0 rfl rfl 4 (by decide) (hw _ tw_45) (fun _ h9 => h9) rfl dX7_fault_29 ?_
    refine va_getN (D := (dC, dI)) (ci := 0) (v := .int cu0) (C := RX0) (T := TX0) (N := 8) hx hb hw zz_inX0 hown hK hP 1 rfl rfl 2 (by decide) (hN.use zz_n27) (fun _ h9 => h9) rfl dX7_fault_32 ?_
    exact W.iret (v := cu0) hx hb hr (fun t ht hW => ⟨⟨cu0, (), rfl, trivial, trivial⟩, hS.F ht⟩) hS.2.2 dX7_fault_35
  by_cases c_2 : p0 = 1
  · have zc_2 := c_2
    rw [← Int32.toInt_inj] at zc_2
    try rw [show (1 : Int32).toInt = 1 from by decide] at zc_2
    refine lv_lookup (off := 35) (tgt := 36) hx hb dX7_fault_1 (by decide) (by rw [c_2]; decide) (by decide) ?_
    refine lv_aload_n hx hb dX7_fault_36 rfl (lv_at hl 0 rfl) ?_
    refine va_get (D := (dC, dI)) (ci := 7) (v := .ref (a 26)) (C := RX7) (T := TX7) (N := 12) hx hb hw zz_inX7 hown hK hP 0 rfl rfl 4 (by decide) (hw _ tw_45) (fun _ h9 => h9) rfl dX7_fault_37 ?_
    refine va_getN (D := (dC, dI)) (ci := 0) (v := .int cu1) (C := RX0) (T := TX0) (N := 8) hx hb hw zz_inX0 hown hK hP 1 rfl rfl 3 (by decide) (hN.use zz_n28) (fun _ h9 => h9) rfl dX7_fault_40 ?_
    exact W.iret (v := cu1) hx hb hr (fun t ht hW => ⟨⟨cu1, (), rfl, trivial, trivial⟩, hS.F ht⟩) hS.2.2 dX7_fault_43
  refine lv_lookup (off := 43) (tgt := 44) hx hb dX7_fault_1 (by decide) (by have n_0 := zz_ne c_1; rw [show (0 : Int32).toInt = 0 from by decide] at n_0; have n_1 := zz_ne c_2; rw [show (1 : Int32).toInt = 1 from by decide] at n_1; simp [Op.lookupswitch.offset, n_0, Ne.symm n_0, n_1, Ne.symm n_1]) (by decide) ?_
  have zc_1 := c_1
  rw [← Int32.toInt_inj] at zc_1
  try rw [show (0 : Int32).toInt = 0 from by decide] at zc_1
  have zc_2 := c_2
  rw [← Int32.toInt_inj] at zc_2
  try rw [show (1 : Int32).toInt = 1 from by decide] at zc_2
  refine lv_iconst (v := (-1)) hx hb dX7_fault_44 (by decide) ?_
  exact W.iret (v := (-1)) hx hb hr (fun t ht hW => ⟨⟨(-1), (), rfl, trivial, trivial⟩, hS.F ht⟩) hS.2.2 dX7_fault_45

set_option maxHeartbeats 4000000 in
set_option maxRecDepth 100000 in
theorem k_says (l : Launch) (dC : Nat → ClassId) (dI : Nat → Nat → Nat) (a : Nat → Nat) (nh : Nat) (nf : Nat) (clk : Int32) (hi : Int32) (cI : ClassId) (cu0 : Int32) (cu1 : Int32) (cu2 : Int32) (cu3 : Int32) (cu4 : Int32) (cu5 : Int32) (ft : Nat → Int32) (p0 : Int32) (sz : Nat) : Met l yX7_says (zz_w yX7_says cX7_says 2 (some .int)) ({ frames := 1, cells := 0, slots := 0, locals := 22 }) (va_Pc [.ref (a 0), .int p0] (zz_B (dC, dI) sz [(a 0, .inr (7, [.ref (a 1), .ref (a 10), .ref (a 23), .ref (a 24), .ref (a 26), .ref (a 29), .ref (a 34), .ref (a 43), .int (nI nh), .int (nI nf), .int clk, .int hi])), (a 26, .inr (0, [.ref (a 27), .ref (a 28), .int cu0, .int cu1, .int cu2, .int cu3, .int cu4, .int cu5])), (a 27, .inl (cI, 7, .inl ft))] [(cI, .int)])) (va_Qi (fun (_ : Int32) (_ : Unit) => True) (fun _ _ => True) (va_A [] sz)) 0 0 (va_A [] sz) := by
  refine Met.ofW (cc := cX7_says) (maxL := 2) (ret := (some .int)) (by decide) rfl ?_
  intro p e s m args below meth c s₁ B hml hv
  obtain ⟨rfl, hsz, hP, hK, hD0, hN⟩ := hv
  have hx := B.exec
  have hb := B.bytes
  have hr := B.returns
  have hts := atoms_spec (ws := zz_w yX7_says cX7_says 2 (some .int)) B.pre
  have hw : ∀ w ∈ zz_all, w.before _ s = true := fun w h => hts w (List.mem_cons_of_mem _ h)
  have hown : s.vm.findClass RX7 = some m.cls := findClass_of_methodNamed B.named
  have hlocks := B.notSynchronized
  subst hsz
  have hD := hD0
  generalize hAe : va_A [] s.heap.size = A
  have hA : ∀ q : Nat, s.heap.size ≤ q → A q := fun q h => by rw [← hAe]; exact Or.inr h
  have hS : va_S A s.heap s.heap [] := va_S.rf
  have hP : va_P (dC, dI) vwCl [(a 0, .inr (7, [.ref (a 1), .ref (a 10), .ref (a 23), .ref (a 24), .ref (a 26), .ref (a 29), .ref (a 34), .ref (a 43), .int (nI nh), .int (nI nf), .int clk, .int hi])), (a 26, .inr (0, [.ref (a 27), .ref (a 28), .int cu0, .int cu1, .int cu2, .int cu3, .int cu4, .int cu5])), (a 27, .inl (cI, 7, .inl ft))] s.heap := hP
  have hl := lv_entry ([.ref (a 0), .int p0]) (n := 2) (Nat.le_of_ble_eq_true rfl)
  rw [lg_entry_eq]
  generalize (lg_sl ([.ref (a 0), .int p0]) ++ List.replicate (2 - (lg_sl ([.ref (a 0), .int p0])).length) Slot.unset).toArray = ls at hl ⊢
  have hl : lv_has ls 2 [(0, .ref (a 0)), (1, .int p0)] := hl
  refine lv_iload_n hx hb dX7_says_0 rfl (lv_at hl 1 rfl) ?_
  refine lv_iconst (v := 0) hx hb dX7_says_1 (by decide) ?_
  refine lv_bipush (v := 6) hx hb dX7_says_2 (by decide) ?_
  have hPc := hP.sub (ws' := []) [] rfl
  have hDc := hD.sub (ws' := []) [] (by decide) rfl
  have hKc := hK.sub (tys' := []) [] rfl
  have hFc := zz_free0 hS hA
  refine va_calli (va_runS (As := [.int p0, .int 0, .int 6]) (rest := []) ⟨hx, hb, hml, hown, hw⟩ (k_within l dC dI p0 0 6 s.heap.size) ⟨callB_of 3 hw (zz_good tw_1) rfl rfl rfl (hw _ tw_2) (hw _ tw_3) (by decide +kernel) ⟨Nat.le_of_ble_eq_true rfl, Nat.le_of_ble_eq_true rfl⟩, (hw _ tw_4)⟩ ⟨zz_blind, zz_pre hPc hKc hDc hN⟩ rfl rfl hl.1 rfl (lv_room (Nat.le_of_ble_eq_true rfl)) dX7_says_4 ⟨Nat.le_of_ble_eq_true rfl, Nat.le_of_ble_eq_true rfl⟩) hS (fun q _ h => hFc q h) hFc (fun r_1 u_1 t H1 locs ht hvm e_1 hB hz1 hk1 hS => ?_)
  try dsimp only at e_1
  have hP := zz_keep hP hk1
  clear hk1 hB ht hvm
  generalize H1 = H at hP hS ⊢
  refine lv_if_eq (tgt := 22) hx hb dX7_says_7 (by decide) (fun c_2 => ?_) (fun c_2 => ?_)
  · have zc_2 := c_2
    rw [e_1, zz_in0, Int32.le_iff_toInt_le, Int32.le_iff_toInt_le] at zc_2
    try rw [show (0 : Int32).toInt = 0 from by decide] at zc_2
    try rw [show (6 : Int32).toInt = 6 from by decide] at zc_2
    refine lv_iconst (v := (-1)) hx hb dX7_says_22 (by decide) ?_
    exact W.iret (v := (-1)) hx hb hr (fun t ht hW => ⟨⟨(-1), (), rfl, trivial, trivial⟩, hS.F ht⟩) hS.2.2 dX7_says_23
  · have zc_2 := c_2
    rw [e_1, zz_in0, Int32.le_iff_toInt_le, Int32.le_iff_toInt_le] at zc_2
    try rw [show (0 : Int32).toInt = 0 from by decide] at zc_2
    try rw [show (6 : Int32).toInt = 6 from by decide] at zc_2
    refine lv_aload_n hx hb dX7_says_10 rfl (lv_at hl 0 rfl) ?_
    refine va_get (D := (dC, dI)) (ci := 7) (v := .ref (a 26)) (C := RX7) (T := TX7) (N := 12) hx hb hw zz_inX7 hown hK hP 0 rfl rfl 4 (by decide) (hw _ tw_45) (fun _ h9 => h9) rfl dX7_says_11 ?_
    refine va_getN (D := (dC, dI)) (ci := 0) (v := .ref (a 27)) (C := RX0) (T := TX0) (N := 8) hx hb hw zz_inX0 hown hK hP 1 rfl rfl 0 (by decide) (hN.use zz_n26) (fun _ h9 => h9) rfl dX7_says_14 ?_
    refine lv_iload_n hx hb dX7_says_17 rfl (lv_at hl 1 rfl) ?_
    refine va_iald hx hb hK hP 2 0 rfl rfl (vp_in_iff.mpr (by constructor <;> omega)) dX7_says_18 ?_
    refine lv_goto (tgt := 23) hx hb dX7_says_19 (by decide) ?_
    exact W.iret (v := (ft (Int32.toNatClampNeg p0))) hx hb hr (fun t ht hW => ⟨⟨(ft (Int32.toNatClampNeg p0)), (), rfl, trivial, trivial⟩, hS.F ht⟩) hS.2.2 dX7_says_23

set_option maxHeartbeats 4000000 in
set_option maxRecDepth 100000 in
theorem k_append (l : Launch) (dC : Nat → ClassId) (dI : Nat → Nat → Nat) (a : Nat → Nat) (cI : ClassId) (nt : Nat) (fb : Nat → Int32) (p0 : Int32) (sz : Nat) (ht : nt ≤ 196) : Met l yX6_append (zz_w yX6_append cX6_append 3 none) ({ frames := 0, cells := 0, slots := 0, locals := 0 }) (va_Pc [.ref (a 24), .int p0] (zz_B (dC, dI) sz [(a 24, .inr (6, [.ref (a 25), .int (nI nt)])), (a 25, .inl (cI, 200, .inl fb))] [(cI, .int)])) (va_Qv (fun (u : Nat × (Nat → Int32)) => match u with | (t2, _) => t2 = nt + 4) (fun (u : Nat × (Nat → Int32)) (t : State) => match u with | (u0, u1) => va_P (dC, dI) vwCl [(a 24, .inr (6, [.ref (a 25), .int (nI u0)])), (a 25, .inl (cI, 200, .inl u1))] t.heap ∧ va_K (dC, dI) vwCl [(cI, .int)] t ∧ va_D (va_A [(a 24, .inr (6, [.ref (a 25), .int (nI nt)])), (a 25, .inl (cI, 200, .inl fb))] sz) [(a 24, .inr (6, [.ref (a 25), .int (nI u0)])), (a 25, .inl (cI, 200, .inl u1))]) (va_A [(a 24, .inr (6, [.ref (a 25), .int (nI nt)])), (a 25, .inl (cI, 200, .inl fb))] sz)) 0 0 (va_A [(a 24, .inr (6, [.ref (a 25), .int (nI nt)])), (a 25, .inl (cI, 200, .inl fb))] sz) := by
  refine Met.ofW (cc := cX6_append) (maxL := 3) (ret := none) (by decide) rfl ?_
  intro p e s m args below meth c s₁ B hml hv
  obtain ⟨rfl, hsz, hP, hK, hD0, hN⟩ := hv
  have hx := B.exec
  have hb := B.bytes
  have hr := B.returns
  have hts := atoms_spec (ws := zz_w yX6_append cX6_append 3 none) B.pre
  have hw : ∀ w ∈ zz_all, w.before _ s = true := fun w h => hts w (List.mem_cons_of_mem _ h)
  have hown : s.vm.findClass RX6 = some m.cls := findClass_of_methodNamed B.named
  have hlocks := B.notSynchronized
  subst hsz
  have hD := hD0.self (sz := s.heap.size)
  generalize hAe : va_A [(a 24, .inr (6, [.ref (a 25), .int (nI nt)])), (a 25, .inl (cI, 200, .inl fb))] s.heap.size = A at hD ⊢
  have hA : ∀ q : Nat, s.heap.size ≤ q → A q := fun q h => by rw [← hAe]; exact Or.inr h
  have hS : va_S A s.heap s.heap [] := va_S.rf
  have hP : va_P (dC, dI) vwCl [(a 24, .inr (6, [.ref (a 25), .int (nI nt)])), (a 25, .inl (cI, 200, .inl fb))] s.heap := hP
  have hl := lv_entry ([.ref (a 24), .int p0]) (n := 3) (Nat.le_of_ble_eq_true rfl)
  rw [lg_entry_eq]
  generalize (lg_sl ([.ref (a 24), .int p0]) ++ List.replicate (3 - (lg_sl ([.ref (a 24), .int p0])).length) Slot.unset).toArray = ls at hl ⊢
  have hl : lv_has ls 3 [(0, .ref (a 24)), (1, .int p0)] := hl
  refine lv_bipush (v := 24) hx hb dX6_append_0 (by decide) ?_
  refine lv_istore_n (lv' := [(2, .int 24), (0, .ref (a 24)), (1, .int p0)]) hx hb dX6_append_2 rfl hl (by decide) rfl (fun ls hl => ?_)
  refine lv_iload_n hx hb dX6_append_3 rfl (lv_at hl 0 rfl) ?_
  refine lv_if_lt (tgt := 49) hx hb dX6_append_4 (by decide) (fun c_9 => absurd c_9 (by decide)) (fun _ => ?_)
  refine lv_aload_n hx hb dX6_append_7 rfl (lv_at hl 1 rfl) ?_
  refine va_get (D := (dC, dI)) (ci := 6) (v := .int (nI nt)) (C := RX6) (T := TX6) (N := 2) hx hb hw zz_inX6 hown hK hP 0 rfl rfl 1 (by decide) (hw _ tw_95) (fun _ h9 => h9) rfl dX6_append_8 ?_
  refine lv_sipush (v := 200) hx hb dX6_append_11 (by decide) ?_
  refine lv_icmp_ge (tgt := 49) hx hb dX6_append_14 (by decide) (fun c_1 => ?_) (fun c_1 => ?_)
  · have zc_1 := c_1
    rw [Int32.le_iff_toInt_le] at zc_1
    try rw [zz_toInt nt (by omega)] at zc_1
    try rw [show (200 : Int32).toInt = 200 from by decide] at zc_1
    have hP9 := hP.sub (ws' := [(a 24, .inr (6, [.ref (a 25), .int (nI nt)])), (a 25, .inl (cI, 200, .inl fb))]) [0, 1] rfl
    have hD9 := hD.sub (ws' := [(a 24, .inr (6, [.ref (a 25), .int (nI nt)])), (a 25, .inl (cI, 200, .inl fb))]) [0, 1] (by decide) rfl
    have hK9 := hK.sub (tys' := [(cI, .int)]) [0] rfl
    exact W.vret hx hb hr (fun t ht hW => ⟨⟨(nt, fb), rfl, (by show _ = _; omega), by rw [ht]; exact hP9, va_K.moved hW.alike hK9, hD9⟩, hS.F ht⟩) hS.2.2 dX6_append_49
  · have zc_1 := c_1
    rw [Int32.le_iff_toInt_le] at zc_1
    try rw [zz_toInt nt (by omega)] at zc_1
    try rw [show (200 : Int32).toInt = 200 from by decide] at zc_1
    refine lv_aload_n hx hb dX6_append_17 rfl (lv_at hl 1 rfl) ?_
    refine va_get (D := (dC, dI)) (ci := 6) (v := .ref (a 25)) (C := RX6) (T := TX6) (N := 2) hx hb hw zz_inX6 hown hK hP 0 rfl rfl 0 (by decide) (hw _ tw_96) (fun _ h9 => h9) rfl dX6_append_18 ?_
    refine lv_aload_n hx hb dX6_append_21 rfl (lv_at hl 1 rfl) ?_
    refine va_get (D := (dC, dI)) (ci := 6) (v := .int (nI nt)) (C := RX6) (T := TX6) (N := 2) hx hb hw zz_inX6 hown hK hP 0 rfl rfl 1 (by decide) (hw _ tw_95) (fun _ h9 => h9) rfl dX6_append_22 ?_
    refine lv_iload_n hx hb dX6_append_25 rfl (lv_at hl 2 rfl) ?_
    refine lv_iload_n hx hb dX6_append_26 rfl (lv_at hl 0 rfl) ?_
    refine lv_iushr (v := (Int32.toUInt32 p0 >>> (Int32.toUInt32 24 &&& Int32.toUInt32 31)).toInt32) hx hb dX6_append_27 rfl ?_
    refine lv_sipush (v := 255) hx hb dX6_append_28 (by decide) ?_
    refine lv_iand hx hb dX6_append_31 ?_
    refine va_iast hx hb hK hP hD hS 1 0 rfl rfl (vp_in_iff.mpr (by rw [zz_toInt nt (by omega)]; constructor <;> omega)) dX6_append_32 (fun H locs hP hD hS => ?_)
    have hP : va_P (dC, dI) vwCl [(a 24, .inr (6, [.ref (a 25), .int (nI nt)])), (a 25, .inl (cI, 200, .inl (upd fb (Int32.toNatClampNeg (nI nt)) (((Int32.toUInt32 p0 >>> (Int32.toUInt32 24 &&& Int32.toUInt32 31)).toInt32) &&& 255))))] H := hP
    have hD : va_D A [(a 24, .inr (6, [.ref (a 25), .int (nI nt)])), (a 25, .inl (cI, 200, .inl (upd fb (Int32.toNatClampNeg (nI nt)) (((Int32.toUInt32 p0 >>> (Int32.toUInt32 24 &&& Int32.toUInt32 31)).toInt32) &&& 255))))] := hD
    refine lv_aload_n hx hb dX6_append_33 rfl (lv_at hl 1 rfl) ?_
    refine lv_dup hx hb dX6_append_34 rfl ?_
    refine va_get (D := (dC, dI)) (ci := 6) (v := .int (nI nt)) (C := RX6) (T := TX6) (N := 2) hx hb hw zz_inX6 hown hK hP 0 rfl rfl 1 (by decide) (hw _ tw_95) (fun _ h9 => h9) rfl dX6_append_35 ?_
    refine lv_iconst (v := 1) hx hb dX6_append_38 (by decide) ?_
    refine lv_iadd hx hb dX6_append_39 ?_
    refine zz_seti (nI (nt + 1)) (nI_1 _) ?_
    refine va_put (D := (dC, dI)) (ci := 6) (v := .int (nI (nt + 1))) (ty := .int) (C := RX6) (T := TX6) (N := 2) hx hb hw zz_inX6 tyX6 tyX6_ok nmX6 hown hK hP hD hS 0 rfl rfl 1 (by decide) (hw _ tw_95) (fun _ h9 => h9) rfl (by decide +kernel) rfl rfl (Nat.le_of_ble_eq_true rfl) dX6_append_40 (fun H locs hP hD hS => ?_)
    have hP : va_P (dC, dI) vwCl [(a 24, .inr (6, [.ref (a 25), .int (nI (nt + 1))])), (a 25, .inl (cI, 200, .inl (upd fb (Int32.toNatClampNeg (nI nt)) (((Int32.toUInt32 p0 >>> (Int32.toUInt32 24 &&& Int32.toUInt32 31)).toInt32) &&& 255))))] H := hP
    have hD : va_D A [(a 24, .inr (6, [.ref (a 25), .int (nI (nt + 1))])), (a 25, .inl (cI, 200, .inl (upd fb (Int32.toNatClampNeg (nI nt)) (((Int32.toUInt32 p0 >>> (Int32.toUInt32 24 &&& Int32.toUInt32 31)).toInt32) &&& 255))))] := hD
    refine lv_iinc (v := 16) (lv' := [(2, .int 16), (0, .ref (a 24)), (1, .int p0)]) hx hb dX6_append_43 hl (k := 0) rfl (by decide) (by decide) rfl (fun ls hl => ?_)
    refine lv_goto (tgt := 3) hx hb dX6_append_46 (by decide) ?_
    refine lv_iload_n hx hb dX6_append_3 rfl (lv_at hl 0 rfl) ?_
    refine lv_if_lt (tgt := 49) hx hb dX6_append_4 (by decide) (fun c_9 => absurd c_9 (by decide)) (fun _ => ?_)
    refine lv_aload_n hx hb dX6_append_7 rfl (lv_at hl 1 rfl) ?_
    refine va_get (D := (dC, dI)) (ci := 6) (v := .int (nI (nt + 1))) (C := RX6) (T := TX6) (N := 2) hx hb hw zz_inX6 hown hK hP 0 rfl rfl 1 (by decide) (hw _ tw_95) (fun _ h9 => h9) rfl dX6_append_8 ?_
    refine lv_sipush (v := 200) hx hb dX6_append_11 (by decide) ?_
    refine lv_icmp_ge (tgt := 49) hx hb dX6_append_14 (by decide) (fun c_2 => ?_) (fun c_2 => ?_)
    · have zc_2 := c_2
      rw [Int32.le_iff_toInt_le] at zc_2
      try rw [zz_toInt (nt + 1) (by omega)] at zc_2
      try rw [show (200 : Int32).toInt = 200 from by decide] at zc_2
      have hP9 := hP.sub (ws' := [(a 24, .inr (6, [.ref (a 25), .int (nI (nt + 1))])), (a 25, .inl (cI, 200, .inl (upd fb (Int32.toNatClampNeg (nI nt)) (((Int32.toUInt32 p0 >>> (Int32.toUInt32 24 &&& Int32.toUInt32 31)).toInt32) &&& 255))))]) [0, 1] rfl
      have hD9 := hD.sub (ws' := [(a 24, .inr (6, [.ref (a 25), .int (nI (nt + 1))])), (a 25, .inl (cI, 200, .inl (upd fb (Int32.toNatClampNeg (nI nt)) (((Int32.toUInt32 p0 >>> (Int32.toUInt32 24 &&& Int32.toUInt32 31)).toInt32) &&& 255))))]) [0, 1] (by decide) rfl
      have hK9 := hK.sub (tys' := [(cI, .int)]) [0] rfl
      exact W.vret hx hb hr (fun t ht hW => ⟨⟨((nt + 1), (upd fb (Int32.toNatClampNeg (nI nt)) (((Int32.toUInt32 p0 >>> (Int32.toUInt32 24 &&& Int32.toUInt32 31)).toInt32) &&& 255))), rfl, (by show _ = _; omega), by rw [ht]; exact hP9, va_K.moved hW.alike hK9, hD9⟩, hS.F ht⟩) hS.2.2 dX6_append_49
    · have zc_2 := c_2
      rw [Int32.le_iff_toInt_le] at zc_2
      try rw [zz_toInt (nt + 1) (by omega)] at zc_2
      try rw [show (200 : Int32).toInt = 200 from by decide] at zc_2
      refine lv_aload_n hx hb dX6_append_17 rfl (lv_at hl 1 rfl) ?_
      refine va_get (D := (dC, dI)) (ci := 6) (v := .ref (a 25)) (C := RX6) (T := TX6) (N := 2) hx hb hw zz_inX6 hown hK hP 0 rfl rfl 0 (by decide) (hw _ tw_96) (fun _ h9 => h9) rfl dX6_append_18 ?_
      refine lv_aload_n hx hb dX6_append_21 rfl (lv_at hl 1 rfl) ?_
      refine va_get (D := (dC, dI)) (ci := 6) (v := .int (nI (nt + 1))) (C := RX6) (T := TX6) (N := 2) hx hb hw zz_inX6 hown hK hP 0 rfl rfl 1 (by decide) (hw _ tw_95) (fun _ h9 => h9) rfl dX6_append_22 ?_
      refine lv_iload_n hx hb dX6_append_25 rfl (lv_at hl 2 rfl) ?_
      refine lv_iload_n hx hb dX6_append_26 rfl (lv_at hl 0 rfl) ?_
      refine lv_iushr (v := (Int32.toUInt32 p0 >>> (Int32.toUInt32 16 &&& Int32.toUInt32 31)).toInt32) hx hb dX6_append_27 rfl ?_
      refine lv_sipush (v := 255) hx hb dX6_append_28 (by decide) ?_
      refine lv_iand hx hb dX6_append_31 ?_
      refine va_iast hx hb hK hP hD hS 1 0 rfl rfl (vp_in_iff.mpr (by rw [zz_toInt (nt + 1) (by omega)]; constructor <;> omega)) dX6_append_32 (fun H locs hP hD hS => ?_)
      have hP : va_P (dC, dI) vwCl [(a 24, .inr (6, [.ref (a 25), .int (nI (nt + 1))])), (a 25, .inl (cI, 200, .inl (upd (upd fb (Int32.toNatClampNeg (nI nt)) (((Int32.toUInt32 p0 >>> (Int32.toUInt32 24 &&& Int32.toUInt32 31)).toInt32) &&& 255)) (Int32.toNatClampNeg (nI (nt + 1))) (((Int32.toUInt32 p0 >>> (Int32.toUInt32 16 &&& Int32.toUInt32 31)).toInt32) &&& 255))))] H := hP
      have hD : va_D A [(a 24, .inr (6, [.ref (a 25), .int (nI (nt + 1))])), (a 25, .inl (cI, 200, .inl (upd (upd fb (Int32.toNatClampNeg (nI nt)) (((Int32.toUInt32 p0 >>> (Int32.toUInt32 24 &&& Int32.toUInt32 31)).toInt32) &&& 255)) (Int32.toNatClampNeg (nI (nt + 1))) (((Int32.toUInt32 p0 >>> (Int32.toUInt32 16 &&& Int32.toUInt32 31)).toInt32) &&& 255))))] := hD
      refine lv_aload_n hx hb dX6_append_33 rfl (lv_at hl 1 rfl) ?_
      refine lv_dup hx hb dX6_append_34 rfl ?_
      refine va_get (D := (dC, dI)) (ci := 6) (v := .int (nI (nt + 1))) (C := RX6) (T := TX6) (N := 2) hx hb hw zz_inX6 hown hK hP 0 rfl rfl 1 (by decide) (hw _ tw_95) (fun _ h9 => h9) rfl dX6_append_35 ?_
      refine lv_iconst (v := 1) hx hb dX6_append_38 (by decide) ?_
      refine lv_iadd hx hb dX6_append_39 ?_
      refine zz_seti (nI ((nt + 1) + 1)) (nI_1 _) ?_
      refine va_put (D := (dC, dI)) (ci := 6) (v := .int (nI ((nt + 1) + 1))) (ty := .int) (C := RX6) (T := TX6) (N := 2) hx hb hw zz_inX6 tyX6 tyX6_ok nmX6 hown hK hP hD hS 0 rfl rfl 1 (by decide) (hw _ tw_95) (fun _ h9 => h9) rfl (by decide +kernel) rfl rfl (Nat.le_of_ble_eq_true rfl) dX6_append_40 (fun H locs hP hD hS => ?_)
      have hP : va_P (dC, dI) vwCl [(a 24, .inr (6, [.ref (a 25), .int (nI ((nt + 1) + 1))])), (a 25, .inl (cI, 200, .inl (upd (upd fb (Int32.toNatClampNeg (nI nt)) (((Int32.toUInt32 p0 >>> (Int32.toUInt32 24 &&& Int32.toUInt32 31)).toInt32) &&& 255)) (Int32.toNatClampNeg (nI (nt + 1))) (((Int32.toUInt32 p0 >>> (Int32.toUInt32 16 &&& Int32.toUInt32 31)).toInt32) &&& 255))))] H := hP
      have hD : va_D A [(a 24, .inr (6, [.ref (a 25), .int (nI ((nt + 1) + 1))])), (a 25, .inl (cI, 200, .inl (upd (upd fb (Int32.toNatClampNeg (nI nt)) (((Int32.toUInt32 p0 >>> (Int32.toUInt32 24 &&& Int32.toUInt32 31)).toInt32) &&& 255)) (Int32.toNatClampNeg (nI (nt + 1))) (((Int32.toUInt32 p0 >>> (Int32.toUInt32 16 &&& Int32.toUInt32 31)).toInt32) &&& 255))))] := hD
      refine lv_iinc (v := 8) (lv' := [(2, .int 8), (0, .ref (a 24)), (1, .int p0)]) hx hb dX6_append_43 hl (k := 0) rfl (by decide) (by decide) rfl (fun ls hl => ?_)
      refine lv_goto (tgt := 3) hx hb dX6_append_46 (by decide) ?_
      refine lv_iload_n hx hb dX6_append_3 rfl (lv_at hl 0 rfl) ?_
      refine lv_if_lt (tgt := 49) hx hb dX6_append_4 (by decide) (fun c_9 => absurd c_9 (by decide)) (fun _ => ?_)
      refine lv_aload_n hx hb dX6_append_7 rfl (lv_at hl 1 rfl) ?_
      refine va_get (D := (dC, dI)) (ci := 6) (v := .int (nI ((nt + 1) + 1))) (C := RX6) (T := TX6) (N := 2) hx hb hw zz_inX6 hown hK hP 0 rfl rfl 1 (by decide) (hw _ tw_95) (fun _ h9 => h9) rfl dX6_append_8 ?_
      refine lv_sipush (v := 200) hx hb dX6_append_11 (by decide) ?_
      refine lv_icmp_ge (tgt := 49) hx hb dX6_append_14 (by decide) (fun c_3 => ?_) (fun c_3 => ?_)
      · have zc_3 := c_3
        rw [Int32.le_iff_toInt_le] at zc_3
        try rw [zz_toInt ((nt + 1) + 1) (by omega)] at zc_3
        try rw [show (200 : Int32).toInt = 200 from by decide] at zc_3
        have hP9 := hP.sub (ws' := [(a 24, .inr (6, [.ref (a 25), .int (nI ((nt + 1) + 1))])), (a 25, .inl (cI, 200, .inl (upd (upd fb (Int32.toNatClampNeg (nI nt)) (((Int32.toUInt32 p0 >>> (Int32.toUInt32 24 &&& Int32.toUInt32 31)).toInt32) &&& 255)) (Int32.toNatClampNeg (nI (nt + 1))) (((Int32.toUInt32 p0 >>> (Int32.toUInt32 16 &&& Int32.toUInt32 31)).toInt32) &&& 255))))]) [0, 1] rfl
        have hD9 := hD.sub (ws' := [(a 24, .inr (6, [.ref (a 25), .int (nI ((nt + 1) + 1))])), (a 25, .inl (cI, 200, .inl (upd (upd fb (Int32.toNatClampNeg (nI nt)) (((Int32.toUInt32 p0 >>> (Int32.toUInt32 24 &&& Int32.toUInt32 31)).toInt32) &&& 255)) (Int32.toNatClampNeg (nI (nt + 1))) (((Int32.toUInt32 p0 >>> (Int32.toUInt32 16 &&& Int32.toUInt32 31)).toInt32) &&& 255))))]) [0, 1] (by decide) rfl
        have hK9 := hK.sub (tys' := [(cI, .int)]) [0] rfl
        exact W.vret hx hb hr (fun t ht hW => ⟨⟨(((nt + 1) + 1), (upd (upd fb (Int32.toNatClampNeg (nI nt)) (((Int32.toUInt32 p0 >>> (Int32.toUInt32 24 &&& Int32.toUInt32 31)).toInt32) &&& 255)) (Int32.toNatClampNeg (nI (nt + 1))) (((Int32.toUInt32 p0 >>> (Int32.toUInt32 16 &&& Int32.toUInt32 31)).toInt32) &&& 255))), rfl, (by show _ = _; omega), by rw [ht]; exact hP9, va_K.moved hW.alike hK9, hD9⟩, hS.F ht⟩) hS.2.2 dX6_append_49
      · have zc_3 := c_3
        rw [Int32.le_iff_toInt_le] at zc_3
        try rw [zz_toInt ((nt + 1) + 1) (by omega)] at zc_3
        try rw [show (200 : Int32).toInt = 200 from by decide] at zc_3
        refine lv_aload_n hx hb dX6_append_17 rfl (lv_at hl 1 rfl) ?_
        refine va_get (D := (dC, dI)) (ci := 6) (v := .ref (a 25)) (C := RX6) (T := TX6) (N := 2) hx hb hw zz_inX6 hown hK hP 0 rfl rfl 0 (by decide) (hw _ tw_96) (fun _ h9 => h9) rfl dX6_append_18 ?_
        refine lv_aload_n hx hb dX6_append_21 rfl (lv_at hl 1 rfl) ?_
        refine va_get (D := (dC, dI)) (ci := 6) (v := .int (nI ((nt + 1) + 1))) (C := RX6) (T := TX6) (N := 2) hx hb hw zz_inX6 hown hK hP 0 rfl rfl 1 (by decide) (hw _ tw_95) (fun _ h9 => h9) rfl dX6_append_22 ?_
        refine lv_iload_n hx hb dX6_append_25 rfl (lv_at hl 2 rfl) ?_
        refine lv_iload_n hx hb dX6_append_26 rfl (lv_at hl 0 rfl) ?_
        refine lv_iushr (v := (Int32.toUInt32 p0 >>> (Int32.toUInt32 8 &&& Int32.toUInt32 31)).toInt32) hx hb dX6_append_27 rfl ?_
        refine lv_sipush (v := 255) hx hb dX6_append_28 (by decide) ?_
        refine lv_iand hx hb dX6_append_31 ?_
        refine va_iast hx hb hK hP hD hS 1 0 rfl rfl (vp_in_iff.mpr (by rw [zz_toInt ((nt + 1) + 1) (by omega)]; constructor <;> omega)) dX6_append_32 (fun H locs hP hD hS => ?_)
        have hP : va_P (dC, dI) vwCl [(a 24, .inr (6, [.ref (a 25), .int (nI ((nt + 1) + 1))])), (a 25, .inl (cI, 200, .inl (upd (upd (upd fb (Int32.toNatClampNeg (nI nt)) (((Int32.toUInt32 p0 >>> (Int32.toUInt32 24 &&& Int32.toUInt32 31)).toInt32) &&& 255)) (Int32.toNatClampNeg (nI (nt + 1))) (((Int32.toUInt32 p0 >>> (Int32.toUInt32 16 &&& Int32.toUInt32 31)).toInt32) &&& 255)) (Int32.toNatClampNeg (nI ((nt + 1) + 1))) (((Int32.toUInt32 p0 >>> (Int32.toUInt32 8 &&& Int32.toUInt32 31)).toInt32) &&& 255))))] H := hP
        have hD : va_D A [(a 24, .inr (6, [.ref (a 25), .int (nI ((nt + 1) + 1))])), (a 25, .inl (cI, 200, .inl (upd (upd (upd fb (Int32.toNatClampNeg (nI nt)) (((Int32.toUInt32 p0 >>> (Int32.toUInt32 24 &&& Int32.toUInt32 31)).toInt32) &&& 255)) (Int32.toNatClampNeg (nI (nt + 1))) (((Int32.toUInt32 p0 >>> (Int32.toUInt32 16 &&& Int32.toUInt32 31)).toInt32) &&& 255)) (Int32.toNatClampNeg (nI ((nt + 1) + 1))) (((Int32.toUInt32 p0 >>> (Int32.toUInt32 8 &&& Int32.toUInt32 31)).toInt32) &&& 255))))] := hD
        refine lv_aload_n hx hb dX6_append_33 rfl (lv_at hl 1 rfl) ?_
        refine lv_dup hx hb dX6_append_34 rfl ?_
        refine va_get (D := (dC, dI)) (ci := 6) (v := .int (nI ((nt + 1) + 1))) (C := RX6) (T := TX6) (N := 2) hx hb hw zz_inX6 hown hK hP 0 rfl rfl 1 (by decide) (hw _ tw_95) (fun _ h9 => h9) rfl dX6_append_35 ?_
        refine lv_iconst (v := 1) hx hb dX6_append_38 (by decide) ?_
        refine lv_iadd hx hb dX6_append_39 ?_
        refine zz_seti (nI (((nt + 1) + 1) + 1)) (nI_1 _) ?_
        refine va_put (D := (dC, dI)) (ci := 6) (v := .int (nI (((nt + 1) + 1) + 1))) (ty := .int) (C := RX6) (T := TX6) (N := 2) hx hb hw zz_inX6 tyX6 tyX6_ok nmX6 hown hK hP hD hS 0 rfl rfl 1 (by decide) (hw _ tw_95) (fun _ h9 => h9) rfl (by decide +kernel) rfl rfl (Nat.le_of_ble_eq_true rfl) dX6_append_40 (fun H locs hP hD hS => ?_)
        have hP : va_P (dC, dI) vwCl [(a 24, .inr (6, [.ref (a 25), .int (nI (((nt + 1) + 1) + 1))])), (a 25, .inl (cI, 200, .inl (upd (upd (upd fb (Int32.toNatClampNeg (nI nt)) (((Int32.toUInt32 p0 >>> (Int32.toUInt32 24 &&& Int32.toUInt32 31)).toInt32) &&& 255)) (Int32.toNatClampNeg (nI (nt + 1))) (((Int32.toUInt32 p0 >>> (Int32.toUInt32 16 &&& Int32.toUInt32 31)).toInt32) &&& 255)) (Int32.toNatClampNeg (nI ((nt + 1) + 1))) (((Int32.toUInt32 p0 >>> (Int32.toUInt32 8 &&& Int32.toUInt32 31)).toInt32) &&& 255))))] H := hP
        have hD : va_D A [(a 24, .inr (6, [.ref (a 25), .int (nI (((nt + 1) + 1) + 1))])), (a 25, .inl (cI, 200, .inl (upd (upd (upd fb (Int32.toNatClampNeg (nI nt)) (((Int32.toUInt32 p0 >>> (Int32.toUInt32 24 &&& Int32.toUInt32 31)).toInt32) &&& 255)) (Int32.toNatClampNeg (nI (nt + 1))) (((Int32.toUInt32 p0 >>> (Int32.toUInt32 16 &&& Int32.toUInt32 31)).toInt32) &&& 255)) (Int32.toNatClampNeg (nI ((nt + 1) + 1))) (((Int32.toUInt32 p0 >>> (Int32.toUInt32 8 &&& Int32.toUInt32 31)).toInt32) &&& 255))))] := hD
        refine lv_iinc (v := 0) (lv' := [(2, .int 0), (0, .ref (a 24)), (1, .int p0)]) hx hb dX6_append_43 hl (k := 0) rfl (by decide) (by decide) rfl (fun ls hl => ?_)
        refine lv_goto (tgt := 3) hx hb dX6_append_46 (by decide) ?_
        refine lv_iload_n hx hb dX6_append_3 rfl (lv_at hl 0 rfl) ?_
        refine lv_if_lt (tgt := 49) hx hb dX6_append_4 (by decide) (fun c_9 => absurd c_9 (by decide)) (fun _ => ?_)
        refine lv_aload_n hx hb dX6_append_7 rfl (lv_at hl 1 rfl) ?_
        refine va_get (D := (dC, dI)) (ci := 6) (v := .int (nI (((nt + 1) + 1) + 1))) (C := RX6) (T := TX6) (N := 2) hx hb hw zz_inX6 hown hK hP 0 rfl rfl 1 (by decide) (hw _ tw_95) (fun _ h9 => h9) rfl dX6_append_8 ?_
        refine lv_sipush (v := 200) hx hb dX6_append_11 (by decide) ?_
        refine lv_icmp_ge (tgt := 49) hx hb dX6_append_14 (by decide) (fun c_4 => ?_) (fun c_4 => ?_)
        · have zc_4 := c_4
          rw [Int32.le_iff_toInt_le] at zc_4
          try rw [zz_toInt (((nt + 1) + 1) + 1) (by omega)] at zc_4
          try rw [show (200 : Int32).toInt = 200 from by decide] at zc_4
          have hP9 := hP.sub (ws' := [(a 24, .inr (6, [.ref (a 25), .int (nI (((nt + 1) + 1) + 1))])), (a 25, .inl (cI, 200, .inl (upd (upd (upd fb (Int32.toNatClampNeg (nI nt)) (((Int32.toUInt32 p0 >>> (Int32.toUInt32 24 &&& Int32.toUInt32 31)).toInt32) &&& 255)) (Int32.toNatClampNeg (nI (nt + 1))) (((Int32.toUInt32 p0 >>> (Int32.toUInt32 16 &&& Int32.toUInt32 31)).toInt32) &&& 255)) (Int32.toNatClampNeg (nI ((nt + 1) + 1))) (((Int32.toUInt32 p0 >>> (Int32.toUInt32 8 &&& Int32.toUInt32 31)).toInt32) &&& 255))))]) [0, 1] rfl
          have hD9 := hD.sub (ws' := [(a 24, .inr (6, [.ref (a 25), .int (nI (((nt + 1) + 1) + 1))])), (a 25, .inl (cI, 200, .inl (upd (upd (upd fb (Int32.toNatClampNeg (nI nt)) (((Int32.toUInt32 p0 >>> (Int32.toUInt32 24 &&& Int32.toUInt32 31)).toInt32) &&& 255)) (Int32.toNatClampNeg (nI (nt + 1))) (((Int32.toUInt32 p0 >>> (Int32.toUInt32 16 &&& Int32.toUInt32 31)).toInt32) &&& 255)) (Int32.toNatClampNeg (nI ((nt + 1) + 1))) (((Int32.toUInt32 p0 >>> (Int32.toUInt32 8 &&& Int32.toUInt32 31)).toInt32) &&& 255))))]) [0, 1] (by decide) rfl
          have hK9 := hK.sub (tys' := [(cI, .int)]) [0] rfl
          exact W.vret hx hb hr (fun t ht hW => ⟨⟨((((nt + 1) + 1) + 1), (upd (upd (upd fb (Int32.toNatClampNeg (nI nt)) (((Int32.toUInt32 p0 >>> (Int32.toUInt32 24 &&& Int32.toUInt32 31)).toInt32) &&& 255)) (Int32.toNatClampNeg (nI (nt + 1))) (((Int32.toUInt32 p0 >>> (Int32.toUInt32 16 &&& Int32.toUInt32 31)).toInt32) &&& 255)) (Int32.toNatClampNeg (nI ((nt + 1) + 1))) (((Int32.toUInt32 p0 >>> (Int32.toUInt32 8 &&& Int32.toUInt32 31)).toInt32) &&& 255))), rfl, (by show _ = _; omega), by rw [ht]; exact hP9, va_K.moved hW.alike hK9, hD9⟩, hS.F ht⟩) hS.2.2 dX6_append_49
        · have zc_4 := c_4
          rw [Int32.le_iff_toInt_le] at zc_4
          try rw [zz_toInt (((nt + 1) + 1) + 1) (by omega)] at zc_4
          try rw [show (200 : Int32).toInt = 200 from by decide] at zc_4
          refine lv_aload_n hx hb dX6_append_17 rfl (lv_at hl 1 rfl) ?_
          refine va_get (D := (dC, dI)) (ci := 6) (v := .ref (a 25)) (C := RX6) (T := TX6) (N := 2) hx hb hw zz_inX6 hown hK hP 0 rfl rfl 0 (by decide) (hw _ tw_96) (fun _ h9 => h9) rfl dX6_append_18 ?_
          refine lv_aload_n hx hb dX6_append_21 rfl (lv_at hl 1 rfl) ?_
          refine va_get (D := (dC, dI)) (ci := 6) (v := .int (nI (((nt + 1) + 1) + 1))) (C := RX6) (T := TX6) (N := 2) hx hb hw zz_inX6 hown hK hP 0 rfl rfl 1 (by decide) (hw _ tw_95) (fun _ h9 => h9) rfl dX6_append_22 ?_
          refine lv_iload_n hx hb dX6_append_25 rfl (lv_at hl 2 rfl) ?_
          refine lv_iload_n hx hb dX6_append_26 rfl (lv_at hl 0 rfl) ?_
          refine lv_iushr (v := (Int32.toUInt32 p0 >>> (Int32.toUInt32 0 &&& Int32.toUInt32 31)).toInt32) hx hb dX6_append_27 rfl ?_
          refine lv_sipush (v := 255) hx hb dX6_append_28 (by decide) ?_
          refine lv_iand hx hb dX6_append_31 ?_
          refine va_iast hx hb hK hP hD hS 1 0 rfl rfl (vp_in_iff.mpr (by rw [zz_toInt (((nt + 1) + 1) + 1) (by omega)]; constructor <;> omega)) dX6_append_32 (fun H locs hP hD hS => ?_)
          have hP : va_P (dC, dI) vwCl [(a 24, .inr (6, [.ref (a 25), .int (nI (((nt + 1) + 1) + 1))])), (a 25, .inl (cI, 200, .inl (upd (upd (upd (upd fb (Int32.toNatClampNeg (nI nt)) (((Int32.toUInt32 p0 >>> (Int32.toUInt32 24 &&& Int32.toUInt32 31)).toInt32) &&& 255)) (Int32.toNatClampNeg (nI (nt + 1))) (((Int32.toUInt32 p0 >>> (Int32.toUInt32 16 &&& Int32.toUInt32 31)).toInt32) &&& 255)) (Int32.toNatClampNeg (nI ((nt + 1) + 1))) (((Int32.toUInt32 p0 >>> (Int32.toUInt32 8 &&& Int32.toUInt32 31)).toInt32) &&& 255)) (Int32.toNatClampNeg (nI (((nt + 1) + 1) + 1))) (((Int32.toUInt32 p0 >>> (Int32.toUInt32 0 &&& Int32.toUInt32 31)).toInt32) &&& 255))))] H := hP
          have hD : va_D A [(a 24, .inr (6, [.ref (a 25), .int (nI (((nt + 1) + 1) + 1))])), (a 25, .inl (cI, 200, .inl (upd (upd (upd (upd fb (Int32.toNatClampNeg (nI nt)) (((Int32.toUInt32 p0 >>> (Int32.toUInt32 24 &&& Int32.toUInt32 31)).toInt32) &&& 255)) (Int32.toNatClampNeg (nI (nt + 1))) (((Int32.toUInt32 p0 >>> (Int32.toUInt32 16 &&& Int32.toUInt32 31)).toInt32) &&& 255)) (Int32.toNatClampNeg (nI ((nt + 1) + 1))) (((Int32.toUInt32 p0 >>> (Int32.toUInt32 8 &&& Int32.toUInt32 31)).toInt32) &&& 255)) (Int32.toNatClampNeg (nI (((nt + 1) + 1) + 1))) (((Int32.toUInt32 p0 >>> (Int32.toUInt32 0 &&& Int32.toUInt32 31)).toInt32) &&& 255))))] := hD
          refine lv_aload_n hx hb dX6_append_33 rfl (lv_at hl 1 rfl) ?_
          refine lv_dup hx hb dX6_append_34 rfl ?_
          refine va_get (D := (dC, dI)) (ci := 6) (v := .int (nI (((nt + 1) + 1) + 1))) (C := RX6) (T := TX6) (N := 2) hx hb hw zz_inX6 hown hK hP 0 rfl rfl 1 (by decide) (hw _ tw_95) (fun _ h9 => h9) rfl dX6_append_35 ?_
          refine lv_iconst (v := 1) hx hb dX6_append_38 (by decide) ?_
          refine lv_iadd hx hb dX6_append_39 ?_
          refine zz_seti (nI ((((nt + 1) + 1) + 1) + 1)) (nI_1 _) ?_
          refine va_put (D := (dC, dI)) (ci := 6) (v := .int (nI ((((nt + 1) + 1) + 1) + 1))) (ty := .int) (C := RX6) (T := TX6) (N := 2) hx hb hw zz_inX6 tyX6 tyX6_ok nmX6 hown hK hP hD hS 0 rfl rfl 1 (by decide) (hw _ tw_95) (fun _ h9 => h9) rfl (by decide +kernel) rfl rfl (Nat.le_of_ble_eq_true rfl) dX6_append_40 (fun H locs hP hD hS => ?_)
          have hP : va_P (dC, dI) vwCl [(a 24, .inr (6, [.ref (a 25), .int (nI ((((nt + 1) + 1) + 1) + 1))])), (a 25, .inl (cI, 200, .inl (upd (upd (upd (upd fb (Int32.toNatClampNeg (nI nt)) (((Int32.toUInt32 p0 >>> (Int32.toUInt32 24 &&& Int32.toUInt32 31)).toInt32) &&& 255)) (Int32.toNatClampNeg (nI (nt + 1))) (((Int32.toUInt32 p0 >>> (Int32.toUInt32 16 &&& Int32.toUInt32 31)).toInt32) &&& 255)) (Int32.toNatClampNeg (nI ((nt + 1) + 1))) (((Int32.toUInt32 p0 >>> (Int32.toUInt32 8 &&& Int32.toUInt32 31)).toInt32) &&& 255)) (Int32.toNatClampNeg (nI (((nt + 1) + 1) + 1))) (((Int32.toUInt32 p0 >>> (Int32.toUInt32 0 &&& Int32.toUInt32 31)).toInt32) &&& 255))))] H := hP
          have hD : va_D A [(a 24, .inr (6, [.ref (a 25), .int (nI ((((nt + 1) + 1) + 1) + 1))])), (a 25, .inl (cI, 200, .inl (upd (upd (upd (upd fb (Int32.toNatClampNeg (nI nt)) (((Int32.toUInt32 p0 >>> (Int32.toUInt32 24 &&& Int32.toUInt32 31)).toInt32) &&& 255)) (Int32.toNatClampNeg (nI (nt + 1))) (((Int32.toUInt32 p0 >>> (Int32.toUInt32 16 &&& Int32.toUInt32 31)).toInt32) &&& 255)) (Int32.toNatClampNeg (nI ((nt + 1) + 1))) (((Int32.toUInt32 p0 >>> (Int32.toUInt32 8 &&& Int32.toUInt32 31)).toInt32) &&& 255)) (Int32.toNatClampNeg (nI (((nt + 1) + 1) + 1))) (((Int32.toUInt32 p0 >>> (Int32.toUInt32 0 &&& Int32.toUInt32 31)).toInt32) &&& 255))))] := hD
          refine lv_iinc (v := (-8)) (lv' := [(2, .int (-8)), (0, .ref (a 24)), (1, .int p0)]) hx hb dX6_append_43 hl (k := 0) rfl (by decide) (by decide) rfl (fun ls hl => ?_)
          refine lv_goto (tgt := 3) hx hb dX6_append_46 (by decide) ?_
          refine lv_iload_n hx hb dX6_append_3 rfl (lv_at hl 0 rfl) ?_
          refine lv_if_lt (tgt := 49) hx hb dX6_append_4 (by decide) (fun _ => ?_) (fun c_9 => absurd c_9 (by decide))
          have hP9 := hP.sub (ws' := [(a 24, .inr (6, [.ref (a 25), .int (nI ((((nt + 1) + 1) + 1) + 1))])), (a 25, .inl (cI, 200, .inl (upd (upd (upd (upd fb (Int32.toNatClampNeg (nI nt)) (((Int32.toUInt32 p0 >>> (Int32.toUInt32 24 &&& Int32.toUInt32 31)).toInt32) &&& 255)) (Int32.toNatClampNeg (nI (nt + 1))) (((Int32.toUInt32 p0 >>> (Int32.toUInt32 16 &&& Int32.toUInt32 31)).toInt32) &&& 255)) (Int32.toNatClampNeg (nI ((nt + 1) + 1))) (((Int32.toUInt32 p0 >>> (Int32.toUInt32 8 &&& Int32.toUInt32 31)).toInt32) &&& 255)) (Int32.toNatClampNeg (nI (((nt + 1) + 1) + 1))) (((Int32.toUInt32 p0 >>> (Int32.toUInt32 0 &&& Int32.toUInt32 31)).toInt32) &&& 255))))]) [0, 1] rfl
          have hD9 := hD.sub (ws' := [(a 24, .inr (6, [.ref (a 25), .int (nI ((((nt + 1) + 1) + 1) + 1))])), (a 25, .inl (cI, 200, .inl (upd (upd (upd (upd fb (Int32.toNatClampNeg (nI nt)) (((Int32.toUInt32 p0 >>> (Int32.toUInt32 24 &&& Int32.toUInt32 31)).toInt32) &&& 255)) (Int32.toNatClampNeg (nI (nt + 1))) (((Int32.toUInt32 p0 >>> (Int32.toUInt32 16 &&& Int32.toUInt32 31)).toInt32) &&& 255)) (Int32.toNatClampNeg (nI ((nt + 1) + 1))) (((Int32.toUInt32 p0 >>> (Int32.toUInt32 8 &&& Int32.toUInt32 31)).toInt32) &&& 255)) (Int32.toNatClampNeg (nI (((nt + 1) + 1) + 1))) (((Int32.toUInt32 p0 >>> (Int32.toUInt32 0 &&& Int32.toUInt32 31)).toInt32) &&& 255))))]) [0, 1] (by decide) rfl
          have hK9 := hK.sub (tys' := [(cI, .int)]) [0] rfl
          exact W.vret hx hb hr (fun t ht hW => ⟨⟨(((((nt + 1) + 1) + 1) + 1), (upd (upd (upd (upd fb (Int32.toNatClampNeg (nI nt)) (((Int32.toUInt32 p0 >>> (Int32.toUInt32 24 &&& Int32.toUInt32 31)).toInt32) &&& 255)) (Int32.toNatClampNeg (nI (nt + 1))) (((Int32.toUInt32 p0 >>> (Int32.toUInt32 16 &&& Int32.toUInt32 31)).toInt32) &&& 255)) (Int32.toNatClampNeg (nI ((nt + 1) + 1))) (((Int32.toUInt32 p0 >>> (Int32.toUInt32 8 &&& Int32.toUInt32 31)).toInt32) &&& 255)) (Int32.toNatClampNeg (nI (((nt + 1) + 1) + 1))) (((Int32.toUInt32 p0 >>> (Int32.toUInt32 0 &&& Int32.toUInt32 31)).toInt32) &&& 255))), rfl, (by show _ = _; omega), by rw [ht]; exact hP9, va_K.moved hW.alike hK9, hD9⟩, hS.F ht⟩) hS.2.2 dX6_append_49

set_option maxHeartbeats 4000000 in
set_option maxRecDepth 100000 in
theorem k_at (l : Launch) (dC : Nat → ClassId) (dI : Nat → Nat → Nat) (a : Nat → Nat) (cI : ClassId) (nt : Nat) (fb : Nat → Int32) (p0 : Int32) (sz : Nat) : Met l yX6_at (zz_w yX6_at cX6_at 2 (some .int)) ({ frames := 0, cells := 0, slots := 0, locals := 0 }) (va_Pc [.ref (a 24), .int p0] (zz_B (dC, dI) sz [(a 24, .inr (6, [.ref (a 25), .int (nI nt)])), (a 25, .inl (cI, 200, .inl fb))] [(cI, .int)])) (va_Qi (fun (_ : Int32) (_ : Unit) => True) (fun _ _ => True) (va_A [] sz)) 0 0 (va_A [] sz) := by
  refine Met.ofW (cc := cX6_at) (maxL := 2) (ret := (some .int)) (by decide) rfl ?_
  intro p e s m args below meth c s₁ B hml hv
  obtain ⟨rfl, hsz, hP, hK, hD0, hN⟩ := hv
  have hx := B.exec
  have hb := B.bytes
  have hr := B.returns
  have hts := atoms_spec (ws := zz_w yX6_at cX6_at 2 (some .int)) B.pre
  have hw : ∀ w ∈ zz_all, w.before _ s = true := fun w h => hts w (List.mem_cons_of_mem _ h)
  have hown : s.vm.findClass RX6 = some m.cls := findClass_of_methodNamed B.named
  have hlocks := B.notSynchronized
  subst hsz
  have hD := hD0
  generalize hAe : va_A [] s.heap.size = A
  have hA : ∀ q : Nat, s.heap.size ≤ q → A q := fun q h => by rw [← hAe]; exact Or.inr h
  have hS : va_S A s.heap s.heap [] := va_S.rf
  have hP : va_P (dC, dI) vwCl [(a 24, .inr (6, [.ref (a 25), .int (nI nt)])), (a 25, .inl (cI, 200, .inl fb))] s.heap := hP
  have hl := lv_entry ([.ref (a 24), .int p0]) (n := 2) (Nat.le_of_ble_eq_true rfl)
  rw [lg_entry_eq]
  generalize (lg_sl ([.ref (a 24), .int p0]) ++ List.replicate (2 - (lg_sl ([.ref (a 24), .int p0])).length) Slot.unset).toArray = ls at hl ⊢
  have hl : lv_has ls 2 [(0, .ref (a 24)), (1, .int p0)] := hl
  refine lv_iload_n hx hb dX6_at_0 rfl (lv_at hl 1 rfl) ?_
  refine lv_if_lt (tgt := 28) hx hb dX6_at_1 (by decide) (fun c_1 => ?_) (fun c_1 => ?_)
  · have zc_1 := c_1
    rw [Int32.lt_iff_toInt_lt] at zc_1
    try rw [show (0 : Int32).toInt = 0 from by decide] at zc_1
    refine lv_bipush (v := 32) hx hb dX6_at_28 (by decide) ?_
    exact W.iret (v := 32) hx hb hr (fun t ht hW => ⟨⟨32, (), rfl, trivial, trivial⟩, hS.F ht⟩) hS.2.2 dX6_at_30
  · have zc_1 := c_1
    rw [Int32.lt_iff_toInt_lt] at zc_1
    try rw [show (0 : Int32).toInt = 0 from by decide] at zc_1
    refine lv_iload_n hx hb dX6_at_4 rfl (lv_at hl 1 rfl) ?_
    refine lv_aload_n hx hb dX6_at_5 rfl (lv_at hl 0 rfl) ?_
    refine va_get (D := (dC, dI)) (ci := 6) (v := .int (nI nt)) (C := RX6) (T := TX6) (N := 2) hx hb hw zz_inX6 hown hK hP 0 rfl rfl 1 (by decide) (hw _ tw_95) (fun _ h9 => h9) rfl dX6_at_6 ?_
    refine lv_icmp_ge (tgt := 28) hx hb dX6_at_9 (by decide) (fun c_2 => ?_) (fun c_2 => ?_)
    · have zc_2 := c_2
      rw [Int32.le_iff_toInt_le] at zc_2
      try rw [zz_toInt nt (by omega)] at zc_2
      refine lv_bipush (v := 32) hx hb dX6_at_28 (by decide) ?_
      exact W.iret (v := 32) hx hb hr (fun t ht hW => ⟨⟨32, (), rfl, trivial, trivial⟩, hS.F ht⟩) hS.2.2 dX6_at_30
    · have zc_2 := c_2
      rw [Int32.le_iff_toInt_le] at zc_2
      try rw [zz_toInt nt (by omega)] at zc_2
      refine lv_iload_n hx hb dX6_at_12 rfl (lv_at hl 1 rfl) ?_
      refine lv_sipush (v := 200) hx hb dX6_at_13 (by decide) ?_
      refine lv_icmp_ge (tgt := 28) hx hb dX6_at_16 (by decide) (fun c_3 => ?_) (fun c_3 => ?_)
      · have zc_3 := c_3
        rw [Int32.le_iff_toInt_le] at zc_3
        try rw [show (200 : Int32).toInt = 200 from by decide] at zc_3
        refine lv_bipush (v := 32) hx hb dX6_at_28 (by decide) ?_
        exact W.iret (v := 32) hx hb hr (fun t ht hW => ⟨⟨32, (), rfl, trivial, trivial⟩, hS.F ht⟩) hS.2.2 dX6_at_30
      · have zc_3 := c_3
        rw [Int32.le_iff_toInt_le] at zc_3
        try rw [show (200 : Int32).toInt = 200 from by decide] at zc_3
        refine lv_aload_n hx hb dX6_at_19 rfl (lv_at hl 0 rfl) ?_
        refine va_get (D := (dC, dI)) (ci := 6) (v := .ref (a 25)) (C := RX6) (T := TX6) (N := 2) hx hb hw zz_inX6 hown hK hP 0 rfl rfl 0 (by decide) (hw _ tw_96) (fun _ h9 => h9) rfl dX6_at_20 ?_
        refine lv_iload_n hx hb dX6_at_23 rfl (lv_at hl 1 rfl) ?_
        refine va_iald hx hb hK hP 1 0 rfl rfl (vp_in_iff.mpr (by constructor <;> omega)) dX6_at_24 ?_
        refine lv_goto (tgt := 30) hx hb dX6_at_25 (by decide) ?_
        exact W.iret (v := (fb (Int32.toNatClampNeg p0))) hx hb hr (fun t ht hW => ⟨⟨(fb (Int32.toNatClampNeg p0)), (), rfl, trivial, trivial⟩, hS.F ht⟩) hS.2.2 dX6_at_30

set_option maxHeartbeats 4000000 in
set_option maxRecDepth 100000 in
theorem k_feed (l : Launch) (dC : Nat → ClassId) (dI : Nat → Nat → Nat) (a : Nat → Nat) (nh : Nat) (nf : Nat) (clk : Int32) (hi : Int32) (cI : ClassId) (nt : Nat) (fb : Nat → Int32) (p0 : Int32) (p1 : Int32) (p2 : Int32) (p3 : Int32) (p4 : Int32) (sz : Nat) (ht : nt ≤ 200) : Met l yX7_feed (zz_w yX7_feed cX7_feed 6 (some .int)) ({ frames := 1, cells := 0, slots := 0, locals := 22 }) (va_Pc [.ref (a 0), .int p0, .int p1, .int p2, .int p3, .int p4] (zz_B (dC, dI) sz [(a 0, .inr (7, [.ref (a 1), .ref (a 10), .ref (a 23), .ref (a 24), .ref (a 26), .ref (a 29), .ref (a 34), .ref (a 43), .int (nI nh), .int (nI nf), .int clk, .int hi])), (a 24, .inr (6, [.ref (a 25), .int (nI nt)])), (a 25, .inl (cI, 200, .inl fb))] [(cI, .int)])) (va_Qi (fun (r : Int32) (u : Nat × (Nat → Int32)) => match u with | (t2, _) => (nt ≤ 180 ∧ r = nI t2 ∧ t2 = nt + 20) ∨ (¬ nt ≤ 180 ∧ r = -1 ∧ t2 = nt)) (fun (u : Nat × (Nat → Int32)) (t : State) => match u with | (u0, u1) => va_P (dC, dI) vwCl [(a 0, .inr (7, [.ref (a 1), .ref (a 10), .ref (a 23), .ref (a 24), .ref (a 26), .ref (a 29), .ref (a 34), .ref (a 43), .int (nI nh), .int (nI nf), .int clk, .int hi])), (a 24, .inr (6, [.ref (a 25), .int (nI u0)])), (a 25, .inl (cI, 200, .inl u1))] t.heap ∧ va_K (dC, dI) vwCl [(cI, .int)] t ∧ va_D (va_A [(a 0, .inr (7, [.ref (a 1), .ref (a 10), .ref (a 23), .ref (a 24), .ref (a 26), .ref (a 29), .ref (a 34), .ref (a 43), .int (nI nh), .int (nI nf), .int clk, .int hi])), (a 24, .inr (6, [.ref (a 25), .int (nI nt)])), (a 25, .inl (cI, 200, .inl fb))] sz) [(a 0, .inr (7, [.ref (a 1), .ref (a 10), .ref (a 23), .ref (a 24), .ref (a 26), .ref (a 29), .ref (a 34), .ref (a 43), .int (nI nh), .int (nI nf), .int clk, .int hi])), (a 24, .inr (6, [.ref (a 25), .int (nI u0)])), (a 25, .inl (cI, 200, .inl u1))]) (va_A [(a 0, .inr (7, [.ref (a 1), .ref (a 10), .ref (a 23), .ref (a 24), .ref (a 26), .ref (a 29), .ref (a 34), .ref (a 43), .int (nI nh), .int (nI nf), .int clk, .int hi])), (a 24, .inr (6, [.ref (a 25), .int (nI nt)])), (a 25, .inl (cI, 200, .inl fb))] sz)) 0 0 (va_A [(a 0, .inr (7, [.ref (a 1), .ref (a 10), .ref (a 23), .ref (a 24), .ref (a 26), .ref (a 29), .ref (a 34), .ref (a 43), .int (nI nh), .int (nI nf), .int clk, .int hi])), (a 24, .inr (6, [.ref (a 25), .int (nI nt)])), (a 25, .inl (cI, 200, .inl fb))] sz) := by
  refine Met.ofW (cc := cX7_feed) (maxL := 6) (ret := (some .int)) (by decide) rfl ?_
  intro p e s m args below meth c s₁ B hml hv
  obtain ⟨rfl, hsz, hP, hK, hD0, hN⟩ := hv
  have hx := B.exec
  have hb := B.bytes
  have hr := B.returns
  have hts := atoms_spec (ws := zz_w yX7_feed cX7_feed 6 (some .int)) B.pre
  have hw : ∀ w ∈ zz_all, w.before _ s = true := fun w h => hts w (List.mem_cons_of_mem _ h)
  have hown : s.vm.findClass RX7 = some m.cls := findClass_of_methodNamed B.named
  have hlocks := B.notSynchronized
  subst hsz
  have hD := hD0.self (sz := s.heap.size)
  generalize hAe : va_A [(a 0, .inr (7, [.ref (a 1), .ref (a 10), .ref (a 23), .ref (a 24), .ref (a 26), .ref (a 29), .ref (a 34), .ref (a 43), .int (nI nh), .int (nI nf), .int clk, .int hi])), (a 24, .inr (6, [.ref (a 25), .int (nI nt)])), (a 25, .inl (cI, 200, .inl fb))] s.heap.size = A at hD ⊢
  have hA : ∀ q : Nat, s.heap.size ≤ q → A q := fun q h => by rw [← hAe]; exact Or.inr h
  have hS : va_S A s.heap s.heap [] := va_S.rf
  have hP : va_P (dC, dI) vwCl [(a 0, .inr (7, [.ref (a 1), .ref (a 10), .ref (a 23), .ref (a 24), .ref (a 26), .ref (a 29), .ref (a 34), .ref (a 43), .int (nI nh), .int (nI nf), .int clk, .int hi])), (a 24, .inr (6, [.ref (a 25), .int (nI nt)])), (a 25, .inl (cI, 200, .inl fb))] s.heap := hP
  have hl := lv_entry ([.ref (a 0), .int p0, .int p1, .int p2, .int p3, .int p4]) (n := 6) (Nat.le_of_ble_eq_true rfl)
  rw [lg_entry_eq]
  generalize (lg_sl ([.ref (a 0), .int p0, .int p1, .int p2, .int p3, .int p4]) ++ List.replicate (6 - (lg_sl ([.ref (a 0), .int p0, .int p1, .int p2, .int p3, .int p4])).length) Slot.unset).toArray = ls at hl ⊢
  have hl : lv_has ls 6 [(0, .ref (a 0)), (1, .int p0), (2, .int p1), (3, .int p2), (4, .int p3), (5, .int p4)] := hl
  refine lv_aload_n hx hb dX7_feed_0 rfl (lv_at hl 0 rfl) ?_
  refine va_get (D := (dC, dI)) (ci := 7) (v := .ref (a 24)) (C := RX7) (T := TX7) (N := 12) hx hb hw zz_inX7 hown hK hP 0 rfl rfl 3 (by decide) (hw _ tw_97) (fun _ h9 => h9) rfl dX7_feed_1 ?_
  refine va_getN (D := (dC, dI)) (ci := 6) (v := .int (nI nt)) (C := RX6) (T := TX6) (N := 2) hx hb hw zz_inX6 hown hK hP 1 rfl rfl 1 (by decide) (hN.use zz_n23) (fun _ h9 => h9) rfl dX7_feed_4 ?_
  refine lv_sipush (v := 180) hx hb dX7_feed_7 (by decide) ?_
  refine lv_icmp_le (tgt := 15) hx hb dX7_feed_10 (by decide) (fun c_1 => ?_) (fun c_1 => ?_)
  · have zc_1 := c_1
    rw [Int32.le_iff_toInt_le] at zc_1
    try rw [zz_toInt nt (by omega)] at zc_1
    try rw [show (180 : Int32).toInt = 180 from by decide] at zc_1
    refine lv_aload_n hx hb dX7_feed_15 rfl (lv_at hl 0 rfl) ?_
    refine va_get (D := (dC, dI)) (ci := 7) (v := .ref (a 24)) (C := RX7) (T := TX7) (N := 12) hx hb hw zz_inX7 hown hK hP 0 rfl rfl 3 (by decide) (hw _ tw_97) (fun _ h9 => h9) rfl dX7_feed_16 ?_
    refine lv_iload_n hx hb dX7_feed_19 rfl (lv_at hl 1 rfl) ?_
    have hPc := hP.sub (ws' := [(a 24, .inr (6, [.ref (a 25), .int (nI nt)])), (a 25, .inl (cI, 200, .inl fb))]) [1, 2] rfl
    have hDc := hD.sub (ws' := [(a 24, .inr (6, [.ref (a 25), .int (nI nt)])), (a 25, .inl (cI, 200, .inl fb))]) [1, 2] (by decide) rfl
    have hKc := hK.sub (tys' := [(cI, .int)]) [0] rfl
    have hFc := va_free (wc := [(a 24, .inr (6, [.ref (a 25), .int (nI nt)])), (a 25, .inl (cI, 200, .inl fb))]) hD hS hA [1, 2] rfl
    refine va_callv (va_runVN (As := [.int p0]) (rest := []) ⟨hx, hb, hml, hown, hw⟩ (k_append l dC dI a cI nt fb p0 s.heap.size (by omega)) ⟨va_cnB 1 hw (zz_good tw_98) rfl rfl rfl (hN.1 _ zz_n46) (hw _ tw_99) (by decide +kernel) ⟨Nat.le_of_ble_eq_true rfl, Nat.le_of_ble_eq_true rfl⟩, (hw _ tw_100), (hw _ tw_101)⟩ ⟨zz_blind, va_recv hKc hPc (ci := 6) (q0 := 0) rfl rfl, zz_pre hPc hKc hDc hN⟩ rfl rfl hl.1 rfl (lv_room (Nat.le_of_ble_eq_true rfl)) dX7_feed_20 ⟨Nat.le_of_ble_eq_true rfl, Nat.le_of_ble_eq_true rfl⟩) hS (fun q _ h => hFc q h) hFc (fun u_2 t H1 locs ht hvm e_2 hB hz1 hk1 hS => ?_)
    try dsimp only at e_2
    obtain ⟨v_2_0, v_2_1⟩ := u_2
    obtain ⟨hP1, hK1, hD1⟩ := hB
    rw [ht] at hP1
    have hK1 := va_K.moved hvm.symm hK1
    try dsimp only at e_2
    obtain ⟨hP, hD⟩ := va_join (wr := [(a 0, .inr (7, [.ref (a 1), .ref (a 10), .ref (a 23), .ref (a 24), .ref (a 26), .ref (a 29), .ref (a 34), .ref (a 43), .int (nI nh), .int (nI nf), .int clk, .int hi]))]) (w1 := [(a 24, .inr (6, [.ref (a 25), .int (nI v_2_0)])), (a 25, .inl (cI, 200, .inl v_2_1))]) hP hD [1, 2] [0] rfl rfl (by decide) (by decide) hk1 hFc hP1 hD1
    clear hk1 ht hvm
    generalize H1 = H at hP hS ⊢
    have hP : va_P (dC, dI) vwCl [(a 0, .inr (7, [.ref (a 1), .ref (a 10), .ref (a 23), .ref (a 24), .ref (a 26), .ref (a 29), .ref (a 34), .ref (a 43), .int (nI nh), .int (nI nf), .int clk, .int hi])), (a 24, .inr (6, [.ref (a 25), .int (nI v_2_0)])), (a 25, .inl (cI, 200, .inl v_2_1))] H := hP
    have hD : va_D A [(a 0, .inr (7, [.ref (a 1), .ref (a 10), .ref (a 23), .ref (a 24), .ref (a 26), .ref (a 29), .ref (a 34), .ref (a 43), .int (nI nh), .int (nI nf), .int clk, .int hi])), (a 24, .inr (6, [.ref (a 25), .int (nI v_2_0)])), (a 25, .inl (cI, 200, .inl v_2_1))] := hD
    refine lv_aload_n hx hb dX7_feed_23 rfl (lv_at hl 0 rfl) ?_
    refine va_get (D := (dC, dI)) (ci := 7) (v := .ref (a 24)) (C := RX7) (T := TX7) (N := 12) hx hb hw zz_inX7 hown hK hP 0 rfl rfl 3 (by decide) (hw _ tw_97) (fun _ h9 => h9) rfl dX7_feed_24 ?_
    refine lv_iload_n hx hb dX7_feed_27 rfl (lv_at hl 2 rfl) ?_
    have hPc := hP.sub (ws' := [(a 24, .inr (6, [.ref (a 25), .int (nI v_2_0)])), (a 25, .inl (cI, 200, .inl v_2_1))]) [1, 2] rfl
    have hDc := hD.sub (ws' := [(a 24, .inr (6, [.ref (a 25), .int (nI v_2_0)])), (a 25, .inl (cI, 200, .inl v_2_1))]) [1, 2] (by decide) rfl
    have hKc := hK.sub (tys' := [(cI, .int)]) [0] rfl
    have hFc := va_free (wc := [(a 24, .inr (6, [.ref (a 25), .int (nI v_2_0)])), (a 25, .inl (cI, 200, .inl v_2_1))]) hD hS hA [1, 2] rfl
    refine va_callv (va_runVN (As := [.int p1]) (rest := []) ⟨hx, hb, hml, hown, hw⟩ (k_append l dC dI a cI v_2_0 v_2_1 p1 H.size (by omega)) ⟨va_cnB 1 hw (zz_good tw_98) rfl rfl rfl (hN.1 _ zz_n46) (hw _ tw_99) (by decide +kernel) ⟨Nat.le_of_ble_eq_true rfl, Nat.le_of_ble_eq_true rfl⟩, (hw _ tw_100), (hw _ tw_101)⟩ ⟨zz_blind, va_recv hKc hPc (ci := 6) (q0 := 0) rfl rfl, zz_pre hPc hKc hDc hN⟩ rfl rfl hl.1 rfl (lv_room (Nat.le_of_ble_eq_true rfl)) dX7_feed_28 ⟨Nat.le_of_ble_eq_true rfl, Nat.le_of_ble_eq_true rfl⟩) hS (fun q _ h => hFc q h) hFc (fun u_3 t H1 locs ht hvm e_3 hB hz1 hk1 hS => ?_)
    try dsimp only at e_3
    obtain ⟨v_3_0, v_3_1⟩ := u_3
    obtain ⟨hP1, hK1, hD1⟩ := hB
    rw [ht] at hP1
    have hK1 := va_K.moved hvm.symm hK1
    try dsimp only at e_3
    obtain ⟨hP, hD⟩ := va_join (wr := [(a 0, .inr (7, [.ref (a 1), .ref (a 10), .ref (a 23), .ref (a 24), .ref (a 26), .ref (a 29), .ref (a 34), .ref (a 43), .int (nI nh), .int (nI nf), .int clk, .int hi]))]) (w1 := [(a 24, .inr (6, [.ref (a 25), .int (nI v_3_0)])), (a 25, .inl (cI, 200, .inl v_3_1))]) hP hD [1, 2] [0] rfl rfl (by decide) (by decide) hk1 hFc hP1 hD1
    clear hk1 ht hvm
    generalize H1 = H at hP hS ⊢
    have hP : va_P (dC, dI) vwCl [(a 0, .inr (7, [.ref (a 1), .ref (a 10), .ref (a 23), .ref (a 24), .ref (a 26), .ref (a 29), .ref (a 34), .ref (a 43), .int (nI nh), .int (nI nf), .int clk, .int hi])), (a 24, .inr (6, [.ref (a 25), .int (nI v_3_0)])), (a 25, .inl (cI, 200, .inl v_3_1))] H := hP
    have hD : va_D A [(a 0, .inr (7, [.ref (a 1), .ref (a 10), .ref (a 23), .ref (a 24), .ref (a 26), .ref (a 29), .ref (a 34), .ref (a 43), .int (nI nh), .int (nI nf), .int clk, .int hi])), (a 24, .inr (6, [.ref (a 25), .int (nI v_3_0)])), (a 25, .inl (cI, 200, .inl v_3_1))] := hD
    refine lv_aload_n hx hb dX7_feed_31 rfl (lv_at hl 0 rfl) ?_
    refine va_get (D := (dC, dI)) (ci := 7) (v := .ref (a 24)) (C := RX7) (T := TX7) (N := 12) hx hb hw zz_inX7 hown hK hP 0 rfl rfl 3 (by decide) (hw _ tw_97) (fun _ h9 => h9) rfl dX7_feed_32 ?_
    refine lv_iload_n hx hb dX7_feed_35 rfl (lv_at hl 3 rfl) ?_
    have hPc := hP.sub (ws' := [(a 24, .inr (6, [.ref (a 25), .int (nI v_3_0)])), (a 25, .inl (cI, 200, .inl v_3_1))]) [1, 2] rfl
    have hDc := hD.sub (ws' := [(a 24, .inr (6, [.ref (a 25), .int (nI v_3_0)])), (a 25, .inl (cI, 200, .inl v_3_1))]) [1, 2] (by decide) rfl
    have hKc := hK.sub (tys' := [(cI, .int)]) [0] rfl
    have hFc := va_free (wc := [(a 24, .inr (6, [.ref (a 25), .int (nI v_3_0)])), (a 25, .inl (cI, 200, .inl v_3_1))]) hD hS hA [1, 2] rfl
    refine va_callv (va_runVN (As := [.int p2]) (rest := []) ⟨hx, hb, hml, hown, hw⟩ (k_append l dC dI a cI v_3_0 v_3_1 p2 H.size (by omega)) ⟨va_cnB 1 hw (zz_good tw_98) rfl rfl rfl (hN.1 _ zz_n46) (hw _ tw_99) (by decide +kernel) ⟨Nat.le_of_ble_eq_true rfl, Nat.le_of_ble_eq_true rfl⟩, (hw _ tw_100), (hw _ tw_101)⟩ ⟨zz_blind, va_recv hKc hPc (ci := 6) (q0 := 0) rfl rfl, zz_pre hPc hKc hDc hN⟩ rfl rfl hl.1 rfl (lv_room (Nat.le_of_ble_eq_true rfl)) dX7_feed_36 ⟨Nat.le_of_ble_eq_true rfl, Nat.le_of_ble_eq_true rfl⟩) hS (fun q _ h => hFc q h) hFc (fun u_4 t H1 locs ht hvm e_4 hB hz1 hk1 hS => ?_)
    try dsimp only at e_4
    obtain ⟨v_4_0, v_4_1⟩ := u_4
    obtain ⟨hP1, hK1, hD1⟩ := hB
    rw [ht] at hP1
    have hK1 := va_K.moved hvm.symm hK1
    try dsimp only at e_4
    obtain ⟨hP, hD⟩ := va_join (wr := [(a 0, .inr (7, [.ref (a 1), .ref (a 10), .ref (a 23), .ref (a 24), .ref (a 26), .ref (a 29), .ref (a 34), .ref (a 43), .int (nI nh), .int (nI nf), .int clk, .int hi]))]) (w1 := [(a 24, .inr (6, [.ref (a 25), .int (nI v_4_0)])), (a 25, .inl (cI, 200, .inl v_4_1))]) hP hD [1, 2] [0] rfl rfl (by decide) (by decide) hk1 hFc hP1 hD1
    clear hk1 ht hvm
    generalize H1 = H at hP hS ⊢
    have hP : va_P (dC, dI) vwCl [(a 0, .inr (7, [.ref (a 1), .ref (a 10), .ref (a 23), .ref (a 24), .ref (a 26), .ref (a 29), .ref (a 34), .ref (a 43), .int (nI nh), .int (nI nf), .int clk, .int hi])), (a 24, .inr (6, [.ref (a 25), .int (nI v_4_0)])), (a 25, .inl (cI, 200, .inl v_4_1))] H := hP
    have hD : va_D A [(a 0, .inr (7, [.ref (a 1), .ref (a 10), .ref (a 23), .ref (a 24), .ref (a 26), .ref (a 29), .ref (a 34), .ref (a 43), .int (nI nh), .int (nI nf), .int clk, .int hi])), (a 24, .inr (6, [.ref (a 25), .int (nI v_4_0)])), (a 25, .inl (cI, 200, .inl v_4_1))] := hD
    refine lv_aload_n hx hb dX7_feed_39 rfl (lv_at hl 0 rfl) ?_
    refine va_get (D := (dC, dI)) (ci := 7) (v := .ref (a 24)) (C := RX7) (T := TX7) (N := 12) hx hb hw zz_inX7 hown hK hP 0 rfl rfl 3 (by decide) (hw _ tw_97) (fun _ h9 => h9) rfl dX7_feed_40 ?_
    refine lv_iload hx hb dX7_feed_43 (lv_at hl 4 rfl) ?_
    have hPc := hP.sub (ws' := [(a 24, .inr (6, [.ref (a 25), .int (nI v_4_0)])), (a 25, .inl (cI, 200, .inl v_4_1))]) [1, 2] rfl
    have hDc := hD.sub (ws' := [(a 24, .inr (6, [.ref (a 25), .int (nI v_4_0)])), (a 25, .inl (cI, 200, .inl v_4_1))]) [1, 2] (by decide) rfl
    have hKc := hK.sub (tys' := [(cI, .int)]) [0] rfl
    have hFc := va_free (wc := [(a 24, .inr (6, [.ref (a 25), .int (nI v_4_0)])), (a 25, .inl (cI, 200, .inl v_4_1))]) hD hS hA [1, 2] rfl
    refine va_callv (va_runVN (As := [.int p3]) (rest := []) ⟨hx, hb, hml, hown, hw⟩ (k_append l dC dI a cI v_4_0 v_4_1 p3 H.size (by omega)) ⟨va_cnB 1 hw (zz_good tw_98) rfl rfl rfl (hN.1 _ zz_n46) (hw _ tw_99) (by decide +kernel) ⟨Nat.le_of_ble_eq_true rfl, Nat.le_of_ble_eq_true rfl⟩, (hw _ tw_100), (hw _ tw_101)⟩ ⟨zz_blind, va_recv hKc hPc (ci := 6) (q0 := 0) rfl rfl, zz_pre hPc hKc hDc hN⟩ rfl rfl hl.1 rfl (lv_room (Nat.le_of_ble_eq_true rfl)) dX7_feed_45 ⟨Nat.le_of_ble_eq_true rfl, Nat.le_of_ble_eq_true rfl⟩) hS (fun q _ h => hFc q h) hFc (fun u_5 t H1 locs ht hvm e_5 hB hz1 hk1 hS => ?_)
    try dsimp only at e_5
    obtain ⟨v_5_0, v_5_1⟩ := u_5
    obtain ⟨hP1, hK1, hD1⟩ := hB
    rw [ht] at hP1
    have hK1 := va_K.moved hvm.symm hK1
    try dsimp only at e_5
    obtain ⟨hP, hD⟩ := va_join (wr := [(a 0, .inr (7, [.ref (a 1), .ref (a 10), .ref (a 23), .ref (a 24), .ref (a 26), .ref (a 29), .ref (a 34), .ref (a 43), .int (nI nh), .int (nI nf), .int clk, .int hi]))]) (w1 := [(a 24, .inr (6, [.ref (a 25), .int (nI v_5_0)])), (a 25, .inl (cI, 200, .inl v_5_1))]) hP hD [1, 2] [0] rfl rfl (by decide) (by decide) hk1 hFc hP1 hD1
    clear hk1 ht hvm
    generalize H1 = H at hP hS ⊢
    have hP : va_P (dC, dI) vwCl [(a 0, .inr (7, [.ref (a 1), .ref (a 10), .ref (a 23), .ref (a 24), .ref (a 26), .ref (a 29), .ref (a 34), .ref (a 43), .int (nI nh), .int (nI nf), .int clk, .int hi])), (a 24, .inr (6, [.ref (a 25), .int (nI v_5_0)])), (a 25, .inl (cI, 200, .inl v_5_1))] H := hP
    have hD : va_D A [(a 0, .inr (7, [.ref (a 1), .ref (a 10), .ref (a 23), .ref (a 24), .ref (a 26), .ref (a 29), .ref (a 34), .ref (a 43), .int (nI nh), .int (nI nf), .int clk, .int hi])), (a 24, .inr (6, [.ref (a 25), .int (nI v_5_0)])), (a 25, .inl (cI, 200, .inl v_5_1))] := hD
    refine lv_aload_n hx hb dX7_feed_48 rfl (lv_at hl 0 rfl) ?_
    refine va_get (D := (dC, dI)) (ci := 7) (v := .ref (a 24)) (C := RX7) (T := TX7) (N := 12) hx hb hw zz_inX7 hown hK hP 0 rfl rfl 3 (by decide) (hw _ tw_97) (fun _ h9 => h9) rfl dX7_feed_49 ?_
    refine lv_iload hx hb dX7_feed_52 (lv_at hl 5 rfl) ?_
    have hPc := hP.sub (ws' := [(a 24, .inr (6, [.ref (a 25), .int (nI v_5_0)])), (a 25, .inl (cI, 200, .inl v_5_1))]) [1, 2] rfl
    have hDc := hD.sub (ws' := [(a 24, .inr (6, [.ref (a 25), .int (nI v_5_0)])), (a 25, .inl (cI, 200, .inl v_5_1))]) [1, 2] (by decide) rfl
    have hKc := hK.sub (tys' := [(cI, .int)]) [0] rfl
    have hFc := va_free (wc := [(a 24, .inr (6, [.ref (a 25), .int (nI v_5_0)])), (a 25, .inl (cI, 200, .inl v_5_1))]) hD hS hA [1, 2] rfl
    refine va_callv (va_runVN (As := [.int p4]) (rest := []) ⟨hx, hb, hml, hown, hw⟩ (k_append l dC dI a cI v_5_0 v_5_1 p4 H.size (by omega)) ⟨va_cnB 1 hw (zz_good tw_98) rfl rfl rfl (hN.1 _ zz_n46) (hw _ tw_99) (by decide +kernel) ⟨Nat.le_of_ble_eq_true rfl, Nat.le_of_ble_eq_true rfl⟩, (hw _ tw_100), (hw _ tw_101)⟩ ⟨zz_blind, va_recv hKc hPc (ci := 6) (q0 := 0) rfl rfl, zz_pre hPc hKc hDc hN⟩ rfl rfl hl.1 rfl (lv_room (Nat.le_of_ble_eq_true rfl)) dX7_feed_54 ⟨Nat.le_of_ble_eq_true rfl, Nat.le_of_ble_eq_true rfl⟩) hS (fun q _ h => hFc q h) hFc (fun u_6 t H1 locs ht hvm e_6 hB hz1 hk1 hS => ?_)
    try dsimp only at e_6
    obtain ⟨v_6_0, v_6_1⟩ := u_6
    obtain ⟨hP1, hK1, hD1⟩ := hB
    rw [ht] at hP1
    have hK1 := va_K.moved hvm.symm hK1
    try dsimp only at e_6
    obtain ⟨hP, hD⟩ := va_join (wr := [(a 0, .inr (7, [.ref (a 1), .ref (a 10), .ref (a 23), .ref (a 24), .ref (a 26), .ref (a 29), .ref (a 34), .ref (a 43), .int (nI nh), .int (nI nf), .int clk, .int hi]))]) (w1 := [(a 24, .inr (6, [.ref (a 25), .int (nI v_6_0)])), (a 25, .inl (cI, 200, .inl v_6_1))]) hP hD [1, 2] [0] rfl rfl (by decide) (by decide) hk1 hFc hP1 hD1
    clear hk1 ht hvm
    generalize H1 = H at hP hS ⊢
    have hP : va_P (dC, dI) vwCl [(a 0, .inr (7, [.ref (a 1), .ref (a 10), .ref (a 23), .ref (a 24), .ref (a 26), .ref (a 29), .ref (a 34), .ref (a 43), .int (nI nh), .int (nI nf), .int clk, .int hi])), (a 24, .inr (6, [.ref (a 25), .int (nI v_6_0)])), (a 25, .inl (cI, 200, .inl v_6_1))] H := hP
    have hD : va_D A [(a 0, .inr (7, [.ref (a 1), .ref (a 10), .ref (a 23), .ref (a 24), .ref (a 26), .ref (a 29), .ref (a 34), .ref (a 43), .int (nI nh), .int (nI nf), .int clk, .int hi])), (a 24, .inr (6, [.ref (a 25), .int (nI v_6_0)])), (a 25, .inl (cI, 200, .inl v_6_1))] := hD
    refine lv_aload_n hx hb dX7_feed_57 rfl (lv_at hl 0 rfl) ?_
    refine va_get (D := (dC, dI)) (ci := 7) (v := .ref (a 24)) (C := RX7) (T := TX7) (N := 12) hx hb hw zz_inX7 hown hK hP 0 rfl rfl 3 (by decide) (hw _ tw_97) (fun _ h9 => h9) rfl dX7_feed_58 ?_
    refine va_getN (D := (dC, dI)) (ci := 6) (v := .int (nI v_6_0)) (C := RX6) (T := TX6) (N := 2) hx hb hw zz_inX6 hown hK hP 1 rfl rfl 1 (by decide) (hN.use zz_n23) (fun _ h9 => h9) rfl dX7_feed_61 ?_
    have hP9 := hP.sub (ws' := [(a 0, .inr (7, [.ref (a 1), .ref (a 10), .ref (a 23), .ref (a 24), .ref (a 26), .ref (a 29), .ref (a 34), .ref (a 43), .int (nI nh), .int (nI nf), .int clk, .int hi])), (a 24, .inr (6, [.ref (a 25), .int (nI v_6_0)])), (a 25, .inl (cI, 200, .inl v_6_1))]) [0, 1, 2] rfl
    have hD9 := hD.sub (ws' := [(a 0, .inr (7, [.ref (a 1), .ref (a 10), .ref (a 23), .ref (a 24), .ref (a 26), .ref (a 29), .ref (a 34), .ref (a 43), .int (nI nh), .int (nI nf), .int clk, .int hi])), (a 24, .inr (6, [.ref (a 25), .int (nI v_6_0)])), (a 25, .inl (cI, 200, .inl v_6_1))]) [0, 1, 2] (by decide) rfl
    have hK9 := hK.sub (tys' := [(cI, .int)]) [0] rfl
    exact W.iret (v := (nI v_6_0)) hx hb hr (fun t ht hW => ⟨⟨(nI v_6_0), (v_6_0, v_6_1), rfl, (by first | exact Or.inl ⟨by omega, rfl, by omega⟩ | exact Or.inr ⟨by omega, rfl, rfl⟩), by rw [ht]; exact hP9, va_K.moved hW.alike hK9, hD9⟩, hS.F ht⟩) hS.2.2 dX7_feed_64
  · have zc_1 := c_1
    rw [Int32.le_iff_toInt_le] at zc_1
    try rw [zz_toInt nt (by omega)] at zc_1
    try rw [show (180 : Int32).toInt = 180 from by decide] at zc_1
    refine lv_iconst (v := (-1)) hx hb dX7_feed_13 (by decide) ?_
    have hP9 := hP.sub (ws' := [(a 0, .inr (7, [.ref (a 1), .ref (a 10), .ref (a 23), .ref (a 24), .ref (a 26), .ref (a 29), .ref (a 34), .ref (a 43), .int (nI nh), .int (nI nf), .int clk, .int hi])), (a 24, .inr (6, [.ref (a 25), .int (nI nt)])), (a 25, .inl (cI, 200, .inl fb))]) [0, 1, 2] rfl
    have hD9 := hD.sub (ws' := [(a 0, .inr (7, [.ref (a 1), .ref (a 10), .ref (a 23), .ref (a 24), .ref (a 26), .ref (a 29), .ref (a 34), .ref (a 43), .int (nI nh), .int (nI nf), .int clk, .int hi])), (a 24, .inr (6, [.ref (a 25), .int (nI nt)])), (a 25, .inl (cI, 200, .inl fb))]) [0, 1, 2] (by decide) rfl
    have hK9 := hK.sub (tys' := [(cI, .int)]) [0] rfl
    exact W.iret (v := (-1)) hx hb hr (fun t ht hW => ⟨⟨(-1), (nt, fb), rfl, (by first | exact Or.inl ⟨by omega, rfl, by omega⟩ | exact Or.inr ⟨by omega, rfl, rfl⟩), by rw [ht]; exact hP9, va_K.moved hW.alike hK9, hD9⟩, hS.F ht⟩) hS.2.2 dX7_feed_14

set_option maxHeartbeats 4000000 in
set_option maxRecDepth 100000 in
theorem k_end (l : Launch) (dC : Nat → ClassId) (dI : Nat → Nat → Nat) (a : Nat → Nat) (nh : Nat) (nf : Nat) (clk : Int32) (hi : Int32) (nt : Nat) (p0 : Int32) (sz : Nat) (ht : nt ≤ 200) : Met l yX7_end (zz_w yX7_end cX7_end 2 (some .int)) ({ frames := 1, cells := 0, slots := 0, locals := 22 }) (va_Pc [.ref (a 0), .int p0] (zz_B (dC, dI) sz [(a 0, .inr (7, [.ref (a 1), .ref (a 10), .ref (a 23), .ref (a 24), .ref (a 26), .ref (a 29), .ref (a 34), .ref (a 43), .int (nI nh), .int (nI nf), .int clk, .int hi])), (a 24, .inr (6, [.ref (a 25), .int (nI nt)]))] [])) (va_Qi (fun (r : Int32) (t2 : Nat) => ((0 ≤ p0.toInt ∧ p0.toInt ≤ (nt : Int)) ∧ r = p0 ∧ (t2 : Int) = p0.toInt) ∨ (¬ (0 ≤ p0.toInt ∧ p0.toInt ≤ (nt : Int)) ∧ r = -1 ∧ t2 = nt)) (fun (u0 : Nat) (t : State) => va_P (dC, dI) vwCl [(a 0, .inr (7, [.ref (a 1), .ref (a 10), .ref (a 23), .ref (a 24), .ref (a 26), .ref (a 29), .ref (a 34), .ref (a 43), .int (nI nh), .int (nI nf), .int clk, .int hi])), (a 24, .inr (6, [.ref (a 25), .int (nI u0)]))] t.heap ∧ va_K (dC, dI) vwCl [] t ∧ va_D (va_A [(a 0, .inr (7, [.ref (a 1), .ref (a 10), .ref (a 23), .ref (a 24), .ref (a 26), .ref (a 29), .ref (a 34), .ref (a 43), .int (nI nh), .int (nI nf), .int clk, .int hi])), (a 24, .inr (6, [.ref (a 25), .int (nI nt)]))] sz) [(a 0, .inr (7, [.ref (a 1), .ref (a 10), .ref (a 23), .ref (a 24), .ref (a 26), .ref (a 29), .ref (a 34), .ref (a 43), .int (nI nh), .int (nI nf), .int clk, .int hi])), (a 24, .inr (6, [.ref (a 25), .int (nI u0)]))]) (va_A [(a 0, .inr (7, [.ref (a 1), .ref (a 10), .ref (a 23), .ref (a 24), .ref (a 26), .ref (a 29), .ref (a 34), .ref (a 43), .int (nI nh), .int (nI nf), .int clk, .int hi])), (a 24, .inr (6, [.ref (a 25), .int (nI nt)]))] sz)) 0 0 (va_A [(a 0, .inr (7, [.ref (a 1), .ref (a 10), .ref (a 23), .ref (a 24), .ref (a 26), .ref (a 29), .ref (a 34), .ref (a 43), .int (nI nh), .int (nI nf), .int clk, .int hi])), (a 24, .inr (6, [.ref (a 25), .int (nI nt)]))] sz) := by
  refine Met.ofW (cc := cX7_end) (maxL := 2) (ret := (some .int)) (by decide) rfl ?_
  intro p e s m args below meth c s₁ B hml hv
  obtain ⟨rfl, hsz, hP, hK, hD0, hN⟩ := hv
  have hx := B.exec
  have hb := B.bytes
  have hr := B.returns
  have hts := atoms_spec (ws := zz_w yX7_end cX7_end 2 (some .int)) B.pre
  have hw : ∀ w ∈ zz_all, w.before _ s = true := fun w h => hts w (List.mem_cons_of_mem _ h)
  have hown : s.vm.findClass RX7 = some m.cls := findClass_of_methodNamed B.named
  have hlocks := B.notSynchronized
  subst hsz
  have hD := hD0.self (sz := s.heap.size)
  generalize hAe : va_A [(a 0, .inr (7, [.ref (a 1), .ref (a 10), .ref (a 23), .ref (a 24), .ref (a 26), .ref (a 29), .ref (a 34), .ref (a 43), .int (nI nh), .int (nI nf), .int clk, .int hi])), (a 24, .inr (6, [.ref (a 25), .int (nI nt)]))] s.heap.size = A at hD ⊢
  have hA : ∀ q : Nat, s.heap.size ≤ q → A q := fun q h => by rw [← hAe]; exact Or.inr h
  have hS : va_S A s.heap s.heap [] := va_S.rf
  have hP : va_P (dC, dI) vwCl [(a 0, .inr (7, [.ref (a 1), .ref (a 10), .ref (a 23), .ref (a 24), .ref (a 26), .ref (a 29), .ref (a 34), .ref (a 43), .int (nI nh), .int (nI nf), .int clk, .int hi])), (a 24, .inr (6, [.ref (a 25), .int (nI nt)]))] s.heap := hP
  have hl := lv_entry ([.ref (a 0), .int p0]) (n := 2) (Nat.le_of_ble_eq_true rfl)
  rw [lg_entry_eq]
  generalize (lg_sl ([.ref (a 0), .int p0]) ++ List.replicate (2 - (lg_sl ([.ref (a 0), .int p0])).length) Slot.unset).toArray = ls at hl ⊢
  have hl : lv_has ls 2 [(0, .ref (a 0)), (1, .int p0)] := hl
  refine lv_iload_n hx hb dX7_end_0 rfl (lv_at hl 1 rfl) ?_
  refine lv_iconst (v := 0) hx hb dX7_end_1 (by decide) ?_
  refine lv_aload_n hx hb dX7_end_2 rfl (lv_at hl 0 rfl) ?_
  refine va_get (D := (dC, dI)) (ci := 7) (v := .ref (a 24)) (C := RX7) (T := TX7) (N := 12) hx hb hw zz_inX7 hown hK hP 0 rfl rfl 3 (by decide) (hw _ tw_97) (fun _ h9 => h9) rfl dX7_end_3 ?_
  refine va_getN (D := (dC, dI)) (ci := 6) (v := .int (nI nt)) (C := RX6) (T := TX6) (N := 2) hx hb hw zz_inX6 hown hK hP 1 rfl rfl 1 (by decide) (hN.use zz_n23) (fun _ h9 => h9) rfl dX7_end_6 ?_
  have hPc := hP.sub (ws' := []) [] rfl
  have hDc := hD.sub (ws' := []) [] (by decide) rfl
  have hKc := hK.sub (tys' := []) [] rfl
  have hFc := zz_free0 hS hA
  refine va_calli (va_runS (As := [.int p0, .int 0, .int (nI nt)]) (rest := []) ⟨hx, hb, hml, hown, hw⟩ (k_within l dC dI p0 0 (nI nt) s.heap.size) ⟨callB_of 3 hw (zz_good tw_1) rfl rfl rfl (hw _ tw_2) (hw _ tw_3) (by decide +kernel) ⟨Nat.le_of_ble_eq_true rfl, Nat.le_of_ble_eq_true rfl⟩, (hw _ tw_4)⟩ ⟨zz_blind, zz_pre hPc hKc hDc hN⟩ rfl rfl hl.1 rfl (lv_room (Nat.le_of_ble_eq_true rfl)) dX7_end_9 ⟨Nat.le_of_ble_eq_true rfl, Nat.le_of_ble_eq_true rfl⟩) hS (fun q _ h => hFc q h) hFc (fun r_1 u_1 t H1 locs ht hvm e_1 hB hz1 hk1 hS => ?_)
  try dsimp only at e_1
  have hP := zz_keep hP hk1
  clear hk1 hB ht hvm
  generalize H1 = H at hP hS ⊢
  refine lv_if_ne (tgt := 17) hx hb dX7_end_12 (by decide) (fun c_2 => ?_) (fun c_2 => ?_)
  · have zc_2 := c_2
    rw [e_1, zz_in0, Int32.le_iff_toInt_le, Int32.le_iff_toInt_le] at zc_2
    try rw [show (0 : Int32).toInt = 0 from by decide] at zc_2
    try rw [zz_toInt nt (by omega)] at zc_2
    refine lv_aload_n hx hb dX7_end_17 rfl (lv_at hl 0 rfl) ?_
    refine va_get (D := (dC, dI)) (ci := 7) (v := .ref (a 24)) (C := RX7) (T := TX7) (N := 12) hx hb hw zz_inX7 hown hK hP 0 rfl rfl 3 (by decide) (hw _ tw_97) (fun _ h9 => h9) rfl dX7_end_18 ?_
    refine lv_iload_n hx hb dX7_end_21 rfl (lv_at hl 1 rfl) ?_
    refine zz_seti (nI (Int32.toNatClampNeg p0)) (zz_back (by omega)) ?_
    refine va_putN (D := (dC, dI)) (ci := 6) (v := .int (nI (Int32.toNatClampNeg p0))) (ty := .int) (C := RX6) (T := TX6) (N := 2) hx hb hw zz_inX6 tyX6 tyX6_ok nmX6 hown hK hP hD hS 1 rfl rfl 1 (by decide) (hN.use zz_n23) (fun _ h9 => h9) rfl (by decide +kernel) rfl rfl (Nat.le_of_ble_eq_true rfl) dX7_end_22 (fun H locs hP hD hS => ?_)
    have hP : va_P (dC, dI) vwCl [(a 0, .inr (7, [.ref (a 1), .ref (a 10), .ref (a 23), .ref (a 24), .ref (a 26), .ref (a 29), .ref (a 34), .ref (a 43), .int (nI nh), .int (nI nf), .int clk, .int hi])), (a 24, .inr (6, [.ref (a 25), .int (nI (Int32.toNatClampNeg p0))]))] H := hP
    have hD : va_D A [(a 0, .inr (7, [.ref (a 1), .ref (a 10), .ref (a 23), .ref (a 24), .ref (a 26), .ref (a 29), .ref (a 34), .ref (a 43), .int (nI nh), .int (nI nf), .int clk, .int hi])), (a 24, .inr (6, [.ref (a 25), .int (nI (Int32.toNatClampNeg p0))]))] := hD
    refine lv_iload_n hx hb dX7_end_25 rfl (lv_at hl 1 rfl) ?_
    have hP9 := hP.sub (ws' := [(a 0, .inr (7, [.ref (a 1), .ref (a 10), .ref (a 23), .ref (a 24), .ref (a 26), .ref (a 29), .ref (a 34), .ref (a 43), .int (nI nh), .int (nI nf), .int clk, .int hi])), (a 24, .inr (6, [.ref (a 25), .int (nI (Int32.toNatClampNeg p0))]))]) [0, 1] rfl
    have hD9 := hD.sub (ws' := [(a 0, .inr (7, [.ref (a 1), .ref (a 10), .ref (a 23), .ref (a 24), .ref (a 26), .ref (a 29), .ref (a 34), .ref (a 43), .int (nI nh), .int (nI nf), .int clk, .int hi])), (a 24, .inr (6, [.ref (a 25), .int (nI (Int32.toNatClampNeg p0))]))]) [0, 1] (by decide) rfl
    have hK9 := hK.sub (tys' := []) [] rfl
    exact W.iret (v := p0) hx hb hr (fun t ht hW => ⟨⟨p0, ((Int32.toNatClampNeg p0)), rfl, (by first | exact Or.inl ⟨by omega, rfl, zz_clN (by omega)⟩ | exact Or.inr ⟨by omega, rfl, rfl⟩), by rw [ht]; exact hP9, va_K.moved hW.alike hK9, hD9⟩, hS.F ht⟩) hS.2.2 dX7_end_26
  · have zc_2 := c_2
    rw [e_1, zz_in0, Int32.le_iff_toInt_le, Int32.le_iff_toInt_le] at zc_2
    try rw [show (0 : Int32).toInt = 0 from by decide] at zc_2
    try rw [zz_toInt nt (by omega)] at zc_2
    refine lv_iconst (v := (-1)) hx hb dX7_end_15 (by decide) ?_
    have hP9 := hP.sub (ws' := [(a 0, .inr (7, [.ref (a 1), .ref (a 10), .ref (a 23), .ref (a 24), .ref (a 26), .ref (a 29), .ref (a 34), .ref (a 43), .int (nI nh), .int (nI nf), .int clk, .int hi])), (a 24, .inr (6, [.ref (a 25), .int (nI nt)]))]) [0, 1] rfl
    have hD9 := hD.sub (ws' := [(a 0, .inr (7, [.ref (a 1), .ref (a 10), .ref (a 23), .ref (a 24), .ref (a 26), .ref (a 29), .ref (a 34), .ref (a 43), .int (nI nh), .int (nI nf), .int clk, .int hi])), (a 24, .inr (6, [.ref (a 25), .int (nI nt)]))]) [0, 1] (by decide) rfl
    have hK9 := hK.sub (tys' := []) [] rfl
    exact W.iret (v := (-1)) hx hb hr (fun t ht hW => ⟨⟨(-1), (nt), rfl, (by first | exact Or.inl ⟨by omega, rfl, zz_clN (by omega)⟩ | exact Or.inr ⟨by omega, rfl, rfl⟩), by rw [ht]; exact hP9, va_K.moved hW.alike hK9, hD9⟩, hS.F ht⟩) hS.2.2 dX7_end_16

set_option maxHeartbeats 4000000 in
set_option maxRecDepth 100000 in
theorem k_about (l : Launch) (dC : Nat → ClassId) (dI : Nat → Nat → Nat) (a : Nat → Nat) (nh : Nat) (nf : Nat) (clk : Int32) (hi : Int32) (cI : ClassId) (nd : Nat) (nt : Nat) (fl : Nat → Int32) (p0 : Int32) (sz : Nat) : Met l yX7_about (zz_w yX7_about cX7_about 2 (some .int)) ({ frames := 1, cells := 0, slots := 0, locals := 22 }) (va_Pc [.ref (a 0), .int p0] (zz_B (dC, dI) sz [(a 0, .inr (7, [.ref (a 1), .ref (a 10), .ref (a 23), .ref (a 24), .ref (a 26), .ref (a 29), .ref (a 34), .ref (a 43), .int (nI nh), .int (nI nf), .int clk, .int hi])), (a 29, .inr (1, [.ref (a 30), .ref (a 31), .ref (a 32), .ref (a 33), .int (nI nd)])), (a 24, .inr (6, [.ref (a 25), .int (nI nt)])), (a 23, .inl (cI, 10, .inl fl))] [(cI, .int)])) (va_Qi (fun (_ : Int32) (_ : Unit) => True) (fun _ _ => True) (va_A [] sz)) 0 0 (va_A [] sz) := by
  refine Met.ofW (cc := cX7_about) (maxL := 2) (ret := (some .int)) (by decide) rfl ?_
  intro p e s m args below meth c s₁ B hml hv
  obtain ⟨rfl, hsz, hP, hK, hD0, hN⟩ := hv
  have hx := B.exec
  have hb := B.bytes
  have hr := B.returns
  have hts := atoms_spec (ws := zz_w yX7_about cX7_about 2 (some .int)) B.pre
  have hw : ∀ w ∈ zz_all, w.before _ s = true := fun w h => hts w (List.mem_cons_of_mem _ h)
  have hown : s.vm.findClass RX7 = some m.cls := findClass_of_methodNamed B.named
  have hlocks := B.notSynchronized
  subst hsz
  have hD := hD0
  generalize hAe : va_A [] s.heap.size = A
  have hA : ∀ q : Nat, s.heap.size ≤ q → A q := fun q h => by rw [← hAe]; exact Or.inr h
  have hS : va_S A s.heap s.heap [] := va_S.rf
  have hP : va_P (dC, dI) vwCl [(a 0, .inr (7, [.ref (a 1), .ref (a 10), .ref (a 23), .ref (a 24), .ref (a 26), .ref (a 29), .ref (a 34), .ref (a 43), .int (nI nh), .int (nI nf), .int clk, .int hi])), (a 29, .inr (1, [.ref (a 30), .ref (a 31), .ref (a 32), .ref (a 33), .int (nI nd)])), (a 24, .inr (6, [.ref (a 25), .int (nI nt)])), (a 23, .inl (cI, 10, .inl fl))] s.heap := hP
  have hl := lv_entry ([.ref (a 0), .int p0]) (n := 2) (Nat.le_of_ble_eq_true rfl)
  rw [lg_entry_eq]
  generalize (lg_sl ([.ref (a 0), .int p0]) ++ List.replicate (2 - (lg_sl ([.ref (a 0), .int p0])).length) Slot.unset).toArray = ls at hl ⊢
  have hl : lv_has ls 2 [(0, .ref (a 0)), (1, .int p0)] := hl
  refine lv_iload_n hx hb dX7_about_0 rfl (lv_at hl 1 rfl) ?_
  by_cases c_1 : p0 = 0
  · have zc_1 := c_1
    rw [← Int32.toInt_inj] at zc_1
    try rw [show (0 : Int32).toInt = 0 from by decide] at zc_1
    refine lv_tableIn (tgt := 40) hx hb dX7_about_1 (by rw [c_1]; decide) (by rw [c_1]; decide) (by rw [c_1]; rfl) (by decide) ?_
    refine lv_aload_n hx hb dX7_about_40 rfl (lv_at hl 0 rfl) ?_
    refine va_get (D := (dC, dI)) (ci := 7) (v := .int (nI nh)) (C := RX7) (T := TX7) (N := 12) hx hb hw zz_inX7 hown hK hP 0 rfl rfl 8 (by decide) (hw _ tw_0) (fun _ h9 => h9) rfl dX7_about_41 ?_
    exact W.iret (v := (nI nh)) hx hb hr (fun t ht hW => ⟨⟨(nI nh), (), rfl, trivial, trivial⟩, hS.F ht⟩) hS.2.2 dX7_about_44
  by_cases c_2 : p0 = 1
  · have zc_2 := c_2
    rw [← Int32.toInt_inj] at zc_2
    try rw [show (1 : Int32).toInt = 1 from by decide] at zc_2
    refine lv_tableIn (tgt := 45) hx hb dX7_about_1 (by rw [c_2]; decide) (by rw [c_2]; decide) (by rw [c_2]; rfl) (by decide) ?_
    refine lv_aload_n hx hb dX7_about_45 rfl (lv_at hl 0 rfl) ?_
    refine va_get (D := (dC, dI)) (ci := 7) (v := .int (nI nf)) (C := RX7) (T := TX7) (N := 12) hx hb hw zz_inX7 hown hK hP 0 rfl rfl 9 (by decide) (hw _ tw_6) (fun _ h9 => h9) rfl dX7_about_46 ?_
    exact W.iret (v := (nI nf)) hx hb hr (fun t ht hW => ⟨⟨(nI nf), (), rfl, trivial, trivial⟩, hS.F ht⟩) hS.2.2 dX7_about_49
  by_cases c_3 : p0 = 2
  · have zc_3 := c_3
    rw [← Int32.toInt_inj] at zc_3
    try rw [show (2 : Int32).toInt = 2 from by decide] at zc_3
    refine lv_tableIn (tgt := 50) hx hb dX7_about_1 (by rw [c_3]; decide) (by rw [c_3]; decide) (by rw [c_3]; rfl) (by decide) ?_
    refine lv_aload_n hx hb dX7_about_50 rfl (lv_at hl 0 rfl) ?_
    refine va_get (D := (dC, dI)) (ci := 7) (v := .int clk) (C := RX7) (T := TX7) (N := 12) hx hb hw zz_inX7 hown hK hP 0 rfl rfl 10 (by decide) (hw _ tw_39) (fun _ h9 => h9) rfl dX7_about_51 ?_
    exact W.iret (v := clk) hx hb hr (fun t ht hW => ⟨⟨clk, (), rfl, trivial, trivial⟩, hS.F ht⟩) hS.2.2 dX7_about_54
  by_cases c_4 : p0 = 3
  · have zc_4 := c_4
    rw [← Int32.toInt_inj] at zc_4
    try rw [show (3 : Int32).toInt = 3 from by decide] at zc_4
    refine lv_tableIn (tgt := 55) hx hb dX7_about_1 (by rw [c_4]; decide) (by rw [c_4]; decide) (by rw [c_4]; rfl) (by decide) ?_
    refine lv_aload_n hx hb dX7_about_55 rfl (lv_at hl 0 rfl) ?_
    refine va_get (D := (dC, dI)) (ci := 7) (v := .ref (a 29)) (C := RX7) (T := TX7) (N := 12) hx hb hw zz_inX7 hown hK hP 0 rfl rfl 5 (by decide) (hw _ tw_44) (fun _ h9 => h9) rfl dX7_about_56 ?_
    refine va_getN (D := (dC, dI)) (ci := 1) (v := .int (nI nd)) (C := RX1) (T := TX1) (N := 5) hx hb hw zz_inX1 hown hK hP 1 rfl rfl 4 (by decide) (hN.use zz_n37) (fun _ h9 => h9) rfl dX7_about_59 ?_
    exact W.iret (v := (nI nd)) hx hb hr (fun t ht hW => ⟨⟨(nI nd), (), rfl, trivial, trivial⟩, hS.F ht⟩) hS.2.2 dX7_about_62
  by_cases c_5 : p0 = 4
  · have zc_5 := c_5
    rw [← Int32.toInt_inj] at zc_5
    try rw [show (4 : Int32).toInt = 4 from by decide] at zc_5
    refine lv_tableIn (tgt := 63) hx hb dX7_about_1 (by rw [c_5]; decide) (by rw [c_5]; decide) (by rw [c_5]; rfl) (by decide) ?_
    refine lv_aload_n hx hb dX7_about_63 rfl (lv_at hl 0 rfl) ?_
    refine va_get (D := (dC, dI)) (ci := 7) (v := .int hi) (C := RX7) (T := TX7) (N := 12) hx hb hw zz_inX7 hown hK hP 0 rfl rfl 11 (by decide) (hw _ tw_72) (fun _ h9 => h9) rfl dX7_about_64 ?_
    exact W.iret (v := hi) hx hb hr (fun t ht hW => ⟨⟨hi, (), rfl, trivial, trivial⟩, hS.F ht⟩) hS.2.2 dX7_about_67
  by_cases c_6 : p0 = 5
  · have zc_6 := c_6
    rw [← Int32.toInt_inj] at zc_6
    try rw [show (5 : Int32).toInt = 5 from by decide] at zc_6
    refine lv_tableIn (tgt := 68) hx hb dX7_about_1 (by rw [c_6]; decide) (by rw [c_6]; decide) (by rw [c_6]; rfl) (by decide) ?_
    refine lv_aload_n hx hb dX7_about_68 rfl (lv_at hl 0 rfl) ?_
    refine va_get (D := (dC, dI)) (ci := 7) (v := .ref (a 24)) (C := RX7) (T := TX7) (N := 12) hx hb hw zz_inX7 hown hK hP 0 rfl rfl 3 (by decide) (hw _ tw_97) (fun _ h9 => h9) rfl dX7_about_69 ?_
    refine va_getN (D := (dC, dI)) (ci := 6) (v := .int (nI nt)) (C := RX6) (T := TX6) (N := 2) hx hb hw zz_inX6 hown hK hP 2 rfl rfl 1 (by decide) (hN.use zz_n23) (fun _ h9 => h9) rfl dX7_about_72 ?_
    exact W.iret (v := (nI nt)) hx hb hr (fun t ht hW => ⟨⟨(nI nt), (), rfl, trivial, trivial⟩, hS.F ht⟩) hS.2.2 dX7_about_75
  refine lv_tableOut (tgt := 76) hx hb dX7_about_1 (by have := zz_ne c_1; rw [show (0 : Int32).toInt = 0 from by decide] at this; have := zz_ne c_2; rw [show (1 : Int32).toInt = 1 from by decide] at this; have := zz_ne c_3; rw [show (2 : Int32).toInt = 2 from by decide] at this; have := zz_ne c_4; rw [show (3 : Int32).toInt = 3 from by decide] at this; have := zz_ne c_5; rw [show (4 : Int32).toInt = 4 from by decide] at this; have := zz_ne c_6; rw [show (5 : Int32).toInt = 5 from by decide] at this; omega) (by decide) ?_
  have zc_1 := c_1
  rw [← Int32.toInt_inj] at zc_1
  try rw [show (0 : Int32).toInt = 0 from by decide] at zc_1
  have zc_2 := c_2
  rw [← Int32.toInt_inj] at zc_2
  try rw [show (1 : Int32).toInt = 1 from by decide] at zc_2
  have zc_3 := c_3
  rw [← Int32.toInt_inj] at zc_3
  try rw [show (2 : Int32).toInt = 2 from by decide] at zc_3
  have zc_4 := c_4
  rw [← Int32.toInt_inj] at zc_4
  try rw [show (3 : Int32).toInt = 3 from by decide] at zc_4
  have zc_5 := c_5
  rw [← Int32.toInt_inj] at zc_5
  try rw [show (4 : Int32).toInt = 4 from by decide] at zc_5
  have zc_6 := c_6
  rw [← Int32.toInt_inj] at zc_6
  try rw [show (5 : Int32).toInt = 5 from by decide] at zc_6
  refine lv_iload_n hx hb dX7_about_76 rfl (lv_at hl 1 rfl) ?_
  refine lv_bipush (v := 20) hx hb dX7_about_77 (by decide) ?_
  refine lv_bipush (v := 29) hx hb dX7_about_79 (by decide) ?_
  have hPc := hP.sub (ws' := []) [] rfl
  have hDc := hD.sub (ws' := []) [] (by decide) rfl
  have hKc := hK.sub (tys' := []) [] rfl
  have hFc := zz_free0 hS hA
  refine va_calli (va_runS (As := [.int p0, .int 20, .int 29]) (rest := []) ⟨hx, hb, hml, hown, hw⟩ (k_within l dC dI p0 20 29 s.heap.size) ⟨callB_of 3 hw (zz_good tw_1) rfl rfl rfl (hw _ tw_2) (hw _ tw_3) (by decide +kernel) ⟨Nat.le_of_ble_eq_true rfl, Nat.le_of_ble_eq_true rfl⟩, (hw _ tw_4)⟩ ⟨zz_blind, zz_pre hPc hKc hDc hN⟩ rfl rfl hl.1 rfl (lv_room (Nat.le_of_ble_eq_true rfl)) dX7_about_81 ⟨Nat.le_of_ble_eq_true rfl, Nat.le_of_ble_eq_true rfl⟩) hS (fun q _ h => hFc q h) hFc (fun r_7 u_7 t H1 locs ht hvm e_7 hB hz1 hk1 hS => ?_)
  try dsimp only at e_7
  have hP := zz_keep hP hk1
  clear hk1 hB ht hvm
  generalize H1 = H at hP hS ⊢
  refine lv_if_eq (tgt := 99) hx hb dX7_about_84 (by decide) (fun c_8 => ?_) (fun c_8 => ?_)
  · have zc_8 := c_8
    rw [e_7, zz_in0, Int32.le_iff_toInt_le, Int32.le_iff_toInt_le] at zc_8
    try rw [show (20 : Int32).toInt = 20 from by decide] at zc_8
    try rw [show (29 : Int32).toInt = 29 from by decide] at zc_8
    refine lv_iconst (v := (-1)) hx hb dX7_about_99 (by decide) ?_
    exact W.iret (v := (-1)) hx hb hr (fun t ht hW => ⟨⟨(-1), (), rfl, trivial, trivial⟩, hS.F ht⟩) hS.2.2 dX7_about_100
  · have zc_8 := c_8
    rw [e_7, zz_in0, Int32.le_iff_toInt_le, Int32.le_iff_toInt_le] at zc_8
    try rw [show (20 : Int32).toInt = 20 from by decide] at zc_8
    try rw [show (29 : Int32).toInt = 29 from by decide] at zc_8
    refine lv_aload_n hx hb dX7_about_87 rfl (lv_at hl 0 rfl) ?_
    refine va_get (D := (dC, dI)) (ci := 7) (v := .ref (a 23)) (C := RX7) (T := TX7) (N := 12) hx hb hw zz_inX7 hown hK hP 0 rfl rfl 2 (by decide) (hw _ tw_40) (fun _ h9 => h9) rfl dX7_about_88 ?_
    refine lv_iload_n hx hb dX7_about_91 rfl (lv_at hl 1 rfl) ?_
    refine lv_bipush (v := 20) hx hb dX7_about_92 (by decide) ?_
    refine lv_isub hx hb dX7_about_94 ?_
    refine va_iald hx hb hK hP 3 0 rfl rfl (zz_sub20 (by omega) (by omega)) dX7_about_95 ?_
    refine lv_goto (tgt := 100) hx hb dX7_about_96 (by decide) ?_
    exact W.iret (v := (fl (Int32.toNatClampNeg (p0 - 20)))) hx hb hr (fun t ht hW => ⟨⟨(fl (Int32.toNatClampNeg (p0 - 20))), (), rfl, trivial, trivial⟩, hS.F ht⟩) hS.2.2 dX7_about_100
