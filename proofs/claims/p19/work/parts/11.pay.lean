theorem tw_129 : Cond.fieldLink RX2 15 "HandsReturned$Evening" "freshNets" "[I" ∈ zz_all := zz_m1 190 rfl rfl
theorem tw_130 : Cond.code yX2_takeNets cX2_takeNets 4 (some .boolean) ∈ zz_all := zz_m3 85 rfl rfl
theorem tw_131 : Cond.methodLink RX2 36 yX2_takeNets ∈ zz_all := zz_m3 82 rfl rfl
theorem tw_132 : Cond.instanceMethod yX2_takeNets ∈ zz_all := zz_m3 84 rfl rfl
theorem tw_133 : Cond.selects RX2 yX2_takeNets yX2_takeNets ∈ zz_all := zz_ms 24 rfl rfl
theorem tw_134 : Cond.code yX2_tell cX2_tell 4 none ∈ zz_all := zz_m3 90 rfl rfl
theorem tw_135 : Cond.methodLink RX2 40 yX2_tell ∈ zz_all := zz_m3 87 rfl rfl
theorem tw_136 : Cond.instanceMethod yX2_tell ∈ zz_all := zz_m3 89 rfl rfl
theorem tw_137 : Cond.selects RX2 yX2_tell yX2_tell ∈ zz_all := zz_ms 25 rfl rfl
theorem tw_138 : Cond.fieldLink RX7 51 "HandsReturned" "evening" "LHandsReturned$Evening;" ∈ zz_all := zz_m2 32 rfl rfl
theorem tw_139 : Cond.code yX2_tellFor cX2_tellFor 2 none ∈ zz_all := zz_m3 81 rfl rfl
theorem tw_140 : Cond.instanceMethod yX2_tellFor ∈ zz_all := zz_m3 80 rfl rfl
theorem tw_141 : Cond.selects RX2 yX2_tellFor yX2_tellFor ∈ zz_all := zz_ms 23 rfl rfl
theorem zy_b11pay_0 : decode cX2_takeNets 0 = .ok (.iconst 0, 1) ∧ decode cX2_takeNets 1 = .ok (.istore_n 2, 1) ∧ decode cX2_takeNets 2 = .ok (.iconst 0, 1) ∧ decode cX2_takeNets 3 = .ok (.istore_n 3, 1) ∧ decode cX2_takeNets 4 = .ok (.iload_n 3, 1) ∧ decode cX2_takeNets 5 = .ok (.bipush 8, 2) ∧ decode cX2_takeNets 7 = .ok (.if_icmp .ge 16, 3) ∧ decode cX2_takeNets 10 = .ok (.aload_n 0, 1) := by decide +kernel
theorem dX2_takeNets_0 : decode cX2_takeNets 0 = .ok (.iconst 0, 1) := zy_b11pay_0.1
theorem dX2_takeNets_1 : decode cX2_takeNets 1 = .ok (.istore_n 2, 1) := zy_b11pay_0.2.1
theorem dX2_takeNets_2 : decode cX2_takeNets 2 = .ok (.iconst 0, 1) := zy_b11pay_0.2.2.1
theorem dX2_takeNets_3 : decode cX2_takeNets 3 = .ok (.istore_n 3, 1) := zy_b11pay_0.2.2.2.1
theorem dX2_takeNets_4 : decode cX2_takeNets 4 = .ok (.iload_n 3, 1) := zy_b11pay_0.2.2.2.2.1
theorem dX2_takeNets_5 : decode cX2_takeNets 5 = .ok (.bipush 8, 2) := zy_b11pay_0.2.2.2.2.2.1
theorem dX2_takeNets_7 : decode cX2_takeNets 7 = .ok (.if_icmp .ge 16, 3) := zy_b11pay_0.2.2.2.2.2.2.1
theorem dX2_takeNets_10 : decode cX2_takeNets 10 = .ok (.aload_n 0, 1) := zy_b11pay_0.2.2.2.2.2.2.2
theorem zy_b11pay_1 : decode cX2_takeNets 11 = .ok (.getfield 15, 3) ∧ decode cX2_takeNets 14 = .ok (.iload_n 3, 1) ∧ decode cX2_takeNets 15 = .ok (.iconst 0, 1) ∧ decode cX2_takeNets 16 = .ok (.iastore, 1) ∧ decode cX2_takeNets 17 = .ok (.iinc 3 1, 3) ∧ decode cX2_takeNets 20 = .ok (.goto (-16), 3) ∧ decode cX2_takeNets 23 = .ok (.iconst 0, 1) ∧ decode cX2_takeNets 24 = .ok (.istore_n 3, 1) := by decide +kernel
theorem dX2_takeNets_11 : decode cX2_takeNets 11 = .ok (.getfield 15, 3) := zy_b11pay_1.1
theorem dX2_takeNets_14 : decode cX2_takeNets 14 = .ok (.iload_n 3, 1) := zy_b11pay_1.2.1
theorem dX2_takeNets_15 : decode cX2_takeNets 15 = .ok (.iconst 0, 1) := zy_b11pay_1.2.2.1
theorem dX2_takeNets_16 : decode cX2_takeNets 16 = .ok (.iastore, 1) := zy_b11pay_1.2.2.2.1
theorem dX2_takeNets_17 : decode cX2_takeNets 17 = .ok (.iinc 3 1, 3) := zy_b11pay_1.2.2.2.2.1
theorem dX2_takeNets_20 : decode cX2_takeNets 20 = .ok (.goto (-16), 3) := zy_b11pay_1.2.2.2.2.2.1
theorem dX2_takeNets_23 : decode cX2_takeNets 23 = .ok (.iconst 0, 1) := zy_b11pay_1.2.2.2.2.2.2.1
theorem dX2_takeNets_24 : decode cX2_takeNets 24 = .ok (.istore_n 3, 1) := zy_b11pay_1.2.2.2.2.2.2.2
theorem zy_b11pay_2 : decode cX2_takeNets 25 = .ok (.iload_n 3, 1) ∧ decode cX2_takeNets 26 = .ok (.aload_n 1, 1) ∧ decode cX2_takeNets 27 = .ok (.getfield 43, 3) ∧ decode cX2_takeNets 30 = .ok (.if_icmp .ge 79, 3) ∧ decode cX2_takeNets 33 = .ok (.aload_n 1, 1) ∧ decode cX2_takeNets 34 = .ok (.getfield 49, 3) ∧ decode cX2_takeNets 37 = .ok (.iload_n 3, 1) ∧ decode cX2_takeNets 38 = .ok (.iaload, 1) := by decide +kernel
theorem dX2_takeNets_25 : decode cX2_takeNets 25 = .ok (.iload_n 3, 1) := zy_b11pay_2.1
theorem dX2_takeNets_26 : decode cX2_takeNets 26 = .ok (.aload_n 1, 1) := zy_b11pay_2.2.1
theorem dX2_takeNets_27 : decode cX2_takeNets 27 = .ok (.getfield 43, 3) := zy_b11pay_2.2.2.1
theorem dX2_takeNets_30 : decode cX2_takeNets 30 = .ok (.if_icmp .ge 79, 3) := zy_b11pay_2.2.2.2.1
theorem dX2_takeNets_33 : decode cX2_takeNets 33 = .ok (.aload_n 1, 1) := zy_b11pay_2.2.2.2.2.1
theorem dX2_takeNets_34 : decode cX2_takeNets 34 = .ok (.getfield 49, 3) := zy_b11pay_2.2.2.2.2.2.1
theorem dX2_takeNets_37 : decode cX2_takeNets 37 = .ok (.iload_n 3, 1) := zy_b11pay_2.2.2.2.2.2.2.1
theorem dX2_takeNets_38 : decode cX2_takeNets 38 = .ok (.iaload, 1) := zy_b11pay_2.2.2.2.2.2.2.2
theorem zy_b11pay_3 : decode cX2_takeNets 39 = .ok (.iconst 0, 1) ∧ decode cX2_takeNets 40 = .ok (.bipush 7, 2) ∧ decode cX2_takeNets 42 = .ok (.invokestatic 52, 3) ∧ decode cX2_takeNets 45 = .ok (.ifCond .eq 58, 3) ∧ decode cX2_takeNets 48 = .ok (.aload_n 1, 1) ∧ decode cX2_takeNets 49 = .ok (.getfield 56, 3) ∧ decode cX2_takeNets 52 = .ok (.iload_n 3, 1) ∧ decode cX2_takeNets 53 = .ok (.iaload, 1) := by decide +kernel
theorem dX2_takeNets_39 : decode cX2_takeNets 39 = .ok (.iconst 0, 1) := zy_b11pay_3.1
theorem dX2_takeNets_40 : decode cX2_takeNets 40 = .ok (.bipush 7, 2) := zy_b11pay_3.2.1
theorem dX2_takeNets_42 : decode cX2_takeNets 42 = .ok (.invokestatic 52, 3) := zy_b11pay_3.2.2.1
theorem dX2_takeNets_45 : decode cX2_takeNets 45 = .ok (.ifCond .eq 58, 3) := zy_b11pay_3.2.2.2.1
theorem dX2_takeNets_48 : decode cX2_takeNets 48 = .ok (.aload_n 1, 1) := zy_b11pay_3.2.2.2.2.1
theorem dX2_takeNets_49 : decode cX2_takeNets 49 = .ok (.getfield 56, 3) := zy_b11pay_3.2.2.2.2.2.1
theorem dX2_takeNets_52 : decode cX2_takeNets 52 = .ok (.iload_n 3, 1) := zy_b11pay_3.2.2.2.2.2.2.1
theorem dX2_takeNets_53 : decode cX2_takeNets 53 = .ok (.iaload, 1) := zy_b11pay_3.2.2.2.2.2.2.2
theorem zy_b11pay_4 : decode cX2_takeNets 54 = .ok (.iconst 0, 1) ∧ decode cX2_takeNets 55 = .ok (.bipush 7, 2) ∧ decode cX2_takeNets 57 = .ok (.invokestatic 52, 3) ∧ decode cX2_takeNets 60 = .ok (.ifCond .eq 43, 3) ∧ decode cX2_takeNets 63 = .ok (.aload_n 0, 1) ∧ decode cX2_takeNets 64 = .ok (.getfield 15, 3) ∧ decode cX2_takeNets 67 = .ok (.aload_n 1, 1) ∧ decode cX2_takeNets 68 = .ok (.getfield 49, 3) := by decide +kernel
theorem dX2_takeNets_54 : decode cX2_takeNets 54 = .ok (.iconst 0, 1) := zy_b11pay_4.1
theorem dX2_takeNets_55 : decode cX2_takeNets 55 = .ok (.bipush 7, 2) := zy_b11pay_4.2.1
theorem dX2_takeNets_57 : decode cX2_takeNets 57 = .ok (.invokestatic 52, 3) := zy_b11pay_4.2.2.1
theorem dX2_takeNets_60 : decode cX2_takeNets 60 = .ok (.ifCond .eq 43, 3) := zy_b11pay_4.2.2.2.1
theorem dX2_takeNets_63 : decode cX2_takeNets 63 = .ok (.aload_n 0, 1) := zy_b11pay_4.2.2.2.2.1
theorem dX2_takeNets_64 : decode cX2_takeNets 64 = .ok (.getfield 15, 3) := zy_b11pay_4.2.2.2.2.2.1
theorem dX2_takeNets_67 : decode cX2_takeNets 67 = .ok (.aload_n 1, 1) := zy_b11pay_4.2.2.2.2.2.2.1
theorem dX2_takeNets_68 : decode cX2_takeNets 68 = .ok (.getfield 49, 3) := zy_b11pay_4.2.2.2.2.2.2.2
theorem zy_b11pay_5 : decode cX2_takeNets 71 = .ok (.iload_n 3, 1) ∧ decode cX2_takeNets 72 = .ok (.iaload, 1) ∧ decode cX2_takeNets 73 = .ok (.dup2, 1) ∧ decode cX2_takeNets 74 = .ok (.iaload, 1) ∧ decode cX2_takeNets 75 = .ok (.aload_n 1, 1) ∧ decode cX2_takeNets 76 = .ok (.getfield 59, 3) ∧ decode cX2_takeNets 79 = .ok (.iload_n 3, 1) ∧ decode cX2_takeNets 80 = .ok (.iaload, 1) := by decide +kernel
theorem dX2_takeNets_71 : decode cX2_takeNets 71 = .ok (.iload_n 3, 1) := zy_b11pay_5.1
theorem dX2_takeNets_72 : decode cX2_takeNets 72 = .ok (.iaload, 1) := zy_b11pay_5.2.1
theorem dX2_takeNets_73 : decode cX2_takeNets 73 = .ok (.dup2, 1) := zy_b11pay_5.2.2.1
theorem dX2_takeNets_74 : decode cX2_takeNets 74 = .ok (.iaload, 1) := zy_b11pay_5.2.2.2.1
theorem dX2_takeNets_75 : decode cX2_takeNets 75 = .ok (.aload_n 1, 1) := zy_b11pay_5.2.2.2.2.1
theorem dX2_takeNets_76 : decode cX2_takeNets 76 = .ok (.getfield 59, 3) := zy_b11pay_5.2.2.2.2.2.1
theorem dX2_takeNets_79 : decode cX2_takeNets 79 = .ok (.iload_n 3, 1) := zy_b11pay_5.2.2.2.2.2.2.1
theorem dX2_takeNets_80 : decode cX2_takeNets 80 = .ok (.iaload, 1) := zy_b11pay_5.2.2.2.2.2.2.2
theorem zy_b11pay_6 : decode cX2_takeNets 81 = .ok (.isub, 1) ∧ decode cX2_takeNets 82 = .ok (.iastore, 1) ∧ decode cX2_takeNets 83 = .ok (.aload_n 0, 1) ∧ decode cX2_takeNets 84 = .ok (.getfield 15, 3) ∧ decode cX2_takeNets 87 = .ok (.aload_n 1, 1) ∧ decode cX2_takeNets 88 = .ok (.getfield 56, 3) ∧ decode cX2_takeNets 91 = .ok (.iload_n 3, 1) ∧ decode cX2_takeNets 92 = .ok (.iaload, 1) := by decide +kernel
theorem dX2_takeNets_81 : decode cX2_takeNets 81 = .ok (.isub, 1) := zy_b11pay_6.1
theorem dX2_takeNets_82 : decode cX2_takeNets 82 = .ok (.iastore, 1) := zy_b11pay_6.2.1
theorem dX2_takeNets_83 : decode cX2_takeNets 83 = .ok (.aload_n 0, 1) := zy_b11pay_6.2.2.1
theorem dX2_takeNets_84 : decode cX2_takeNets 84 = .ok (.getfield 15, 3) := zy_b11pay_6.2.2.2.1
theorem dX2_takeNets_87 : decode cX2_takeNets 87 = .ok (.aload_n 1, 1) := zy_b11pay_6.2.2.2.2.1
theorem dX2_takeNets_88 : decode cX2_takeNets 88 = .ok (.getfield 56, 3) := zy_b11pay_6.2.2.2.2.2.1
theorem dX2_takeNets_91 : decode cX2_takeNets 91 = .ok (.iload_n 3, 1) := zy_b11pay_6.2.2.2.2.2.2.1
theorem dX2_takeNets_92 : decode cX2_takeNets 92 = .ok (.iaload, 1) := zy_b11pay_6.2.2.2.2.2.2.2
theorem zy_b11pay_7 : decode cX2_takeNets 93 = .ok (.dup2, 1) ∧ decode cX2_takeNets 94 = .ok (.iaload, 1) ∧ decode cX2_takeNets 95 = .ok (.aload_n 1, 1) ∧ decode cX2_takeNets 96 = .ok (.getfield 59, 3) ∧ decode cX2_takeNets 99 = .ok (.iload_n 3, 1) ∧ decode cX2_takeNets 100 = .ok (.iaload, 1) ∧ decode cX2_takeNets 101 = .ok (.iadd, 1) ∧ decode cX2_takeNets 102 = .ok (.iastore, 1) := by decide +kernel
theorem dX2_takeNets_93 : decode cX2_takeNets 93 = .ok (.dup2, 1) := zy_b11pay_7.1
theorem dX2_takeNets_94 : decode cX2_takeNets 94 = .ok (.iaload, 1) := zy_b11pay_7.2.1
theorem dX2_takeNets_95 : decode cX2_takeNets 95 = .ok (.aload_n 1, 1) := zy_b11pay_7.2.2.1
theorem dX2_takeNets_96 : decode cX2_takeNets 96 = .ok (.getfield 59, 3) := zy_b11pay_7.2.2.2.1
theorem dX2_takeNets_99 : decode cX2_takeNets 99 = .ok (.iload_n 3, 1) := zy_b11pay_7.2.2.2.2.1
theorem dX2_takeNets_100 : decode cX2_takeNets 100 = .ok (.iaload, 1) := zy_b11pay_7.2.2.2.2.2.1
theorem dX2_takeNets_101 : decode cX2_takeNets 101 = .ok (.iadd, 1) := zy_b11pay_7.2.2.2.2.2.2.1
theorem dX2_takeNets_102 : decode cX2_takeNets 102 = .ok (.iastore, 1) := zy_b11pay_7.2.2.2.2.2.2.2
theorem zy_b11pay_8 : decode cX2_takeNets 103 = .ok (.iinc 3 1, 3) ∧ decode cX2_takeNets 106 = .ok (.goto (-81), 3) ∧ decode cX2_takeNets 109 = .ok (.iconst 0, 1) ∧ decode cX2_takeNets 110 = .ok (.istore_n 3, 1) ∧ decode cX2_takeNets 111 = .ok (.iload_n 3, 1) ∧ decode cX2_takeNets 112 = .ok (.bipush 8, 2) ∧ decode cX2_takeNets 114 = .ok (.if_icmp .ge 38, 3) ∧ decode cX2_takeNets 117 = .ok (.aload_n 0, 1) := by decide +kernel
theorem dX2_takeNets_103 : decode cX2_takeNets 103 = .ok (.iinc 3 1, 3) := zy_b11pay_8.1
theorem dX2_takeNets_106 : decode cX2_takeNets 106 = .ok (.goto (-81), 3) := zy_b11pay_8.2.1
theorem dX2_takeNets_109 : decode cX2_takeNets 109 = .ok (.iconst 0, 1) := zy_b11pay_8.2.2.1
theorem dX2_takeNets_110 : decode cX2_takeNets 110 = .ok (.istore_n 3, 1) := zy_b11pay_8.2.2.2.1
theorem dX2_takeNets_111 : decode cX2_takeNets 111 = .ok (.iload_n 3, 1) := zy_b11pay_8.2.2.2.2.1
theorem dX2_takeNets_112 : decode cX2_takeNets 112 = .ok (.bipush 8, 2) := zy_b11pay_8.2.2.2.2.2.1
theorem dX2_takeNets_114 : decode cX2_takeNets 114 = .ok (.if_icmp .ge 38, 3) := zy_b11pay_8.2.2.2.2.2.2.1
theorem dX2_takeNets_117 : decode cX2_takeNets 117 = .ok (.aload_n 0, 1) := zy_b11pay_8.2.2.2.2.2.2.2
theorem zy_b11pay_9 : decode cX2_takeNets 118 = .ok (.getfield 9, 3) ∧ decode cX2_takeNets 121 = .ok (.iload_n 3, 1) ∧ decode cX2_takeNets 122 = .ok (.iaload, 1) ∧ decode cX2_takeNets 123 = .ok (.aload_n 0, 1) ∧ decode cX2_takeNets 124 = .ok (.getfield 15, 3) ∧ decode cX2_takeNets 127 = .ok (.iload_n 3, 1) ∧ decode cX2_takeNets 128 = .ok (.iaload, 1) ∧ decode cX2_takeNets 129 = .ok (.if_icmp .eq 17, 3) := by decide +kernel
theorem dX2_takeNets_118 : decode cX2_takeNets 118 = .ok (.getfield 9, 3) := zy_b11pay_9.1
theorem dX2_takeNets_121 : decode cX2_takeNets 121 = .ok (.iload_n 3, 1) := zy_b11pay_9.2.1
theorem dX2_takeNets_122 : decode cX2_takeNets 122 = .ok (.iaload, 1) := zy_b11pay_9.2.2.1
theorem dX2_takeNets_123 : decode cX2_takeNets 123 = .ok (.aload_n 0, 1) := zy_b11pay_9.2.2.2.1
theorem dX2_takeNets_124 : decode cX2_takeNets 124 = .ok (.getfield 15, 3) := zy_b11pay_9.2.2.2.2.1
theorem dX2_takeNets_127 : decode cX2_takeNets 127 = .ok (.iload_n 3, 1) := zy_b11pay_9.2.2.2.2.2.1
theorem dX2_takeNets_128 : decode cX2_takeNets 128 = .ok (.iaload, 1) := zy_b11pay_9.2.2.2.2.2.2.1
theorem dX2_takeNets_129 : decode cX2_takeNets 129 = .ok (.if_icmp .eq 17, 3) := zy_b11pay_9.2.2.2.2.2.2.2
theorem zy_b11pay_10 : decode cX2_takeNets 132 = .ok (.aload_n 0, 1) ∧ decode cX2_takeNets 133 = .ok (.getfield 9, 3) ∧ decode cX2_takeNets 136 = .ok (.iload_n 3, 1) ∧ decode cX2_takeNets 137 = .ok (.aload_n 0, 1) ∧ decode cX2_takeNets 138 = .ok (.getfield 15, 3) ∧ decode cX2_takeNets 141 = .ok (.iload_n 3, 1) ∧ decode cX2_takeNets 142 = .ok (.iaload, 1) ∧ decode cX2_takeNets 143 = .ok (.iastore, 1) := by decide +kernel
theorem dX2_takeNets_132 : decode cX2_takeNets 132 = .ok (.aload_n 0, 1) := zy_b11pay_10.1
theorem dX2_takeNets_133 : decode cX2_takeNets 133 = .ok (.getfield 9, 3) := zy_b11pay_10.2.1
theorem dX2_takeNets_136 : decode cX2_takeNets 136 = .ok (.iload_n 3, 1) := zy_b11pay_10.2.2.1
theorem dX2_takeNets_137 : decode cX2_takeNets 137 = .ok (.aload_n 0, 1) := zy_b11pay_10.2.2.2.1
theorem dX2_takeNets_138 : decode cX2_takeNets 138 = .ok (.getfield 15, 3) := zy_b11pay_10.2.2.2.2.1
theorem dX2_takeNets_141 : decode cX2_takeNets 141 = .ok (.iload_n 3, 1) := zy_b11pay_10.2.2.2.2.2.1
theorem dX2_takeNets_142 : decode cX2_takeNets 142 = .ok (.iaload, 1) := zy_b11pay_10.2.2.2.2.2.2.1
theorem dX2_takeNets_143 : decode cX2_takeNets 143 = .ok (.iastore, 1) := zy_b11pay_10.2.2.2.2.2.2.2
theorem zy_b11pay_11 : decode cX2_takeNets 144 = .ok (.iconst 1, 1) ∧ decode cX2_takeNets 145 = .ok (.istore_n 2, 1) ∧ decode cX2_takeNets 146 = .ok (.iinc 3 1, 3) ∧ decode cX2_takeNets 149 = .ok (.goto (-38), 3) ∧ decode cX2_takeNets 152 = .ok (.iload_n 2, 1) ∧ decode cX2_takeNets 153 = .ok (.ireturn, 1) := by decide +kernel
theorem dX2_takeNets_144 : decode cX2_takeNets 144 = .ok (.iconst 1, 1) := zy_b11pay_11.1
theorem dX2_takeNets_145 : decode cX2_takeNets 145 = .ok (.istore_n 2, 1) := zy_b11pay_11.2.1
theorem dX2_takeNets_146 : decode cX2_takeNets 146 = .ok (.iinc 3 1, 3) := zy_b11pay_11.2.2.1
theorem dX2_takeNets_149 : decode cX2_takeNets 149 = .ok (.goto (-38), 3) := zy_b11pay_11.2.2.2.1
theorem dX2_takeNets_152 : decode cX2_takeNets 152 = .ok (.iload_n 2, 1) := zy_b11pay_11.2.2.2.2.1
theorem dX2_takeNets_153 : decode cX2_takeNets 153 = .ok (.ireturn, 1) := zy_b11pay_11.2.2.2.2.2
theorem zy_b11pay_12 : decode cX2_tellFor 0 = .ok (.aload_n 0, 1) ∧ decode cX2_tellFor 1 = .ok (.aload_n 1, 1) ∧ decode cX2_tellFor 2 = .ok (.invokevirtual 36, 3) ∧ decode cX2_tellFor 5 = .ok (.ifCond .eq 7, 3) ∧ decode cX2_tellFor 8 = .ok (.aload_n 0, 1) ∧ decode cX2_tellFor 9 = .ok (.invokevirtual 40, 3) ∧ decode cX2_tellFor 12 = .ok (.return_, 1) := by decide +kernel
theorem dX2_tellFor_0 : decode cX2_tellFor 0 = .ok (.aload_n 0, 1) := zy_b11pay_12.1
theorem dX2_tellFor_1 : decode cX2_tellFor 1 = .ok (.aload_n 1, 1) := zy_b11pay_12.2.1
theorem dX2_tellFor_2 : decode cX2_tellFor 2 = .ok (.invokevirtual 36, 3) := zy_b11pay_12.2.2.1
theorem dX2_tellFor_5 : decode cX2_tellFor 5 = .ok (.ifCond .eq 7, 3) := zy_b11pay_12.2.2.2.1
theorem dX2_tellFor_8 : decode cX2_tellFor 8 = .ok (.aload_n 0, 1) := zy_b11pay_12.2.2.2.2.1
theorem dX2_tellFor_9 : decode cX2_tellFor 9 = .ok (.invokevirtual 40, 3) := zy_b11pay_12.2.2.2.2.2.1
theorem dX2_tellFor_12 : decode cX2_tellFor 12 = .ok (.return_, 1) := zy_b11pay_12.2.2.2.2.2.2
theorem zy_b11pay_13 : decode cX7_payments 0 = .ok (.aload_n 0, 1) ∧ decode cX7_payments 1 = .ok (.getfield 51, 3) ∧ decode cX7_payments 4 = .ok (.aload_n 0, 1) ∧ decode cX7_payments 5 = .ok (.getfield 44, 3) ∧ decode cX7_payments 8 = .ok (.invokevirtual 191, 3) ∧ decode cX7_payments 11 = .ok (.aload_n 0, 1) ∧ decode cX7_payments 12 = .ok (.getfield 51, 3) ∧ decode cX7_payments 15 = .ok (.getfield 195, 3) := by decide +kernel
theorem dX7_payments_0 : decode cX7_payments 0 = .ok (.aload_n 0, 1) := zy_b11pay_13.1
theorem dX7_payments_1 : decode cX7_payments 1 = .ok (.getfield 51, 3) := zy_b11pay_13.2.1
theorem dX7_payments_4 : decode cX7_payments 4 = .ok (.aload_n 0, 1) := zy_b11pay_13.2.2.1
theorem dX7_payments_5 : decode cX7_payments 5 = .ok (.getfield 44, 3) := zy_b11pay_13.2.2.2.1
theorem dX7_payments_8 : decode cX7_payments 8 = .ok (.invokevirtual 191, 3) := zy_b11pay_13.2.2.2.2.1
theorem dX7_payments_11 : decode cX7_payments 11 = .ok (.aload_n 0, 1) := zy_b11pay_13.2.2.2.2.2.1
theorem dX7_payments_12 : decode cX7_payments 12 = .ok (.getfield 51, 3) := zy_b11pay_13.2.2.2.2.2.2.1
theorem dX7_payments_15 : decode cX7_payments 15 = .ok (.getfield 195, 3) := zy_b11pay_13.2.2.2.2.2.2.2
theorem dX7_payments_18 : decode cX7_payments 18 = .ok (.ireturn, 1) := by decide +kernel
theorem zy_b11pay_14 : decode cX7_payment 0 = .ok (.aload_n 0, 1) ∧ decode cX7_payment 1 = .ok (.getfield 51, 3) ∧ decode cX7_payment 4 = .ok (.aload_n 0, 1) ∧ decode cX7_payment 5 = .ok (.getfield 44, 3) ∧ decode cX7_payment 8 = .ok (.invokevirtual 191, 3) ∧ decode cX7_payment 11 = .ok (.iload_n 1, 1) ∧ decode cX7_payment 12 = .ok (.iconst 0, 1) ∧ decode cX7_payment 13 = .ok (.aload_n 0, 1) := by decide +kernel
theorem dX7_payment_0 : decode cX7_payment 0 = .ok (.aload_n 0, 1) := zy_b11pay_14.1
theorem dX7_payment_1 : decode cX7_payment 1 = .ok (.getfield 51, 3) := zy_b11pay_14.2.1
theorem dX7_payment_4 : decode cX7_payment 4 = .ok (.aload_n 0, 1) := zy_b11pay_14.2.2.1
theorem dX7_payment_5 : decode cX7_payment 5 = .ok (.getfield 44, 3) := zy_b11pay_14.2.2.2.1
theorem dX7_payment_8 : decode cX7_payment 8 = .ok (.invokevirtual 191, 3) := zy_b11pay_14.2.2.2.2.1
theorem dX7_payment_11 : decode cX7_payment 11 = .ok (.iload_n 1, 1) := zy_b11pay_14.2.2.2.2.2.1
theorem dX7_payment_12 : decode cX7_payment 12 = .ok (.iconst 0, 1) := zy_b11pay_14.2.2.2.2.2.2.1
theorem dX7_payment_13 : decode cX7_payment 13 = .ok (.aload_n 0, 1) := zy_b11pay_14.2.2.2.2.2.2.2
theorem zy_b11pay_15 : decode cX7_payment 14 = .ok (.getfield 51, 3) ∧ decode cX7_payment 17 = .ok (.getfield 195, 3) ∧ decode cX7_payment 20 = .ok (.iconst 1, 1) ∧ decode cX7_payment 21 = .ok (.isub, 1) ∧ decode cX7_payment 22 = .ok (.invokestatic 80, 3) ∧ decode cX7_payment 25 = .ok (.ifCond .ne 5, 3) ∧ decode cX7_payment 28 = .ok (.iconst (-1), 1) ∧ decode cX7_payment 29 = .ok (.ireturn, 1) := by decide +kernel
theorem dX7_payment_14 : decode cX7_payment 14 = .ok (.getfield 51, 3) := zy_b11pay_15.1
theorem dX7_payment_17 : decode cX7_payment 17 = .ok (.getfield 195, 3) := zy_b11pay_15.2.1
theorem dX7_payment_20 : decode cX7_payment 20 = .ok (.iconst 1, 1) := zy_b11pay_15.2.2.1
theorem dX7_payment_21 : decode cX7_payment 21 = .ok (.isub, 1) := zy_b11pay_15.2.2.2.1
theorem dX7_payment_22 : decode cX7_payment 22 = .ok (.invokestatic 80, 3) := zy_b11pay_15.2.2.2.2.1
theorem dX7_payment_25 : decode cX7_payment 25 = .ok (.ifCond .ne 5, 3) := zy_b11pay_15.2.2.2.2.2.1
theorem dX7_payment_28 : decode cX7_payment 28 = .ok (.iconst (-1), 1) := zy_b11pay_15.2.2.2.2.2.2.1
theorem dX7_payment_29 : decode cX7_payment 29 = .ok (.ireturn, 1) := zy_b11pay_15.2.2.2.2.2.2.2
theorem zy_b11pay_16 : decode cX7_payment 30 = .ok (.iload_n 2, 1) ∧ decode cX7_payment 31 = .ok (.tableswitch 55 0 2 #[25, 35, 45], 25) ∧ decode cX7_payment 56 = .ok (.aload_n 0, 1) ∧ decode cX7_payment 57 = .ok (.getfield 51, 3) ∧ decode cX7_payment 60 = .ok (.getfield 196, 3) ∧ decode cX7_payment 63 = .ok (.iload_n 1, 1) ∧ decode cX7_payment 64 = .ok (.iaload, 1) ∧ decode cX7_payment 65 = .ok (.ireturn, 1) := by decide +kernel
theorem dX7_payment_30 : decode cX7_payment 30 = .ok (.iload_n 2, 1) := zy_b11pay_16.1
theorem dX7_payment_31 : decode cX7_payment 31 = .ok (.tableswitch 55 0 2 #[25, 35, 45], 25) := zy_b11pay_16.2.1
theorem dX7_payment_56 : decode cX7_payment 56 = .ok (.aload_n 0, 1) := zy_b11pay_16.2.2.1
theorem dX7_payment_57 : decode cX7_payment 57 = .ok (.getfield 51, 3) := zy_b11pay_16.2.2.2.1
theorem dX7_payment_60 : decode cX7_payment 60 = .ok (.getfield 196, 3) := zy_b11pay_16.2.2.2.2.1
theorem dX7_payment_63 : decode cX7_payment 63 = .ok (.iload_n 1, 1) := zy_b11pay_16.2.2.2.2.2.1
theorem dX7_payment_64 : decode cX7_payment 64 = .ok (.iaload, 1) := zy_b11pay_16.2.2.2.2.2.2.1
theorem dX7_payment_65 : decode cX7_payment 65 = .ok (.ireturn, 1) := zy_b11pay_16.2.2.2.2.2.2.2
theorem zy_b11pay_17 : decode cX7_payment 66 = .ok (.aload_n 0, 1) ∧ decode cX7_payment 67 = .ok (.getfield 51, 3) ∧ decode cX7_payment 70 = .ok (.getfield 199, 3) ∧ decode cX7_payment 73 = .ok (.iload_n 1, 1) ∧ decode cX7_payment 74 = .ok (.iaload, 1) ∧ decode cX7_payment 75 = .ok (.ireturn, 1) ∧ decode cX7_payment 76 = .ok (.aload_n 0, 1) ∧ decode cX7_payment 77 = .ok (.getfield 51, 3) := by decide +kernel
theorem dX7_payment_66 : decode cX7_payment 66 = .ok (.aload_n 0, 1) := zy_b11pay_17.1
theorem dX7_payment_67 : decode cX7_payment 67 = .ok (.getfield 51, 3) := zy_b11pay_17.2.1
theorem dX7_payment_70 : decode cX7_payment 70 = .ok (.getfield 199, 3) := zy_b11pay_17.2.2.1
theorem dX7_payment_73 : decode cX7_payment 73 = .ok (.iload_n 1, 1) := zy_b11pay_17.2.2.2.1
theorem dX7_payment_74 : decode cX7_payment 74 = .ok (.iaload, 1) := zy_b11pay_17.2.2.2.2.1
theorem dX7_payment_75 : decode cX7_payment 75 = .ok (.ireturn, 1) := zy_b11pay_17.2.2.2.2.2.1
theorem dX7_payment_76 : decode cX7_payment 76 = .ok (.aload_n 0, 1) := zy_b11pay_17.2.2.2.2.2.2.1
theorem dX7_payment_77 : decode cX7_payment 77 = .ok (.getfield 51, 3) := zy_b11pay_17.2.2.2.2.2.2.2
theorem zy_b11pay_18 : decode cX7_payment 80 = .ok (.getfield 202, 3) ∧ decode cX7_payment 83 = .ok (.iload_n 1, 1) ∧ decode cX7_payment 84 = .ok (.iaload, 1) ∧ decode cX7_payment 85 = .ok (.ireturn, 1) ∧ decode cX7_payment 86 = .ok (.iconst (-1), 1) ∧ decode cX7_payment 87 = .ok (.ireturn, 1) := by decide +kernel
theorem dX7_payment_80 : decode cX7_payment 80 = .ok (.getfield 202, 3) := zy_b11pay_18.1
theorem dX7_payment_83 : decode cX7_payment 83 = .ok (.iload_n 1, 1) := zy_b11pay_18.2.1
theorem dX7_payment_84 : decode cX7_payment 84 = .ok (.iaload, 1) := zy_b11pay_18.2.2.1
theorem dX7_payment_85 : decode cX7_payment 85 = .ok (.ireturn, 1) := zy_b11pay_18.2.2.2.1
theorem dX7_payment_86 : decode cX7_payment 86 = .ok (.iconst (-1), 1) := zy_b11pay_18.2.2.2.2.1
theorem dX7_payment_87 : decode cX7_payment 87 = .ok (.ireturn, 1) := zy_b11pay_18.2.2.2.2.2
