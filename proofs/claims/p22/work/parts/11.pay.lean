theorem tw_129 : Cond.fieldLink RX2 15 "HandsReturned$Evening" "freshNets" "[I" ∈ zz_all := zz_m1 190 rfl rfl
theorem tw_130 : Cond.code yX2_takeNets cX2_takeNets 4 (some .boolean) ∈ zz_all := zz_m3 85 rfl rfl
theorem tw_131 : Cond.methodLink RX2 36 yX2_takeNets ∈ zz_all := zz_m3 82 rfl rfl
theorem tw_132 : Cond.instanceMethod yX2_takeNets ∈ zz_all := zz_m3 84 rfl rfl
theorem tw_133 : Cond.selects RX2 yX2_takeNets yX2_takeNets ∈ zz_all := zz_ms 24 rfl rfl
theorem tw_134 : Cond.code yX2_tell cX2_tell 4 none ∈ zz_all := zz_m3 90 rfl rfl
theorem tw_135 : Cond.methodLink RX2 40 yX2_tell ∈ zz_all := zz_m3 87 rfl rfl
theorem tw_136 : Cond.instanceMethod yX2_tell ∈ zz_all := zz_m3 89 rfl rfl
theorem tw_137 : Cond.selects RX2 yX2_tell yX2_tell ∈ zz_all := zz_ms 25 rfl rfl
theorem tw_138 : Cond.fieldLink RX7 51 "HandsReturned" "evening" "LHandsReturned$Evening;" ∈ zz_all := zz_m2 32 rfl rfl
theorem tw_139 : Cond.code yX2_tellFor cX2_tellFor 2 none ∈ zz_all := zz_m3 81 rfl rfl
theorem tw_140 : Cond.instanceMethod yX2_tellFor ∈ zz_all := zz_m3 80 rfl rfl
theorem tw_141 : Cond.selects RX2 yX2_tellFor yX2_tellFor ∈ zz_all := zz_ms 23 rfl rfl
theorem zy_b11pay_0 : decode cX2_takeNets 0 = .ok (.iconst 0, 1) ∧ decode cX2_takeNets 1 = .ok (.istore_n 2, 1) ∧ decode cX2_takeNets 2 = .ok (.iconst 0, 1) ∧ decode cX2_takeNets 3 = .ok (.istore_n 3, 1) ∧ decode cX2_takeNets 4 = .ok (.iload_n 3, 1) ∧ decode cX2_takeNets 5 = .ok (.bipush 8, 2) ∧ decode cX2_takeNets 7 = .ok (.if_icmp .ge 16, 3) ∧ decode cX2_takeNets 10 = .ok (.aload_n 0, 1) := by decide +kernel
theorem dX2_takeNets_0 : decode cX2_takeNets 0 = .ok (.iconst 0, 1) := zy_b11pay_0.1
theorem dX2_takeNets_1 : decode cX2_takeNets 1 = .ok (.istore_n 2, 1) := zy_b11pay_0.2.1
theorem dX2_takeNets_2 : decode cX2_takeNets 2 = .ok (.iconst 0, 1) := zy_b11pay_0.2.2.1
theorem dX2_takeNets_3 : decode cX2_takeNets 3 = .ok (.istore_n 3, 1) := zy_b11pay_0.2.2.2.1
theorem dX2_takeNets_4 : decode cX2_takeNets 4 = .ok (.iload_n 3, 1) := zy_b11pay_0.2.2.2.2.1
theorem dX2_takeNets_5 : decode cX2_takeNets 5 = .ok (.bipush 8, 2) := zy_b11pay_0.2.2.2.2.2.1
theorem dX2_takeNets_7 : decode cX2_takeNets 7 = .ok (.if_icmp .ge 16, 3) := zy_b11pay_0.2.2.2.2.2.2.1
theorem dX2_takeNets_10 : decode cX2_takeNets 10 = .ok (.aload_n 0, 1) := zy_b11pay_0.2.2.2.2.2.2.2
theorem zy_b11pay_1 : decode cX2_takeNets 11 = .ok (.getfield 15, 3) ∧ decode cX2_takeNets 14 = .ok (.iload_n 3, 1) ∧ decode cX2_takeNets 15 = .ok (.iconst 0, 1) ∧ decode cX2_takeNets 16 = .ok (.iastore, 1) ∧ decode cX2_takeNets 17 = .ok (.iinc 3 1, 3) ∧ decode cX2_takeNets 20 = .ok (.goto (-16), 3) ∧ decode cX2_takeNets 23 = .ok (.iconst 0, 1) ∧ decode cX2_takeNets 24 = .ok (.istore_n 3, 1) := by decide +kernel
theorem dX2_takeNets_11 : decode cX2_takeNets 11 = .ok (.getfield 15, 3) := zy_b11pay_1.1
theorem dX2_takeNets_14 : decode cX2_takeNets 14 = .ok (.iload_n 3, 1) := zy_b11pay_1.2.1
theorem dX2_takeNets_15 : decode cX2_takeNets 15 = .ok (.iconst 0, 1) := zy_b11pay_1.2.2.1
theorem dX2_takeNets_16 : decode cX2_takeNets 16 = .ok (.iastore, 1) := zy_b11pay_1.2.2.2.1
theorem dX2_takeNets_17 : decode cX2_takeNets 17 = .ok (.iinc 3 1, 3) := zy_b11pay_1.2.2.2.2.1
theorem dX2_takeNets_20 : decode cX2_takeNets 20 = .ok (.goto (-16), 3) := zy_b11pay_1.2.2.2.2.2.1
theorem dX2_takeNets_23 : decode cX2_takeNets 23 = .ok (.iconst 0, 1) := zy_b11pay_1.2.2.2.2.2.2.1
theorem dX2_takeNets_24 : decode cX2_takeNets 24 = .ok (.istore_n 3, 1) := zy_b11pay_1.2.2.2.2.2.2.2
theorem zy_b11pay_2 : decode cX2_takeNets 25 = .ok (.iload_n 3, 1) ∧ decode cX2_takeNets 26 = .ok (.aload_n 1, 1) ∧ decode cX2_takeNets 27 = .ok (.getfield 43, 3) ∧ decode cX2_takeNets 30 = .ok (.if_icmp .ge 79, 3) ∧ decode cX2_takeNets 33 = .ok (.aload_n 1, 1) ∧ decode cX2_takeNets 34 = .ok (.getfield 49, 3) ∧ decode cX2_takeNets 37 = .ok (.iload_n 3, 1) ∧ decode cX2_takeNets 38 = .ok (.iaload, 1) := by decide +kernel
theorem dX2_takeNets_25 : decode cX2_takeNets 25 = .ok (.iload_n 3, 1) := zy_b11pay_2.1
theorem dX2_takeNets_26 : decode cX2_takeNets 26 = .ok (.aload_n 1, 1) := zy_b11pay_2.2.1
theorem dX2_takeNets_27 : decode cX2_takeNets 27 = .ok (.getfield 43, 3) := zy_b11pay_2.2.2.1
theorem dX2_takeNets_30 : decode cX2_takeNets 30 = .ok (.if_icmp .ge 79, 3) := zy_b11pay_2.2.2.2.1
theorem dX2_takeNets_33 : decode cX2_takeNets 33 = .ok (.aload_n 1, 1) := zy_b11pay_2.2.2.2.2.1
theorem dX2_takeNets_34 : decode cX2_takeNets 34 = .ok (.getfield 49, 3) := zy_b11pay_2.2.2.2.2.2.1
theorem dX2_takeNets_37 : decode cX2_takeNets 37 = .ok (.iload_n 3, 1) := zy_b11pay_2.2.2.2.2.2.2.1
theorem dX2_takeNets_38 : decode cX2_takeNets 38 = .ok (.iaload, 1) := zy_b11pay_2.2.2.2.2.2.2.2
theorem zy_b11pay_3 : decode cX2_takeNets 39 = .ok (.iconst 0, 1) ∧ decode cX2_takeNets 40 = .ok (.bipush 7, 2) ∧ decode cX2_takeNets 42 = .ok (.invokestatic 52, 3) ∧ decode cX2_takeNets 45 = .ok (.ifCond .eq 58, 3) ∧ decode cX2_takeNets 48 = .ok (.aload_n 1, 1) ∧ decode cX2_takeNets 49 = .ok (.getfield 56, 3) ∧ decode cX2_takeNets 52 = .ok (.iload_n 3, 1) ∧ decode cX2_takeNets 53 = .ok (.iaload, 1) := by decide +kernel
theorem dX2_takeNets_39 : decode cX2_takeNets 39 = .ok (.iconst 0, 1) := zy_b11pay_3.1
theorem dX2_takeNets_40 : decode cX2_takeNets 40 = .ok (.bipush 7, 2) := zy_b11pay_3.2.1
theorem dX2_takeNets_42 : decode cX2_takeNets 42 = .ok (.invokestatic 52, 3) := zy_b11pay_3.2.2.1
theorem dX2_takeNets_45 : decode cX2_takeNets 45 = .ok (.ifCond .eq 58, 3) := zy_b11pay_3.2.2.2.1
theorem dX2_takeNets_48 : decode cX2_takeNets 48 = .ok (.aload_n 1, 1) := zy_b11pay_3.2.2.2.2.1
theorem dX2_takeNets_49 : decode cX2_takeNets 49 = .ok (.getfield 56, 3) := zy_b11pay_3.2.2.2.2.2.1
theorem dX2_takeNets_52 : decode cX2_takeNets 52 = .ok (.iload_n 3, 1) := zy_b11pay_3.2.2.2.2.2.2.1
theorem dX2_takeNets_53 : decode cX2_takeNets 53 = .ok (.iaload, 1) := zy_b11pay_3.2.2.2.2.2.2.2
theorem zy_b11pay_4 : decode cX2_takeNets 54 = .ok (.iconst 0, 1) ∧ decode cX2_takeNets 55 = .ok (.bipush 7, 2) ∧ decode cX2_takeNets 57 = .ok (.invokestatic 52, 3) ∧ decode cX2_takeNets 60 = .ok (.ifCond .eq 43, 3) ∧ decode cX2_takeNets 63 = .ok (.aload_n 0, 1) ∧ decode cX2_takeNets 64 = .ok (.getfield 15, 3) ∧ decode cX2_takeNets 67 = .ok (.aload_n 1, 1) ∧ decode cX2_takeNets 68 = .ok (.getfield 49, 3) := by decide +kernel
theorem dX2_takeNets_54 : decode cX2_takeNets 54 = .ok (.iconst 0, 1) := zy_b11pay_4.1
theorem dX2_takeNets_55 : decode cX2_takeNets 55 = .ok (.bipush 7, 2) := zy_b11pay_4.2.1
theorem dX2_takeNets_57 : decode cX2_takeNets 57 = .ok (.invokestatic 52, 3) := zy_b11pay_4.2.2.1
theorem dX2_takeNets_60 : decode cX2_takeNets 60 = .ok (.ifCond .eq 43, 3) := zy_b11pay_4.2.2.2.1
theorem dX2_takeNets_63 : decode cX2_takeNets 63 = .ok (.aload_n 0, 1) := zy_b11pay_4.2.2.2.2.1
theorem dX2_takeNets_64 : decode cX2_takeNets 64 = .ok (.getfield 15, 3) := zy_b11pay_4.2.2.2.2.2.1
theorem dX2_takeNets_67 : decode cX2_takeNets 67 = .ok (.aload_n 1, 1) := zy_b11pay_4.2.2.2.2.2.2.1
theorem dX2_takeNets_68 : decode cX2_takeNets 68 = .ok (.getfield 49, 3) := zy_b11pay_4.2.2.2.2.2.2.2
theorem zy_b11pay_5 : decode cX2_takeNets 71 = .ok (.iload_n 3, 1) ∧ decode cX2_takeNets 72 = .ok (.iaload, 1) ∧ decode cX2_takeNets 73 = .ok (.dup2, 1) ∧ decode cX2_takeNets 74 = .ok (.iaload, 1) ∧ decode cX2_takeNets 75 = .ok (.aload_n 1, 1) ∧ decode cX2_takeNets 76 = .ok (.getfield 59, 3) ∧ decode cX2_takeNets 79 = .ok (.iload_n 3, 1) ∧ decode cX2_takeNets 80 = .ok (.iaload, 1) := by decide +kernel
theorem dX2_takeNets_71 : decode cX2_takeNets 71 = .ok (.iload_n 3, 1) := zy_b11pay_5.1
theorem dX2_takeNets_72 : decode cX2_takeNets 72 = .ok (.iaload, 1) := zy_b11pay_5.2.1
theorem dX2_takeNets_73 : decode cX2_takeNets 73 = .ok (.dup2, 1) := zy_b11pay_5.2.2.1
theorem dX2_takeNets_74 : decode cX2_takeNets 74 = .ok (.iaload, 1) := zy_b11pay_5.2.2.2.1
theorem dX2_takeNets_75 : decode cX2_takeNets 75 = .ok (.aload_n 1, 1) := zy_b11pay_5.2.2.2.2.1
theorem dX2_takeNets_76 : decode cX2_takeNets 76 = .ok (.getfield 59, 3) := zy_b11pay_5.2.2.2.2.2.1
theorem dX2_takeNets_79 : decode cX2_takeNets 79 = .ok (.iload_n 3, 1) := zy_b11pay_5.2.2.2.2.2.2.1
theorem dX2_takeNets_80 : decode cX2_takeNets 80 = .ok (.iaload, 1) := zy_b11pay_5.2.2.2.2.2.2.2
theorem zy_b11pay_6 : decode cX2_takeNets 81 = .ok (.isub, 1) ∧ decode cX2_takeNets 82 = .ok (.iastore, 1) ∧ decode cX2_takeNets 83 = .ok (.aload_n 0, 1) ∧ decode cX2_takeNets 84 = .ok (.getfield 15, 3) ∧ decode cX2_takeNets 87 = .ok (.aload_n 1, 1) ∧ decode cX2_takeNets 88 = .ok (.getfield 56, 3) ∧ decode cX2_takeNets 91 = .ok (.iload_n 3, 1) ∧ decode cX2_takeNets 92 = .ok (.iaload, 1) := by decide +kernel
theorem dX2_takeNets_81 : decode cX2_takeNets 81 = .ok (.isub, 1) := zy_b11pay_6.1
theorem dX2_takeNets_82 : decode cX2_takeNets 82 = .ok (.iastore, 1) := zy_b11pay_6.2.1
theorem dX2_takeNets_83 : decode cX2_takeNets 83 = .ok (.aload_n 0, 1) := zy_b11pay_6.2.2.1
theorem dX2_takeNets_84 : decode cX2_takeNets 84 = .ok (.getfield 15, 3) := zy_b11pay_6.2.2.2.1
theorem dX2_takeNets_87 : decode cX2_takeNets 87 = .ok (.aload_n 1, 1) := zy_b11pay_6.2.2.2.2.1
theorem dX2_takeNets_88 : decode cX2_takeNets 88 = .ok (.getfield 56, 3) := zy_b11pay_6.2.2.2.2.2.1
theorem dX2_takeNets_91 : decode cX2_takeNets 91 = .ok (.iload_n 3, 1) := zy_b11pay_6.2.2.2.2.2.2.1
theorem dX2_takeNets_92 : decode cX2_takeNets 92 = .ok (.iaload, 1) := zy_b11pay_6.2.2.2.2.2.2.2
theorem zy_b11pay_7 : decode cX2_takeNets 93 = .ok (.dup2, 1) ∧ decode cX2_takeNets 94 = .ok (.iaload, 1) ∧ decode cX2_takeNets 95 = .ok (.aload_n 1, 1) ∧ decode cX2_takeNets 96 = .ok (.getfield 59, 3) ∧ decode cX2_takeNets 99 = .ok (.iload_n 3, 1) ∧ decode cX2_takeNets 100 = .ok (.iaload, 1) ∧ decode cX2_takeNets 101 = .ok (.iadd, 1) ∧ decode cX2_takeNets 102 = .ok (.iastore, 1) := by decide +kernel
theorem dX2_takeNets_93 : decode cX2_takeNets 93 = .ok (.dup2, 1) := zy_b11pay_7.1
theorem dX2_takeNets_94 : decode cX2_takeNets 94 = .ok (.iaload, 1) := zy_b11pay_7.2.1
theorem dX2_takeNets_95 : decode cX2_takeNets 95 = .ok (.aload_n 1, 1) := zy_b11pay_7.2.2.1
theorem dX2_takeNets_96 : decode cX2_takeNets 96 = .ok (.getfield 59, 3) := zy_b11pay_7.2.2.2.1
theorem dX2_takeNets_99 : decode cX2_takeNets 99 = .ok (.iload_n 3, 1) := zy_b11pay_7.2.2.2.2.1
theorem dX2_takeNets_100 : decode cX2_takeNets 100 = .ok (.iaload, 1) := zy_b11pay_7.2.2.2.2.2.1
theorem dX2_takeNets_101 : decode cX2_takeNets 101 = .ok (.iadd, 1) := zy_b11pay_7.2.2.2.2.2.2.1
theorem dX2_takeNets_102 : decode cX2_takeNets 102 = .ok (.iastore, 1) := zy_b11pay_7.2.2.2.2.2.2.2
theorem zy_b11pay_8 : decode cX2_takeNets 103 = .ok (.iinc 3 1, 3) ∧ decode cX2_takeNets 106 = .ok (.goto (-81), 3) ∧ decode cX2_takeNets 109 = .ok (.iconst 0, 1) ∧ decode cX2_takeNets 110 = .ok (.istore_n 3, 1) ∧ decode cX2_takeNets 111 = .ok (.iload_n 3, 1) ∧ decode cX2_takeNets 112 = .ok (.bipush 8, 2) ∧ decode cX2_takeNets 114 = .ok (.if_icmp .ge 38, 3) ∧ decode cX2_takeNets 117 = .ok (.aload_n 0, 1) := by decide +kernel
theorem dX2_takeNets_103 : decode cX2_takeNets 103 = .ok (.iinc 3 1, 3) := zy_b11pay_8.1
theorem dX2_takeNets_106 : decode cX2_takeNets 106 = .ok (.goto (-81), 3) := zy_b11pay_8.2.1
theorem dX2_takeNets_109 : decode cX2_takeNets 109 = .ok (.iconst 0, 1) := zy_b11pay_8.2.2.1
theorem dX2_takeNets_110 : decode cX2_takeNets 110 = .ok (.istore_n 3, 1) := zy_b11pay_8.2.2.2.1
theorem dX2_takeNets_111 : decode cX2_takeNets 111 = .ok (.iload_n 3, 1) := zy_b11pay_8.2.2.2.2.1
theorem dX2_takeNets_112 : decode cX2_takeNets 112 = .ok (.bipush 8, 2) := zy_b11pay_8.2.2.2.2.2.1
theorem dX2_takeNets_114 : decode cX2_takeNets 114 = .ok (.if_icmp .ge 38, 3) := zy_b11pay_8.2.2.2.2.2.2.1
theorem dX2_takeNets_117 : decode cX2_takeNets 117 = .ok (.aload_n 0, 1) := zy_b11pay_8.2.2.2.2.2.2.2
theorem zy_b11pay_9 : decode cX2_takeNets 118 = .ok (.getfield 9, 3) ∧ decode cX2_takeNets 121 = .ok (.iload_n 3, 1) ∧ decode cX2_takeNets 122 = .ok (.iaload, 1) ∧ decode cX2_takeNets 123 = .ok (.aload_n 0, 1) ∧ decode cX2_takeNets 124 = .ok (.getfield 15, 3) ∧ decode cX2_takeNets 127 = .ok (.iload_n 3, 1) ∧ decode cX2_takeNets 128 = .ok (.iaload, 1) ∧ decode cX2_takeNets 129 = .ok (.if_icmp .eq 17, 3) := by decide +kernel
theorem dX2_takeNets_118 : decode cX2_takeNets 118 = .ok (.getfield 9, 3) := zy_b11pay_9.1
theorem dX2_takeNets_121 : decode cX2_takeNets 121 = .ok (.iload_n 3, 1) := zy_b11pay_9.2.1
theorem dX2_takeNets_122 : decode cX2_takeNets 122 = .ok (.iaload, 1) := zy_b11pay_9.2.2.1
theorem dX2_takeNets_123 : decode cX2_takeNets 123 = .ok (.aload_n 0, 1) := zy_b11pay_9.2.2.2.1
theorem dX2_takeNets_124 : decode cX2_takeNets 124 = .ok (.getfield 15, 3) := zy_b11pay_9.2.2.2.2.1
theorem dX2_takeNets_127 : decode cX2_takeNets 127 = .ok (.iload_n 3, 1) := zy_b11pay_9.2.2.2.2.2.1
theorem dX2_takeNets_128 : decode cX2_takeNets 128 = .ok (.iaload, 1) := zy_b11pay_9.2.2.2.2.2.2.1
theorem dX2_takeNets_129 : decode cX2_takeNets 129 = .ok (.if_icmp .eq 17, 3) := zy_b11pay_9.2.2.2.2.2.2.2
theorem zy_b11pay_10 : decode cX2_takeNets 132 = .ok (.aload_n 0, 1) ∧ decode cX2_takeNets 133 = .ok (.getfield 9, 3) ∧ decode cX2_takeNets 136 = .ok (.iload_n 3, 1) ∧ decode cX2_takeNets 137 = .ok (.aload_n 0, 1) ∧ decode cX2_takeNets 138 = .ok (.getfield 15, 3) ∧ decode cX2_takeNets 141 = .ok (.iload_n 3, 1) ∧ decode cX2_takeNets 142 = .ok (.iaload, 1) ∧ decode cX2_takeNets 143 = .ok (.iastore, 1) := by decide +kernel
theorem dX2_takeNets_132 : decode cX2_takeNets 132 = .ok (.aload_n 0, 1) := zy_b11pay_10.1
theorem dX2_takeNets_133 : decode cX2_takeNets 133 = .ok (.getfield 9, 3) := zy_b11pay_10.2.1
theorem dX2_takeNets_136 : decode cX2_takeNets 136 = .ok (.iload_n 3, 1) := zy_b11pay_10.2.2.1
theorem dX2_takeNets_137 : decode cX2_takeNets 137 = .ok (.aload_n 0, 1) := zy_b11pay_10.2.2.2.1
theorem dX2_takeNets_138 : decode cX2_takeNets 138 = .ok (.getfield 15, 3) := zy_b11pay_10.2.2.2.2.1
theorem dX2_takeNets_141 : decode cX2_takeNets 141 = .ok (.iload_n 3, 1) := zy_b11pay_10.2.2.2.2.2.1
theorem dX2_takeNets_142 : decode cX2_takeNets 142 = .ok (.iaload, 1) := zy_b11pay_10.2.2.2.2.2.2.1
theorem dX2_takeNets_143 : decode cX2_takeNets 143 = .ok (.iastore, 1) := zy_b11pay_10.2.2.2.2.2.2.2
theorem zy_b11pay_11 : decode cX2_takeNets 144 = .ok (.iconst 1, 1) ∧ decode cX2_takeNets 145 = .ok (.istore_n 2, 1) ∧ decode cX2_takeNets 146 = .ok (.iinc 3 1, 3) ∧ decode cX2_takeNets 149 = .ok (.goto (-38), 3) ∧ decode cX2_takeNets 152 = .ok (.iload_n 2, 1) ∧ decode cX2_takeNets 153 = .ok (.ireturn, 1) := by decide +kernel
theorem dX2_takeNets_144 : decode cX2_takeNets 144 = .ok (.iconst 1, 1) := zy_b11pay_11.1
theorem dX2_takeNets_145 : decode cX2_takeNets 145 = .ok (.istore_n 2, 1) := zy_b11pay_11.2.1
theorem dX2_takeNets_146 : decode cX2_takeNets 146 = .ok (.iinc 3 1, 3) := zy_b11pay_11.2.2.1
theorem dX2_takeNets_149 : decode cX2_takeNets 149 = .ok (.goto (-38), 3) := zy_b11pay_11.2.2.2.1
theorem dX2_takeNets_152 : decode cX2_takeNets 152 = .ok (.iload_n 2, 1) := zy_b11pay_11.2.2.2.2.1
theorem dX2_takeNets_153 : decode cX2_takeNets 153 = .ok (.ireturn, 1) := zy_b11pay_11.2.2.2.2.2
theorem zy_b11pay_12 : decode cX2_tellFor 0 = .ok (.aload_n 0, 1) ∧ decode cX2_tellFor 1 = .ok (.aload_n 1, 1) ∧ decode cX2_tellFor 2 = .ok (.invokevirtual 36, 3) ∧ decode cX2_tellFor 5 = .ok (.ifCond .eq 7, 3) ∧ decode cX2_tellFor 8 = .ok (.aload_n 0, 1) ∧ decode cX2_tellFor 9 = .ok (.invokevirtual 40, 3) ∧ decode cX2_tellFor 12 = .ok (.return_, 1) := by decide +kernel
theorem dX2_tellFor_0 : decode cX2_tellFor 0 = .ok (.aload_n 0, 1) := zy_b11pay_12.1
theorem dX2_tellFor_1 : decode cX2_tellFor 1 = .ok (.aload_n 1, 1) := zy_b11pay_12.2.1
theorem dX2_tellFor_2 : decode cX2_tellFor 2 = .ok (.invokevirtual 36, 3) := zy_b11pay_12.2.2.1
theorem dX2_tellFor_5 : decode cX2_tellFor 5 = .ok (.ifCond .eq 7, 3) := zy_b11pay_12.2.2.2.1
theorem dX2_tellFor_8 : decode cX2_tellFor 8 = .ok (.aload_n 0, 1) := zy_b11pay_12.2.2.2.2.1
theorem dX2_tellFor_9 : decode cX2_tellFor 9 = .ok (.invokevirtual 40, 3) := zy_b11pay_12.2.2.2.2.2.1
theorem dX2_tellFor_12 : decode cX2_tellFor 12 = .ok (.return_, 1) := zy_b11pay_12.2.2.2.2.2.2
theorem zy_b11pay_13 : decode cX7_payments 0 = .ok (.aload_n 0, 1) ∧ decode cX7_payments 1 = .ok (.getfield 51, 3) ∧ decode cX7_payments 4 = .ok (.aload_n 0, 1) ∧ decode cX7_payments 5 = .ok (.getfield 44, 3) ∧ decode cX7_payments 8 = .ok (.invokevirtual 191, 3) ∧ decode cX7_payments 11 = .ok (.aload_n 0, 1) ∧ decode cX7_payments 12 = .ok (.getfield 51, 3) ∧ decode cX7_payments 15 = .ok (.getfield 195, 3) := by decide +kernel
theorem dX7_payments_0 : decode cX7_payments 0 = .ok (.aload_n 0, 1) := zy_b11pay_13.1
theorem dX7_payments_1 : decode cX7_payments 1 = .ok (.getfield 51, 3) := zy_b11pay_13.2.1
theorem dX7_payments_4 : decode cX7_payments 4 = .ok (.aload_n 0, 1) := zy_b11pay_13.2.2.1
theorem dX7_payments_5 : decode cX7_payments 5 = .ok (.getfield 44, 3) := zy_b11pay_13.2.2.2.1
theorem dX7_payments_8 : decode cX7_payments 8 = .ok (.invokevirtual 191, 3) := zy_b11pay_13.2.2.2.2.1
theorem dX7_payments_11 : decode cX7_payments 11 = .ok (.aload_n 0, 1) := zy_b11pay_13.2.2.2.2.2.1
theorem dX7_payments_12 : decode cX7_payments 12 = .ok (.getfield 51, 3) := zy_b11pay_13.2.2.2.2.2.2.1
theorem dX7_payments_15 : decode cX7_payments 15 = .ok (.getfield 195, 3) := zy_b11pay_13.2.2.2.2.2.2.2
theorem dX7_payments_18 : decode cX7_payments 18 = .ok (.ireturn, 1) := by decide +kernel
theorem zy_b11pay_14 : decode cX7_payment 0 = .ok (.aload_n 0, 1) ∧ decode cX7_payment 1 = .ok (.getfield 51, 3) ∧ decode cX7_payment 4 = .ok (.aload_n 0, 1) ∧ decode cX7_payment 5 = .ok (.getfield 44, 3) ∧ decode cX7_payment 8 = .ok (.invokevirtual 191, 3) ∧ decode cX7_payment 11 = .ok (.iload_n 1, 1) ∧ decode cX7_payment 12 = .ok (.iconst 0, 1) ∧ decode cX7_payment 13 = .ok (.aload_n 0, 1) := by decide +kernel
theorem dX7_payment_0 : decode cX7_payment 0 = .ok (.aload_n 0, 1) := zy_b11pay_14.1
theorem dX7_payment_1 : decode cX7_payment 1 = .ok (.getfield 51, 3) := zy_b11pay_14.2.1
theorem dX7_payment_4 : decode cX7_payment 4 = .ok (.aload_n 0, 1) := zy_b11pay_14.2.2.1
theorem dX7_payment_5 : decode cX7_payment 5 = .ok (.getfield 44, 3) := zy_b11pay_14.2.2.2.1
theorem dX7_payment_8 : decode cX7_payment 8 = .ok (.invokevirtual 191, 3) := zy_b11pay_14.2.2.2.2.1
theorem dX7_payment_11 : decode cX7_payment 11 = .ok (.iload_n 1, 1) := zy_b11pay_14.2.2.2.2.2.1
theorem dX7_payment_12 : decode cX7_payment 12 = .ok (.iconst 0, 1) := zy_b11pay_14.2.2.2.2.2.2.1
theorem dX7_payment_13 : decode cX7_payment 13 = .ok (.aload_n 0, 1) := zy_b11pay_14.2.2.2.2.2.2.2
theorem zy_b11pay_15 : decode cX7_payment 14 = .ok (.getfield 51, 3) ∧ decode cX7_payment 17 = .ok (.getfield 195, 3) ∧ decode cX7_payment 20 = .ok (.iconst 1, 1) ∧ decode cX7_payment 21 = .ok (.isub, 1) ∧ decode cX7_payment 22 = .ok (.invokestatic 80, 3) ∧ decode cX7_payment 25 = .ok (.ifCond .ne 5, 3) ∧ decode cX7_payment 28 = .ok (.iconst (-1), 1) ∧ decode cX7_payment 29 = .ok (.ireturn, 1) := by decide +kernel
theorem dX7_payment_14 : decode cX7_payment 14 = .ok (.getfield 51, 3) := zy_b11pay_15.1
theorem dX7_payment_17 : decode cX7_payment 17 = .ok (.getfield 195, 3) := zy_b11pay_15.2.1
theorem dX7_payment_20 : decode cX7_payment 20 = .ok (.iconst 1, 1) := zy_b11pay_15.2.2.1
theorem dX7_payment_21 : decode cX7_payment 21 = .ok (.isub, 1) := zy_b11pay_15.2.2.2.1
theorem dX7_payment_22 : decode cX7_payment 22 = .ok (.invokestatic 80, 3) := zy_b11pay_15.2.2.2.2.1
theorem dX7_payment_25 : decode cX7_payment 25 = .ok (.ifCond .ne 5, 3) := zy_b11pay_15.2.2.2.2.2.1
theorem dX7_payment_28 : decode cX7_payment 28 = .ok (.iconst (-1), 1) := zy_b11pay_15.2.2.2.2.2.2.1
theorem dX7_payment_29 : decode cX7_payment 29 = .ok (.ireturn, 1) := zy_b11pay_15.2.2.2.2.2.2.2
theorem zy_b11pay_16 : decode cX7_payment 30 = .ok (.iload_n 2, 1) ∧ decode cX7_payment 31 = .ok (.tableswitch 55 0 2 #[25, 35, 45], 25) ∧ decode cX7_payment 56 = .ok (.aload_n 0, 1) ∧ decode cX7_payment 57 = .ok (.getfield 51, 3) ∧ decode cX7_payment 60 = .ok (.getfield 196, 3) ∧ decode cX7_payment 63 = .ok (.iload_n 1, 1) ∧ decode cX7_payment 64 = .ok (.iaload, 1) ∧ decode cX7_payment 65 = .ok (.ireturn, 1) := by decide +kernel
theorem dX7_payment_30 : decode cX7_payment 30 = .ok (.iload_n 2, 1) := zy_b11pay_16.1
theorem dX7_payment_31 : decode cX7_payment 31 = .ok (.tableswitch 55 0 2 #[25, 35, 45], 25) := zy_b11pay_16.2.1
theorem dX7_payment_56 : decode cX7_payment 56 = .ok (.aload_n 0, 1) := zy_b11pay_16.2.2.1
theorem dX7_payment_57 : decode cX7_payment 57 = .ok (.getfield 51, 3) := zy_b11pay_16.2.2.2.1
theorem dX7_payment_60 : decode cX7_payment 60 = .ok (.getfield 196, 3) := zy_b11pay_16.2.2.2.2.1
theorem dX7_payment_63 : decode cX7_payment 63 = .ok (.iload_n 1, 1) := zy_b11pay_16.2.2.2.2.2.1
theorem dX7_payment_64 : decode cX7_payment 64 = .ok (.iaload, 1) := zy_b11pay_16.2.2.2.2.2.2.1
theorem dX7_payment_65 : decode cX7_payment 65 = .ok (.ireturn, 1) := zy_b11pay_16.2.2.2.2.2.2.2
theorem zy_b11pay_17 : decode cX7_payment 66 = .ok (.aload_n 0, 1) ∧ decode cX7_payment 67 = .ok (.getfield 51, 3) ∧ decode cX7_payment 70 = .ok (.getfield 199, 3) ∧ decode cX7_payment 73 = .ok (.iload_n 1, 1) ∧ decode cX7_payment 74 = .ok (.iaload, 1) ∧ decode cX7_payment 75 = .ok (.ireturn, 1) ∧ decode cX7_payment 76 = .ok (.aload_n 0, 1) ∧ decode cX7_payment 77 = .ok (.getfield 51, 3) := by decide +kernel
theorem dX7_payment_66 : decode cX7_payment 66 = .ok (.aload_n 0, 1) := zy_b11pay_17.1
theorem dX7_payment_67 : decode cX7_payment 67 = .ok (.getfield 51, 3) := zy_b11pay_17.2.1
theorem dX7_payment_70 : decode cX7_payment 70 = .ok (.getfield 199, 3) := zy_b11pay_17.2.2.1
theorem dX7_payment_73 : decode cX7_payment 73 = .ok (.iload_n 1, 1) := zy_b11pay_17.2.2.2.1
theorem dX7_payment_74 : decode cX7_payment 74 = .ok (.iaload, 1) := zy_b11pay_17.2.2.2.2.1
theorem dX7_payment_75 : decode cX7_payment 75 = .ok (.ireturn, 1) := zy_b11pay_17.2.2.2.2.2.1
theorem dX7_payment_76 : decode cX7_payment 76 = .ok (.aload_n 0, 1) := zy_b11pay_17.2.2.2.2.2.2.1
theorem dX7_payment_77 : decode cX7_payment 77 = .ok (.getfield 51, 3) := zy_b11pay_17.2.2.2.2.2.2.2
theorem zy_b11pay_18 : decode cX7_payment 80 = .ok (.getfield 202, 3) ∧ decode cX7_payment 83 = .ok (.iload_n 1, 1) ∧ decode cX7_payment 84 = .ok (.iaload, 1) ∧ decode cX7_payment 85 = .ok (.ireturn, 1) ∧ decode cX7_payment 86 = .ok (.iconst (-1), 1) ∧ decode cX7_payment 87 = .ok (.ireturn, 1) := by decide +kernel
theorem dX7_payment_80 : decode cX7_payment 80 = .ok (.getfield 202, 3) := zy_b11pay_18.1
theorem dX7_payment_83 : decode cX7_payment 83 = .ok (.iload_n 1, 1) := zy_b11pay_18.2.1
theorem dX7_payment_84 : decode cX7_payment 84 = .ok (.iaload, 1) := zy_b11pay_18.2.2.1
theorem dX7_payment_85 : decode cX7_payment 85 = .ok (.ireturn, 1) := zy_b11pay_18.2.2.2.1
theorem dX7_payment_86 : decode cX7_payment 86 = .ok (.iconst (-1), 1) := zy_b11pay_18.2.2.2.2.1
theorem dX7_payment_87 : decode cX7_payment 87 = .ok (.ireturn, 1) := zy_b11pay_18.2.2.2.2.2
set_option maxHeartbeats 4000000 in
set_option maxRecDepth 100000 in
theorem k_takeNets (l : Launch) (dC : Nat → ClassId) (dI : Nat → Nat → Nat) (a : Nat → Nat) (cI : ClassId) (ne : Nat) (e0 : Nat → Int32) (e1 : Nat → Int32) (nd : Nat) (fo : Nat → Int32) (fc : Nat → Int32) (fs : Nat → Int32) (fu : Nat → Int32) (sz : Nat) (hnd : nd ≤ 300) : Met l yX2_takeNets (zz_w yX2_takeNets cX2_takeNets 4 (some .boolean)) ({ frames := 1, cells := 0, slots := 0, locals := 22 }) (va_Pc [.ref (a 34), .ref (a 29)] (zz_B (dC, dI) sz [(a 34, .inr (2, [.ref (a 35), .ref (a 36), .ref (a 37), .ref (a 38), .ref (a 39), .ref (a 40), .ref (a 41), .ref (a 42), .int (nI ne)])), (a 35, .inl (cI, 8, .inl e0)), (a 36, .inl (cI, 8, .inl e1)), (a 29, .inr (1, [.ref (a 30), .ref (a 31), .ref (a 32), .ref (a 33), .int (nI nd)])), (a 30, .inl (cI, 300, .inl fo)), (a 31, .inl (cI, 300, .inl fc)), (a 32, .inl (cI, 300, .inl fs)), (a 33, .inl (cI, 300, .inl fu))] [(cI, .int)])) (va_Qi (fun (r : Int32) (_ : (Nat → Int32) × (Nat → Int32)) => r = 0 ∨ r = 1) (fun (u : (Nat → Int32) × (Nat → Int32)) (t : State) => match u with | (u0, u1) => va_P (dC, dI) vwCl [(a 34, .inr (2, [.ref (a 35), .ref (a 36), .ref (a 37), .ref (a 38), .ref (a 39), .ref (a 40), .ref (a 41), .ref (a 42), .int (nI ne)])), (a 35, .inl (cI, 8, .inl u0)), (a 36, .inl (cI, 8, .inl u1)), (a 29, .inr (1, [.ref (a 30), .ref (a 31), .ref (a 32), .ref (a 33), .int (nI nd)])), (a 30, .inl (cI, 300, .inl fo)), (a 31, .inl (cI, 300, .inl fc)), (a 32, .inl (cI, 300, .inl fs)), (a 33, .inl (cI, 300, .inl fu))] t.heap ∧ va_K (dC, dI) vwCl [(cI, .int)] t ∧ va_D (va_A [(a 34, .inr (2, [.ref (a 35), .ref (a 36), .ref (a 37), .ref (a 38), .ref (a 39), .ref (a 40), .ref (a 41), .ref (a 42), .int (nI ne)])), (a 35, .inl (cI, 8, .inl e0)), (a 36, .inl (cI, 8, .inl e1)), (a 29, .inr (1, [.ref (a 30), .ref (a 31), .ref (a 32), .ref (a 33), .int (nI nd)])), (a 30, .inl (cI, 300, .inl fo)), (a 31, .inl (cI, 300, .inl fc)), (a 32, .inl (cI, 300, .inl fs)), (a 33, .inl (cI, 300, .inl fu))] sz) [(a 34, .inr (2, [.ref (a 35), .ref (a 36), .ref (a 37), .ref (a 38), .ref (a 39), .ref (a 40), .ref (a 41), .ref (a 42), .int (nI ne)])), (a 35, .inl (cI, 8, .inl u0)), (a 36, .inl (cI, 8, .inl u1)), (a 29, .inr (1, [.ref (a 30), .ref (a 31), .ref (a 32), .ref (a 33), .int (nI nd)])), (a 30, .inl (cI, 300, .inl fo)), (a 31, .inl (cI, 300, .inl fc)), (a 32, .inl (cI, 300, .inl fs)), (a 33, .inl (cI, 300, .inl fu))]) (va_A [(a 34, .inr (2, [.ref (a 35), .ref (a 36), .ref (a 37), .ref (a 38), .ref (a 39), .ref (a 40), .ref (a 41), .ref (a 42), .int (nI ne)])), (a 35, .inl (cI, 8, .inl e0)), (a 36, .inl (cI, 8, .inl e1)), (a 29, .inr (1, [.ref (a 30), .ref (a 31), .ref (a 32), .ref (a 33), .int (nI nd)])), (a 30, .inl (cI, 300, .inl fo)), (a 31, .inl (cI, 300, .inl fc)), (a 32, .inl (cI, 300, .inl fs)), (a 33, .inl (cI, 300, .inl fu))] sz)) 0 0 (va_A [(a 34, .inr (2, [.ref (a 35), .ref (a 36), .ref (a 37), .ref (a 38), .ref (a 39), .ref (a 40), .ref (a 41), .ref (a 42), .int (nI ne)])), (a 35, .inl (cI, 8, .inl e0)), (a 36, .inl (cI, 8, .inl e1)), (a 29, .inr (1, [.ref (a 30), .ref (a 31), .ref (a 32), .ref (a 33), .int (nI nd)])), (a 30, .inl (cI, 300, .inl fo)), (a 31, .inl (cI, 300, .inl fc)), (a 32, .inl (cI, 300, .inl fs)), (a 33, .inl (cI, 300, .inl fu))] sz) := by
  refine Met.ofW (cc := cX2_takeNets) (maxL := 4) (ret := (some .boolean)) (by decide) rfl ?_
  intro p e s m args below meth c s₁ B hml hv
  obtain ⟨rfl, hsz, hP, hK, hD0, hN⟩ := hv
  have hx := B.exec
  have hb := B.bytes
  have hr := B.returns
  have hts := atoms_spec (ws := zz_w yX2_takeNets cX2_takeNets 4 (some .boolean)) B.pre
  have hw : ∀ w ∈ zz_all, w.before _ s = true := fun w h => hts w (List.mem_cons_of_mem _ h)
  have hown : s.vm.findClass RX2 = some m.cls := findClass_of_methodNamed B.named
  have hlocks := B.notSynchronized
  subst hsz
  have hD := hD0.self (sz := s.heap.size)
  generalize hAe : va_A [(a 34, .inr (2, [.ref (a 35), .ref (a 36), .ref (a 37), .ref (a 38), .ref (a 39), .ref (a 40), .ref (a 41), .ref (a 42), .int (nI ne)])), (a 35, .inl (cI, 8, .inl e0)), (a 36, .inl (cI, 8, .inl e1)), (a 29, .inr (1, [.ref (a 30), .ref (a 31), .ref (a 32), .ref (a 33), .int (nI nd)])), (a 30, .inl (cI, 300, .inl fo)), (a 31, .inl (cI, 300, .inl fc)), (a 32, .inl (cI, 300, .inl fs)), (a 33, .inl (cI, 300, .inl fu))] s.heap.size = A at hD ⊢
  have hA : ∀ q : Nat, s.heap.size ≤ q → A q := fun q h => by rw [← hAe]; exact Or.inr h
  have hS : va_S A s.heap s.heap [] := va_S.rf
  have hP : va_P (dC, dI) vwCl [(a 34, .inr (2, [.ref (a 35), .ref (a 36), .ref (a 37), .ref (a 38), .ref (a 39), .ref (a 40), .ref (a 41), .ref (a 42), .int (nI ne)])), (a 35, .inl (cI, 8, .inl e0)), (a 36, .inl (cI, 8, .inl e1)), (a 29, .inr (1, [.ref (a 30), .ref (a 31), .ref (a 32), .ref (a 33), .int (nI nd)])), (a 30, .inl (cI, 300, .inl fo)), (a 31, .inl (cI, 300, .inl fc)), (a 32, .inl (cI, 300, .inl fs)), (a 33, .inl (cI, 300, .inl fu))] s.heap := hP
  have hl := lv_entry ([.ref (a 34), .ref (a 29)]) (n := 4) (Nat.le_of_ble_eq_true rfl)
  rw [lg_entry_eq]
  generalize (lg_sl ([.ref (a 34), .ref (a 29)]) ++ List.replicate (4 - (lg_sl ([.ref (a 34), .ref (a 29)])).length) Slot.unset).toArray = ls at hl ⊢
  have hl : lv_has ls 4 [(0, .ref (a 34)), (1, .ref (a 29))] := hl
  refine lv_iconst (v := 0) hx hb dX2_takeNets_0 (by decide) ?_
  refine lv_istore_n (lv' := [(2, .int 0), (0, .ref (a 34)), (1, .ref (a 29))]) hx hb dX2_takeNets_1 rfl hl (by decide) rfl (fun ls hl => ?_)
  refine lv_iconst (v := 0) hx hb dX2_takeNets_2 (by decide) ?_
  refine lv_istore_n (lv' := [(3, .int 0), (2, .int 0), (0, .ref (a 34)), (1, .ref (a 29))]) hx hb dX2_takeNets_3 rfl hl (by decide) rfl (fun ls hl => ?_)
  refine zz_loopS (fun (u : (Nat) × (Nat → Int32)) => match u with | (j, g1) => [(a 34, .inr (2, [.ref (a 35), .ref (a 36), .ref (a 37), .ref (a 38), .ref (a 39), .ref (a 40), .ref (a 41), .ref (a 42), .int (nI ne)])), (a 35, .inl (cI, 8, .inl e0)), (a 36, .inl (cI, 8, .inl g1)), (a 29, .inr (1, [.ref (a 30), .ref (a 31), .ref (a 32), .ref (a 33), .int (nI nd)])), (a 30, .inl (cI, 300, .inl fo)), (a 31, .inl (cI, 300, .inl fc)), (a 32, .inl (cI, 300, .inl fs)), (a 33, .inl (cI, 300, .inl fu))]) (fun (u : (Nat) × (Nat → Int32)) => match u with | (j, g1) => [(0, .ref (a 34)), (1, .ref (a 29)), (2, .int 0), (3, .int (nI j))]) (fun (u : (Nat) × (Nat → Int32)) => match u with | (j, g1) => j ≤ 8) (fun (u : (Nat) × (Nat → Int32)) => match u with | (j, g1) => 8 - j) (fun u hI H locs ls hP hD hS hl ih_4 => ?_) (0, e1) (show 0 ≤ 8 from by omega) _ _ _ (hP.sub [0, 1, 2, 3, 4, 5, 6, 7] rfl) (hD.sub [0, 1, 2, 3, 4, 5, 6, 7] (by decide) rfl) hS (lv_sub hl [2, 3, 1, 0] rfl)
  obtain ⟨j, g1⟩ := u
  obtain ⟨hP, hD⟩ := zz_ty (D := (dC, dI)) (cl := vwCl) (A := A) (H := H) [(a 34, .inr (2, [.ref (a 35), .ref (a 36), .ref (a 37), .ref (a 38), .ref (a 39), .ref (a 40), .ref (a 41), .ref (a 42), .int (nI ne)])), (a 35, .inl (cI, 8, .inl e0)), (a 36, .inl (cI, 8, .inl g1)), (a 29, .inr (1, [.ref (a 30), .ref (a 31), .ref (a 32), .ref (a 33), .int (nI nd)])), (a 30, .inl (cI, 300, .inl fo)), (a 31, .inl (cI, 300, .inl fc)), (a 32, .inl (cI, 300, .inl fs)), (a 33, .inl (cI, 300, .inl fu))] hP hD rfl
  have hl : lv_has ls 4 [(0, .ref (a 34)), (1, .ref (a 29)), (2, .int 0), (3, .int (nI j))] := hl
  have hI : j ≤ 8 := hI
  have ij := hI
  refine lv_iload_n hx hb dX2_takeNets_4 rfl (lv_at hl 3 rfl) ?_
  refine lv_bipush (v := 8) hx hb dX2_takeNets_5 (by decide) ?_
  refine lv_icmp_ge (tgt := 23) hx hb dX2_takeNets_7 (by decide) (fun c_1 => ?_) (fun c_1 => ?_)
  · have zc_1 := c_1
    rw [Int32.le_iff_toInt_le] at zc_1
    try rw [zz_toInt j (by omega)] at zc_1
    try rw [show (8 : Int32).toInt = 8 from by decide] at zc_1
    refine lv_iconst (v := 0) hx hb dX2_takeNets_23 (by decide) ?_
    refine lv_istore_n (lv' := [(3, .int 0), (0, .ref (a 34)), (1, .ref (a 29)), (2, .int 0)]) hx hb dX2_takeNets_24 rfl hl (by decide) rfl (fun ls hl => ?_)
    refine zz_loopS (fun (u : (Nat) × (Nat → Int32)) => match u with | (i, h1) => [(a 34, .inr (2, [.ref (a 35), .ref (a 36), .ref (a 37), .ref (a 38), .ref (a 39), .ref (a 40), .ref (a 41), .ref (a 42), .int (nI ne)])), (a 35, .inl (cI, 8, .inl e0)), (a 36, .inl (cI, 8, .inl h1)), (a 29, .inr (1, [.ref (a 30), .ref (a 31), .ref (a 32), .ref (a 33), .int (nI nd)])), (a 30, .inl (cI, 300, .inl fo)), (a 31, .inl (cI, 300, .inl fc)), (a 32, .inl (cI, 300, .inl fs)), (a 33, .inl (cI, 300, .inl fu))]) (fun (u : (Nat) × (Nat → Int32)) => match u with | (i, h1) => [(0, .ref (a 34)), (1, .ref (a 29)), (2, .int 0), (3, .int (nI i))]) (fun (u : (Nat) × (Nat → Int32)) => match u with | (i, h1) => i ≤ nd) (fun (u : (Nat) × (Nat → Int32)) => match u with | (i, h1) => nd - i) (fun u hI H locs ls hP hD hS hl ih_25 => ?_) (0, g1) (show 0 ≤ nd from by omega) _ _ _ (hP.sub [0, 1, 2, 3, 4, 5, 6, 7] rfl) (hD.sub [0, 1, 2, 3, 4, 5, 6, 7] (by decide) rfl) hS (lv_sub hl [1, 2, 3, 0] rfl)
    obtain ⟨i, h1⟩ := u
    obtain ⟨hP, hD⟩ := zz_ty (D := (dC, dI)) (cl := vwCl) (A := A) (H := H) [(a 34, .inr (2, [.ref (a 35), .ref (a 36), .ref (a 37), .ref (a 38), .ref (a 39), .ref (a 40), .ref (a 41), .ref (a 42), .int (nI ne)])), (a 35, .inl (cI, 8, .inl e0)), (a 36, .inl (cI, 8, .inl h1)), (a 29, .inr (1, [.ref (a 30), .ref (a 31), .ref (a 32), .ref (a 33), .int (nI nd)])), (a 30, .inl (cI, 300, .inl fo)), (a 31, .inl (cI, 300, .inl fc)), (a 32, .inl (cI, 300, .inl fs)), (a 33, .inl (cI, 300, .inl fu))] hP hD rfl
    have hl : lv_has ls 4 [(0, .ref (a 34)), (1, .ref (a 29)), (2, .int 0), (3, .int (nI i))] := hl
    have hI : i ≤ nd := hI
    have ii := hI
    refine lv_iload_n hx hb dX2_takeNets_25 rfl (lv_at hl 3 rfl) ?_
    refine lv_aload_n hx hb dX2_takeNets_26 rfl (lv_at hl 1 rfl) ?_
    refine va_getN (D := (dC, dI)) (ci := 1) (v := .int (nI nd)) (C := RX1) (T := TX1) (N := 5) hx hb hw zz_inX1 hown hK hP 3 rfl rfl 4 (by decide) (hN.use zz_n36) (fun _ h9 => h9) rfl dX2_takeNets_27 ?_
    refine lv_icmp_ge (tgt := 109) hx hb dX2_takeNets_30 (by decide) (fun c_2 => ?_) (fun c_2 => ?_)
    · have zc_2 := c_2
      rw [Int32.le_iff_toInt_le] at zc_2
      try rw [zz_toInt i (by omega)] at zc_2
      try rw [zz_toInt nd (by omega)] at zc_2
      refine lv_iconst (v := 0) hx hb dX2_takeNets_109 (by decide) ?_
      refine lv_istore_n (lv' := [(3, .int 0), (0, .ref (a 34)), (1, .ref (a 29)), (2, .int 0)]) hx hb dX2_takeNets_110 rfl hl (by decide) rfl (fun ls hl => ?_)
      refine zz_loopS (fun (u : (Nat) × (Int32) × (Nat → Int32)) => match u with | (k, y, h0) => [(a 34, .inr (2, [.ref (a 35), .ref (a 36), .ref (a 37), .ref (a 38), .ref (a 39), .ref (a 40), .ref (a 41), .ref (a 42), .int (nI ne)])), (a 35, .inl (cI, 8, .inl h0)), (a 36, .inl (cI, 8, .inl h1)), (a 29, .inr (1, [.ref (a 30), .ref (a 31), .ref (a 32), .ref (a 33), .int (nI nd)])), (a 30, .inl (cI, 300, .inl fo)), (a 31, .inl (cI, 300, .inl fc)), (a 32, .inl (cI, 300, .inl fs)), (a 33, .inl (cI, 300, .inl fu))]) (fun (u : (Nat) × (Int32) × (Nat → Int32)) => match u with | (k, y, h0) => [(0, .ref (a 34)), (1, .ref (a 29)), (2, .int y), (3, .int (nI k))]) (fun (u : (Nat) × (Int32) × (Nat → Int32)) => match u with | (k, y, h0) => k ≤ 8 ∧ (y = 0 ∨ y = 1)) (fun (u : (Nat) × (Int32) × (Nat → Int32)) => match u with | (k, y, h0) => 8 - k) (fun u hI H locs ls hP hD hS hl ih_111 => ?_) (0, 0, e0) ⟨by omega, Or.inl rfl⟩ _ _ _ (hP.sub [0, 1, 2, 3, 4, 5, 6, 7] rfl) (hD.sub [0, 1, 2, 3, 4, 5, 6, 7] (by decide) rfl) hS (lv_sub hl [1, 2, 3, 0] rfl)
      obtain ⟨k, y, h0⟩ := u
      obtain ⟨hP, hD⟩ := zz_ty (D := (dC, dI)) (cl := vwCl) (A := A) (H := H) [(a 34, .inr (2, [.ref (a 35), .ref (a 36), .ref (a 37), .ref (a 38), .ref (a 39), .ref (a 40), .ref (a 41), .ref (a 42), .int (nI ne)])), (a 35, .inl (cI, 8, .inl h0)), (a 36, .inl (cI, 8, .inl h1)), (a 29, .inr (1, [.ref (a 30), .ref (a 31), .ref (a 32), .ref (a 33), .int (nI nd)])), (a 30, .inl (cI, 300, .inl fo)), (a 31, .inl (cI, 300, .inl fc)), (a 32, .inl (cI, 300, .inl fs)), (a 33, .inl (cI, 300, .inl fu))] hP hD rfl
      have hl : lv_has ls 4 [(0, .ref (a 34)), (1, .ref (a 29)), (2, .int y), (3, .int (nI k))] := hl
      have hI : k ≤ 8 ∧ (y = 0 ∨ y = 1) := hI
      obtain ⟨ik, iy⟩ := hI
      refine lv_iload_n hx hb dX2_takeNets_111 rfl (lv_at hl 3 rfl) ?_
      refine lv_bipush (v := 8) hx hb dX2_takeNets_112 (by decide) ?_
      refine lv_icmp_ge (tgt := 152) hx hb dX2_takeNets_114 (by decide) (fun c_3 => ?_) (fun c_3 => ?_)
      · have zc_3 := c_3
        rw [Int32.le_iff_toInt_le] at zc_3
        try rw [zz_toInt k (by omega)] at zc_3
        try rw [show (8 : Int32).toInt = 8 from by decide] at zc_3
        refine lv_iload_n hx hb dX2_takeNets_152 rfl (lv_at hl 2 rfl) ?_
        obtain ⟨hP9, hD9⟩ := zz_sub2 (ws' := [(a 34, .inr (2, [.ref (a 35), .ref (a 36), .ref (a 37), .ref (a 38), .ref (a 39), .ref (a 40), .ref (a 41), .ref (a 42), .int (nI ne)])), (a 35, .inl (cI, 8, .inl h0)), (a 36, .inl (cI, 8, .inl h1)), (a 29, .inr (1, [.ref (a 30), .ref (a 31), .ref (a 32), .ref (a 33), .int (nI nd)])), (a 30, .inl (cI, 300, .inl fo)), (a 31, .inl (cI, 300, .inl fc)), (a 32, .inl (cI, 300, .inl fs)), (a 33, .inl (cI, 300, .inl fu))]) hP hD [0, 1, 2, 3, 4, 5, 6, 7] (by decide) rfl
        have hK9 := hK.sub (tys' := [(cI, .int)]) [0] rfl
        exact W.zret (v := y) hx hb hr (zz_nz iy) (fun t ht hW => ⟨⟨y, (h0, h1), rfl, iy, by rw [ht]; exact hP9, va_K.moved hW.alike hK9, hD9⟩, hS.F ht⟩) hS.2.2 dX2_takeNets_153
      · have zc_3 := c_3
        rw [Int32.le_iff_toInt_le] at zc_3
        try rw [zz_toInt k (by omega)] at zc_3
        try rw [show (8 : Int32).toInt = 8 from by decide] at zc_3
        refine lv_aload_n hx hb dX2_takeNets_117 rfl (lv_at hl 0 rfl) ?_
        refine va_get (D := (dC, dI)) (ci := 2) (v := .ref (a 35)) (C := RX2) (T := TX2) (N := 9) hx hb hw zz_inX2 hown hK hP 0 rfl rfl 0 (by decide) (hw _ tw_115) (fun _ h9 => h9) rfl dX2_takeNets_118 ?_
        refine lv_iload_n hx hb dX2_takeNets_121 rfl (lv_at hl 3 rfl) ?_
        refine va_iald hx hb hK hP 1 0 rfl rfl (vp_in_iff.mpr (by rw [zz_toInt k (by omega)]; constructor <;> omega)) dX2_takeNets_122 ?_
        refine lv_aload_n hx hb dX2_takeNets_123 rfl (lv_at hl 0 rfl) ?_
        refine va_get (D := (dC, dI)) (ci := 2) (v := .ref (a 36)) (C := RX2) (T := TX2) (N := 9) hx hb hw zz_inX2 hown hK hP 0 rfl rfl 1 (by decide) (hw _ tw_129) (fun _ h9 => h9) rfl dX2_takeNets_124 ?_
        refine lv_iload_n hx hb dX2_takeNets_127 rfl (lv_at hl 3 rfl) ?_
        refine va_iald hx hb hK hP 2 0 rfl rfl (vp_in_iff.mpr (by rw [zz_toInt k (by omega)]; constructor <;> omega)) dX2_takeNets_128 ?_
        refine lv_icmp_eq (tgt := 146) hx hb dX2_takeNets_129 (by decide) (fun c_4 => ?_) (fun c_4 => ?_)
        · have zc_4 := c_4
          rw [← Int32.toInt_inj] at zc_4
          refine lv_iinc (v := (nI (k + 1))) (lv' := [(3, .int (nI (k + 1))), (0, .ref (a 34)), (1, .ref (a 29)), (2, .int y)]) hx hb dX2_takeNets_146 hl (k := 3) rfl (nI_1 _) (by decide) rfl (fun ls hl => ?_)
          refine lv_goto (tgt := 111) hx hb dX2_takeNets_149 (by decide) ?_
          exact ih_111 ((k + 1), y, h0) ⟨by omega, iy⟩ (show 8 - (k + 1) < 8 - k from by omega) _ _ _ (hP.sub [0, 1, 2, 3, 4, 5, 6, 7] rfl) (hD.sub [0, 1, 2, 3, 4, 5, 6, 7] (by decide) rfl) hS (lv_sub hl [1, 2, 3, 0] rfl)
        · have zc_4 := c_4
          rw [← Int32.toInt_inj] at zc_4
          refine lv_aload_n hx hb dX2_takeNets_132 rfl (lv_at hl 0 rfl) ?_
          refine va_get (D := (dC, dI)) (ci := 2) (v := .ref (a 35)) (C := RX2) (T := TX2) (N := 9) hx hb hw zz_inX2 hown hK hP 0 rfl rfl 0 (by decide) (hw _ tw_115) (fun _ h9 => h9) rfl dX2_takeNets_133 ?_
          refine lv_iload_n hx hb dX2_takeNets_136 rfl (lv_at hl 3 rfl) ?_
          refine lv_aload_n hx hb dX2_takeNets_137 rfl (lv_at hl 0 rfl) ?_
          refine va_get (D := (dC, dI)) (ci := 2) (v := .ref (a 36)) (C := RX2) (T := TX2) (N := 9) hx hb hw zz_inX2 hown hK hP 0 rfl rfl 1 (by decide) (hw _ tw_129) (fun _ h9 => h9) rfl dX2_takeNets_138 ?_
          refine lv_iload_n hx hb dX2_takeNets_141 rfl (lv_at hl 3 rfl) ?_
          refine va_iald hx hb hK hP 2 0 rfl rfl (vp_in_iff.mpr (by rw [zz_toInt k (by omega)]; constructor <;> omega)) dX2_takeNets_142 ?_
          refine va_iast hx hb hK hP hD hS 1 0 rfl rfl (vp_in_iff.mpr (by rw [zz_toInt k (by omega)]; constructor <;> omega)) dX2_takeNets_143 (fun H locs hP hD hS => ?_)
          obtain ⟨hP, hD⟩ := zz_ty (D := (dC, dI)) (cl := vwCl) (A := A) (H := H) [(a 34, .inr (2, [.ref (a 35), .ref (a 36), .ref (a 37), .ref (a 38), .ref (a 39), .ref (a 40), .ref (a 41), .ref (a 42), .int (nI ne)])), (a 35, .inl (cI, 8, .inl (upd h0 (Int32.toNatClampNeg (nI k)) (h1 (Int32.toNatClampNeg (nI k)))))), (a 36, .inl (cI, 8, .inl h1)), (a 29, .inr (1, [.ref (a 30), .ref (a 31), .ref (a 32), .ref (a 33), .int (nI nd)])), (a 30, .inl (cI, 300, .inl fo)), (a 31, .inl (cI, 300, .inl fc)), (a 32, .inl (cI, 300, .inl fs)), (a 33, .inl (cI, 300, .inl fu))] hP hD rfl
          refine lv_iconst (v := 1) hx hb dX2_takeNets_144 (by decide) ?_
          refine lv_istore_n (lv' := [(2, .int 1), (0, .ref (a 34)), (1, .ref (a 29)), (3, .int (nI k))]) hx hb dX2_takeNets_145 rfl hl (by decide) rfl (fun ls hl => ?_)
          refine lv_iinc (v := (nI (k + 1))) (lv' := [(3, .int (nI (k + 1))), (2, .int 1), (0, .ref (a 34)), (1, .ref (a 29))]) hx hb dX2_takeNets_146 hl (k := 3) rfl (nI_1 _) (by decide) rfl (fun ls hl => ?_)
          refine lv_goto (tgt := 111) hx hb dX2_takeNets_149 (by decide) ?_
          exact ih_111 ((k + 1), 1, (upd h0 (Int32.toNatClampNeg (nI k)) (h1 (Int32.toNatClampNeg (nI k))))) ⟨by omega, Or.inr rfl⟩ (show 8 - (k + 1) < 8 - k from by omega) _ _ _ (hP.sub [0, 1, 2, 3, 4, 5, 6, 7] rfl) (hD.sub [0, 1, 2, 3, 4, 5, 6, 7] (by decide) rfl) hS (lv_sub hl [2, 3, 1, 0] rfl)
    · have zc_2 := c_2
      rw [Int32.le_iff_toInt_le] at zc_2
      try rw [zz_toInt i (by omega)] at zc_2
      try rw [zz_toInt nd (by omega)] at zc_2
      refine lv_aload_n hx hb dX2_takeNets_33 rfl (lv_at hl 1 rfl) ?_
      refine va_getN (D := (dC, dI)) (ci := 1) (v := .ref (a 30)) (C := RX1) (T := TX1) (N := 5) hx hb hw zz_inX1 hown hK hP 3 rfl rfl 0 (by decide) (hN.use zz_n30) (fun _ h9 => h9) rfl dX2_takeNets_34 ?_
      refine lv_iload_n hx hb dX2_takeNets_37 rfl (lv_at hl 3 rfl) ?_
      refine va_iald hx hb hK hP 4 0 rfl rfl (vp_in_iff.mpr (by rw [zz_toInt i (by omega)]; constructor <;> omega)) dX2_takeNets_38 ?_
      refine lv_iconst (v := 0) hx hb dX2_takeNets_39 (by decide) ?_
      refine lv_bipush (v := 7) hx hb dX2_takeNets_40 (by decide) ?_
      obtain ⟨hPc, hDc⟩ := zz_sub2 (ws' := []) hP hD [] (by decide) rfl
      have hKc := hK.sub (tys' := []) [] rfl
      have hFc := zz_free0 hS hA
      refine va_calli (va_runSN (As := [.int (fo (Int32.toNatClampNeg (nI i))), .int 0, .int 7]) (rest := []) ⟨hx, hb, hml, hown, hw⟩ (k_within l dC dI (fo (Int32.toNatClampNeg (nI i))) 0 7 H.size) ⟨va_cnB 3 hw (zz_good tw_1) rfl rfl rfl (hN.1 _ zz_n61) (hw _ tw_2) (by decide +kernel) ⟨Nat.le_of_ble_eq_true rfl, Nat.le_of_ble_eq_true rfl⟩, (hw _ tw_4), trivial⟩ ⟨zz_blind, zz_pre hPc hKc hDc hN⟩ rfl rfl hl.1 rfl (lv_room (Nat.le_of_ble_eq_true rfl)) dX2_takeNets_42 ⟨Nat.le_of_ble_eq_true rfl, Nat.le_of_ble_eq_true rfl⟩) hS (fun q _ h => hFc q h) hFc (fun r_5 u_5 t H1 locs ht hvm e_5 hB hz1 hk1 hS => ?_)
      try dsimp only at e_5
      have hP := zz_keep hP hk1
      clear hk1 hB ht hvm
      generalize H1 = H at hP hS ⊢
      refine lv_if_eq (tgt := 103) hx hb dX2_takeNets_45 (by decide) (fun c_6 => ?_) (fun c_6 => ?_)
      · have zc_6 := c_6
        rw [e_5, zz_in0, Int32.le_iff_toInt_le, Int32.le_iff_toInt_le] at zc_6
        try rw [show (0 : Int32).toInt = 0 from by decide] at zc_6
        try rw [show (7 : Int32).toInt = 7 from by decide] at zc_6
        refine lv_iinc (v := (nI (i + 1))) (lv' := [(3, .int (nI (i + 1))), (0, .ref (a 34)), (1, .ref (a 29)), (2, .int 0)]) hx hb dX2_takeNets_103 hl (k := 3) rfl (nI_1 _) (by decide) rfl (fun ls hl => ?_)
        refine lv_goto (tgt := 25) hx hb dX2_takeNets_106 (by decide) ?_
        exact ih_25 ((i + 1), h1) (show (i + 1) ≤ nd from by omega) (show nd - (i + 1) < nd - i from by omega) _ _ _ (hP.sub [0, 1, 2, 3, 4, 5, 6, 7] rfl) (hD.sub [0, 1, 2, 3, 4, 5, 6, 7] (by decide) rfl) hS (lv_sub hl [1, 2, 3, 0] rfl)
      · have zc_6 := c_6
        rw [e_5, zz_in0, Int32.le_iff_toInt_le, Int32.le_iff_toInt_le] at zc_6
        try rw [show (0 : Int32).toInt = 0 from by decide] at zc_6
        try rw [show (7 : Int32).toInt = 7 from by decide] at zc_6
        refine lv_aload_n hx hb dX2_takeNets_48 rfl (lv_at hl 1 rfl) ?_
        refine va_getN (D := (dC, dI)) (ci := 1) (v := .ref (a 31)) (C := RX1) (T := TX1) (N := 5) hx hb hw zz_inX1 hown hK hP 3 rfl rfl 1 (by decide) (hN.use zz_n32) (fun _ h9 => h9) rfl dX2_takeNets_49 ?_
        refine lv_iload_n hx hb dX2_takeNets_52 rfl (lv_at hl 3 rfl) ?_
        refine va_iald hx hb hK hP 5 0 rfl rfl (vp_in_iff.mpr (by rw [zz_toInt i (by omega)]; constructor <;> omega)) dX2_takeNets_53 ?_
        refine lv_iconst (v := 0) hx hb dX2_takeNets_54 (by decide) ?_
        refine lv_bipush (v := 7) hx hb dX2_takeNets_55 (by decide) ?_
        obtain ⟨hPc, hDc⟩ := zz_sub2 (ws' := []) hP hD [] (by decide) rfl
        have hKc := hK.sub (tys' := []) [] rfl
        have hFc := zz_free0 hS hA
        refine va_calli (va_runSN (As := [.int (fc (Int32.toNatClampNeg (nI i))), .int 0, .int 7]) (rest := []) ⟨hx, hb, hml, hown, hw⟩ (k_within l dC dI (fc (Int32.toNatClampNeg (nI i))) 0 7 H.size) ⟨va_cnB 3 hw (zz_good tw_1) rfl rfl rfl (hN.1 _ zz_n61) (hw _ tw_2) (by decide +kernel) ⟨Nat.le_of_ble_eq_true rfl, Nat.le_of_ble_eq_true rfl⟩, (hw _ tw_4), trivial⟩ ⟨zz_blind, zz_pre hPc hKc hDc hN⟩ rfl rfl hl.1 rfl (lv_room (Nat.le_of_ble_eq_true rfl)) dX2_takeNets_57 ⟨Nat.le_of_ble_eq_true rfl, Nat.le_of_ble_eq_true rfl⟩) hS (fun q _ h => hFc q h) hFc (fun r_7 u_7 t H1 locs ht hvm e_7 hB hz1 hk1 hS => ?_)
        try dsimp only at e_7
        have hP := zz_keep hP hk1
        clear hk1 hB ht hvm
        generalize H1 = H at hP hS ⊢
        refine lv_if_eq (tgt := 103) hx hb dX2_takeNets_60 (by decide) (fun c_8 => ?_) (fun c_8 => ?_)
        · have zc_8 := c_8
          rw [e_7, zz_in0, Int32.le_iff_toInt_le, Int32.le_iff_toInt_le] at zc_8
          try rw [show (0 : Int32).toInt = 0 from by decide] at zc_8
          try rw [show (7 : Int32).toInt = 7 from by decide] at zc_8
          refine lv_iinc (v := (nI (i + 1))) (lv' := [(3, .int (nI (i + 1))), (0, .ref (a 34)), (1, .ref (a 29)), (2, .int 0)]) hx hb dX2_takeNets_103 hl (k := 3) rfl (nI_1 _) (by decide) rfl (fun ls hl => ?_)
          refine lv_goto (tgt := 25) hx hb dX2_takeNets_106 (by decide) ?_
          exact ih_25 ((i + 1), h1) (show (i + 1) ≤ nd from by omega) (show nd - (i + 1) < nd - i from by omega) _ _ _ (hP.sub [0, 1, 2, 3, 4, 5, 6, 7] rfl) (hD.sub [0, 1, 2, 3, 4, 5, 6, 7] (by decide) rfl) hS (lv_sub hl [1, 2, 3, 0] rfl)
        · have zc_8 := c_8
          rw [e_7, zz_in0, Int32.le_iff_toInt_le, Int32.le_iff_toInt_le] at zc_8
          try rw [show (0 : Int32).toInt = 0 from by decide] at zc_8
          try rw [show (7 : Int32).toInt = 7 from by decide] at zc_8
          refine lv_aload_n hx hb dX2_takeNets_63 rfl (lv_at hl 0 rfl) ?_
          refine va_get (D := (dC, dI)) (ci := 2) (v := .ref (a 36)) (C := RX2) (T := TX2) (N := 9) hx hb hw zz_inX2 hown hK hP 0 rfl rfl 1 (by decide) (hw _ tw_129) (fun _ h9 => h9) rfl dX2_takeNets_64 ?_
          refine lv_aload_n hx hb dX2_takeNets_67 rfl (lv_at hl 1 rfl) ?_
          refine va_getN (D := (dC, dI)) (ci := 1) (v := .ref (a 30)) (C := RX1) (T := TX1) (N := 5) hx hb hw zz_inX1 hown hK hP 3 rfl rfl 0 (by decide) (hN.use zz_n30) (fun _ h9 => h9) rfl dX2_takeNets_68 ?_
          refine lv_iload_n hx hb dX2_takeNets_71 rfl (lv_at hl 3 rfl) ?_
          refine va_iald hx hb hK hP 4 0 rfl rfl (vp_in_iff.mpr (by rw [zz_toInt i (by omega)]; constructor <;> omega)) dX2_takeNets_72 ?_
          refine lv_dup2_11 hx hb dX2_takeNets_73 rfl rfl ?_
          refine va_iald hx hb hK hP 2 0 rfl rfl (vp_in_iff.mpr (by constructor <;> omega)) dX2_takeNets_74 ?_
          refine lv_aload_n hx hb dX2_takeNets_75 rfl (lv_at hl 1 rfl) ?_
          refine va_getN (D := (dC, dI)) (ci := 1) (v := .ref (a 33)) (C := RX1) (T := TX1) (N := 5) hx hb hw zz_inX1 hown hK hP 3 rfl rfl 3 (by decide) (hN.use zz_n34) (fun _ h9 => h9) rfl dX2_takeNets_76 ?_
          refine lv_iload_n hx hb dX2_takeNets_79 rfl (lv_at hl 3 rfl) ?_
          refine va_iald hx hb hK hP 7 0 rfl rfl (vp_in_iff.mpr (by rw [zz_toInt i (by omega)]; constructor <;> omega)) dX2_takeNets_80 ?_
          refine lv_isub hx hb dX2_takeNets_81 ?_
          refine va_iast hx hb hK hP hD hS 2 0 rfl rfl (vp_in_iff.mpr (by constructor <;> omega)) dX2_takeNets_82 (fun H locs hP hD hS => ?_)
          obtain ⟨hP, hD⟩ := zz_ty (D := (dC, dI)) (cl := vwCl) (A := A) (H := H) [(a 34, .inr (2, [.ref (a 35), .ref (a 36), .ref (a 37), .ref (a 38), .ref (a 39), .ref (a 40), .ref (a 41), .ref (a 42), .int (nI ne)])), (a 35, .inl (cI, 8, .inl e0)), (a 36, .inl (cI, 8, .inl (upd h1 (Int32.toNatClampNeg (fo (Int32.toNatClampNeg (nI i)))) ((h1 (Int32.toNatClampNeg (fo (Int32.toNatClampNeg (nI i))))) - (fu (Int32.toNatClampNeg (nI i))))))), (a 29, .inr (1, [.ref (a 30), .ref (a 31), .ref (a 32), .ref (a 33), .int (nI nd)])), (a 30, .inl (cI, 300, .inl fo)), (a 31, .inl (cI, 300, .inl fc)), (a 32, .inl (cI, 300, .inl fs)), (a 33, .inl (cI, 300, .inl fu))] hP hD rfl
          refine lv_aload_n hx hb dX2_takeNets_83 rfl (lv_at hl 0 rfl) ?_
          refine va_get (D := (dC, dI)) (ci := 2) (v := .ref (a 36)) (C := RX2) (T := TX2) (N := 9) hx hb hw zz_inX2 hown hK hP 0 rfl rfl 1 (by decide) (hw _ tw_129) (fun _ h9 => h9) rfl dX2_takeNets_84 ?_
          refine lv_aload_n hx hb dX2_takeNets_87 rfl (lv_at hl 1 rfl) ?_
          refine va_getN (D := (dC, dI)) (ci := 1) (v := .ref (a 31)) (C := RX1) (T := TX1) (N := 5) hx hb hw zz_inX1 hown hK hP 3 rfl rfl 1 (by decide) (hN.use zz_n32) (fun _ h9 => h9) rfl dX2_takeNets_88 ?_
          refine lv_iload_n hx hb dX2_takeNets_91 rfl (lv_at hl 3 rfl) ?_
          refine va_iald hx hb hK hP 5 0 rfl rfl (vp_in_iff.mpr (by rw [zz_toInt i (by omega)]; constructor <;> omega)) dX2_takeNets_92 ?_
          refine lv_dup2_11 hx hb dX2_takeNets_93 rfl rfl ?_
          refine va_iald hx hb hK hP 2 0 rfl rfl (vp_in_iff.mpr (by constructor <;> omega)) dX2_takeNets_94 ?_
          refine lv_aload_n hx hb dX2_takeNets_95 rfl (lv_at hl 1 rfl) ?_
          refine va_getN (D := (dC, dI)) (ci := 1) (v := .ref (a 33)) (C := RX1) (T := TX1) (N := 5) hx hb hw zz_inX1 hown hK hP 3 rfl rfl 3 (by decide) (hN.use zz_n34) (fun _ h9 => h9) rfl dX2_takeNets_96 ?_
          refine lv_iload_n hx hb dX2_takeNets_99 rfl (lv_at hl 3 rfl) ?_
          refine va_iald hx hb hK hP 7 0 rfl rfl (vp_in_iff.mpr (by rw [zz_toInt i (by omega)]; constructor <;> omega)) dX2_takeNets_100 ?_
          refine lv_iadd hx hb dX2_takeNets_101 ?_
          refine va_iast hx hb hK hP hD hS 2 0 rfl rfl (vp_in_iff.mpr (by constructor <;> omega)) dX2_takeNets_102 (fun H locs hP hD hS => ?_)
          obtain ⟨hP, hD⟩ := zz_ty (D := (dC, dI)) (cl := vwCl) (A := A) (H := H) [(a 34, .inr (2, [.ref (a 35), .ref (a 36), .ref (a 37), .ref (a 38), .ref (a 39), .ref (a 40), .ref (a 41), .ref (a 42), .int (nI ne)])), (a 35, .inl (cI, 8, .inl e0)), (a 36, .inl (cI, 8, .inl (upd (upd h1 (Int32.toNatClampNeg (fo (Int32.toNatClampNeg (nI i)))) ((h1 (Int32.toNatClampNeg (fo (Int32.toNatClampNeg (nI i))))) - (fu (Int32.toNatClampNeg (nI i))))) (Int32.toNatClampNeg (fc (Int32.toNatClampNeg (nI i)))) (((upd h1 (Int32.toNatClampNeg (fo (Int32.toNatClampNeg (nI i)))) ((h1 (Int32.toNatClampNeg (fo (Int32.toNatClampNeg (nI i))))) - (fu (Int32.toNatClampNeg (nI i))))) (Int32.toNatClampNeg (fc (Int32.toNatClampNeg (nI i))))) + (fu (Int32.toNatClampNeg (nI i))))))), (a 29, .inr (1, [.ref (a 30), .ref (a 31), .ref (a 32), .ref (a 33), .int (nI nd)])), (a 30, .inl (cI, 300, .inl fo)), (a 31, .inl (cI, 300, .inl fc)), (a 32, .inl (cI, 300, .inl fs)), (a 33, .inl (cI, 300, .inl fu))] hP hD rfl
          refine lv_iinc (v := (nI (i + 1))) (lv' := [(3, .int (nI (i + 1))), (0, .ref (a 34)), (1, .ref (a 29)), (2, .int 0)]) hx hb dX2_takeNets_103 hl (k := 3) rfl (nI_1 _) (by decide) rfl (fun ls hl => ?_)
          refine lv_goto (tgt := 25) hx hb dX2_takeNets_106 (by decide) ?_
          exact ih_25 ((i + 1), (upd (upd h1 (Int32.toNatClampNeg (fo (Int32.toNatClampNeg (nI i)))) ((h1 (Int32.toNatClampNeg (fo (Int32.toNatClampNeg (nI i))))) - (fu (Int32.toNatClampNeg (nI i))))) (Int32.toNatClampNeg (fc (Int32.toNatClampNeg (nI i)))) (((upd h1 (Int32.toNatClampNeg (fo (Int32.toNatClampNeg (nI i)))) ((h1 (Int32.toNatClampNeg (fo (Int32.toNatClampNeg (nI i))))) - (fu (Int32.toNatClampNeg (nI i))))) (Int32.toNatClampNeg (fc (Int32.toNatClampNeg (nI i))))) + (fu (Int32.toNatClampNeg (nI i)))))) (show (i + 1) ≤ nd from by omega) (show nd - (i + 1) < nd - i from by omega) _ _ _ (hP.sub [0, 1, 2, 3, 4, 5, 6, 7] rfl) (hD.sub [0, 1, 2, 3, 4, 5, 6, 7] (by decide) rfl) hS (lv_sub hl [1, 2, 3, 0] rfl)
  · have zc_1 := c_1
    rw [Int32.le_iff_toInt_le] at zc_1
    try rw [zz_toInt j (by omega)] at zc_1
    try rw [show (8 : Int32).toInt = 8 from by decide] at zc_1
    refine lv_aload_n hx hb dX2_takeNets_10 rfl (lv_at hl 0 rfl) ?_
    refine va_get (D := (dC, dI)) (ci := 2) (v := .ref (a 36)) (C := RX2) (T := TX2) (N := 9) hx hb hw zz_inX2 hown hK hP 0 rfl rfl 1 (by decide) (hw _ tw_129) (fun _ h9 => h9) rfl dX2_takeNets_11 ?_
    refine lv_iload_n hx hb dX2_takeNets_14 rfl (lv_at hl 3 rfl) ?_
    refine lv_iconst (v := 0) hx hb dX2_takeNets_15 (by decide) ?_
    refine va_iast hx hb hK hP hD hS 2 0 rfl rfl (vp_in_iff.mpr (by rw [zz_toInt j (by omega)]; constructor <;> omega)) dX2_takeNets_16 (fun H locs hP hD hS => ?_)
    obtain ⟨hP, hD⟩ := zz_ty (D := (dC, dI)) (cl := vwCl) (A := A) (H := H) [(a 34, .inr (2, [.ref (a 35), .ref (a 36), .ref (a 37), .ref (a 38), .ref (a 39), .ref (a 40), .ref (a 41), .ref (a 42), .int (nI ne)])), (a 35, .inl (cI, 8, .inl e0)), (a 36, .inl (cI, 8, .inl (upd g1 (Int32.toNatClampNeg (nI j)) 0))), (a 29, .inr (1, [.ref (a 30), .ref (a 31), .ref (a 32), .ref (a 33), .int (nI nd)])), (a 30, .inl (cI, 300, .inl fo)), (a 31, .inl (cI, 300, .inl fc)), (a 32, .inl (cI, 300, .inl fs)), (a 33, .inl (cI, 300, .inl fu))] hP hD rfl
    refine lv_iinc (v := (nI (j + 1))) (lv' := [(3, .int (nI (j + 1))), (0, .ref (a 34)), (1, .ref (a 29)), (2, .int 0)]) hx hb dX2_takeNets_17 hl (k := 3) rfl (nI_1 _) (by decide) rfl (fun ls hl => ?_)
    refine lv_goto (tgt := 4) hx hb dX2_takeNets_20 (by decide) ?_
    exact ih_4 ((j + 1), (upd g1 (Int32.toNatClampNeg (nI j)) 0)) (show (j + 1) ≤ 8 from by omega) (show 8 - (j + 1) < 8 - j from by omega) _ _ _ (hP.sub [0, 1, 2, 3, 4, 5, 6, 7] rfl) (hD.sub [0, 1, 2, 3, 4, 5, 6, 7] (by decide) rfl) hS (lv_sub hl [1, 2, 3, 0] rfl)
set_option maxHeartbeats 4000000 in
set_option maxRecDepth 100000 in
theorem k_tellFor (l : Launch) (dC : Nat → ClassId) (dI : Nat → Nat → Nat) (a : Nat → Nat) (cI : ClassId) (ne : Nat) (e0 : Nat → Int32) (e1 : Nat → Int32) (e2 : Nat → Int32) (e3 : Nat → Int32) (e4 : Nat → Int32) (e5 : Nat → Int32) (e6 : Nat → Int32) (e7 : Nat → Int32) (nd : Nat) (fo : Nat → Int32) (fc : Nat → Int32) (fs : Nat → Int32) (fu : Nat → Int32) (sz : Nat) (hnd : nd ≤ 300) (hne : ne ≤ 8) : Met l yX2_tellFor (zz_w yX2_tellFor cX2_tellFor 2 none) ({ frames := 3, cells := 0, slots := 0, locals := 71 }) (va_Pc [.ref (a 34), .ref (a 29)] (zz_B (dC, dI) sz [(a 34, .inr (2, [.ref (a 35), .ref (a 36), .ref (a 37), .ref (a 38), .ref (a 39), .ref (a 40), .ref (a 41), .ref (a 42), .int (nI ne)])), (a 35, .inl (cI, 8, .inl e0)), (a 36, .inl (cI, 8, .inl e1)), (a 37, .inl (cI, 8, .inl e2)), (a 38, .inl (cI, 256, .inl e3)), (a 39, .inl (cI, 256, .inl e4)), (a 40, .inl (cI, 8, .inl e5)), (a 41, .inl (cI, 8, .inl e6)), (a 42, .inl (cI, 8, .inl e7)), (a 29, .inr (1, [.ref (a 30), .ref (a 31), .ref (a 32), .ref (a 33), .int (nI nd)])), (a 30, .inl (cI, 300, .inl fo)), (a 31, .inl (cI, 300, .inl fc)), (a 32, .inl (cI, 300, .inl fs)), (a 33, .inl (cI, 300, .inl fu))] [(cI, .int)])) (va_Qv (fun (u : Nat × (Nat → Int32) × (Nat → Int32) × (Nat → Int32) × (Nat → Int32) × (Nat → Int32) × (Nat → Int32) × (Nat → Int32) × (Nat → Int32)) => match u with | (n2, _, _, _, _, _, _, _, _) => n2 ≤ 8) (fun (u : Nat × (Nat → Int32) × (Nat → Int32) × (Nat → Int32) × (Nat → Int32) × (Nat → Int32) × (Nat → Int32) × (Nat → Int32) × (Nat → Int32)) (t : State) => match u with | (u0, u1, u2, u3, u4, u5, u6, u7, u8) => va_P (dC, dI) vwCl [(a 34, .inr (2, [.ref (a 35), .ref (a 36), .ref (a 37), .ref (a 38), .ref (a 39), .ref (a 40), .ref (a 41), .ref (a 42), .int (nI u0)])), (a 35, .inl (cI, 8, .inl u1)), (a 36, .inl (cI, 8, .inl u2)), (a 37, .inl (cI, 8, .inl u3)), (a 38, .inl (cI, 256, .inl u4)), (a 39, .inl (cI, 256, .inl u5)), (a 40, .inl (cI, 8, .inl u6)), (a 41, .inl (cI, 8, .inl u7)), (a 42, .inl (cI, 8, .inl u8)), (a 29, .inr (1, [.ref (a 30), .ref (a 31), .ref (a 32), .ref (a 33), .int (nI nd)])), (a 30, .inl (cI, 300, .inl fo)), (a 31, .inl (cI, 300, .inl fc)), (a 32, .inl (cI, 300, .inl fs)), (a 33, .inl (cI, 300, .inl fu))] t.heap ∧ va_K (dC, dI) vwCl [(cI, .int)] t ∧ va_D (va_A [(a 34, .inr (2, [.ref (a 35), .ref (a 36), .ref (a 37), .ref (a 38), .ref (a 39), .ref (a 40), .ref (a 41), .ref (a 42), .int (nI ne)])), (a 35, .inl (cI, 8, .inl e0)), (a 36, .inl (cI, 8, .inl e1)), (a 37, .inl (cI, 8, .inl e2)), (a 38, .inl (cI, 256, .inl e3)), (a 39, .inl (cI, 256, .inl e4)), (a 40, .inl (cI, 8, .inl e5)), (a 41, .inl (cI, 8, .inl e6)), (a 42, .inl (cI, 8, .inl e7)), (a 29, .inr (1, [.ref (a 30), .ref (a 31), .ref (a 32), .ref (a 33), .int (nI nd)])), (a 30, .inl (cI, 300, .inl fo)), (a 31, .inl (cI, 300, .inl fc)), (a 32, .inl (cI, 300, .inl fs)), (a 33, .inl (cI, 300, .inl fu))] sz) [(a 34, .inr (2, [.ref (a 35), .ref (a 36), .ref (a 37), .ref (a 38), .ref (a 39), .ref (a 40), .ref (a 41), .ref (a 42), .int (nI u0)])), (a 35, .inl (cI, 8, .inl u1)), (a 36, .inl (cI, 8, .inl u2)), (a 37, .inl (cI, 8, .inl u3)), (a 38, .inl (cI, 256, .inl u4)), (a 39, .inl (cI, 256, .inl u5)), (a 40, .inl (cI, 8, .inl u6)), (a 41, .inl (cI, 8, .inl u7)), (a 42, .inl (cI, 8, .inl u8)), (a 29, .inr (1, [.ref (a 30), .ref (a 31), .ref (a 32), .ref (a 33), .int (nI nd)])), (a 30, .inl (cI, 300, .inl fo)), (a 31, .inl (cI, 300, .inl fc)), (a 32, .inl (cI, 300, .inl fs)), (a 33, .inl (cI, 300, .inl fu))]) (va_A [(a 34, .inr (2, [.ref (a 35), .ref (a 36), .ref (a 37), .ref (a 38), .ref (a 39), .ref (a 40), .ref (a 41), .ref (a 42), .int (nI ne)])), (a 35, .inl (cI, 8, .inl e0)), (a 36, .inl (cI, 8, .inl e1)), (a 37, .inl (cI, 8, .inl e2)), (a 38, .inl (cI, 256, .inl e3)), (a 39, .inl (cI, 256, .inl e4)), (a 40, .inl (cI, 8, .inl e5)), (a 41, .inl (cI, 8, .inl e6)), (a 42, .inl (cI, 8, .inl e7)), (a 29, .inr (1, [.ref (a 30), .ref (a 31), .ref (a 32), .ref (a 33), .int (nI nd)])), (a 30, .inl (cI, 300, .inl fo)), (a 31, .inl (cI, 300, .inl fc)), (a 32, .inl (cI, 300, .inl fs)), (a 33, .inl (cI, 300, .inl fu))] sz)) 0 0 (va_A [(a 34, .inr (2, [.ref (a 35), .ref (a 36), .ref (a 37), .ref (a 38), .ref (a 39), .ref (a 40), .ref (a 41), .ref (a 42), .int (nI ne)])), (a 35, .inl (cI, 8, .inl e0)), (a 36, .inl (cI, 8, .inl e1)), (a 37, .inl (cI, 8, .inl e2)), (a 38, .inl (cI, 256, .inl e3)), (a 39, .inl (cI, 256, .inl e4)), (a 40, .inl (cI, 8, .inl e5)), (a 41, .inl (cI, 8, .inl e6)), (a 42, .inl (cI, 8, .inl e7)), (a 29, .inr (1, [.ref (a 30), .ref (a 31), .ref (a 32), .ref (a 33), .int (nI nd)])), (a 30, .inl (cI, 300, .inl fo)), (a 31, .inl (cI, 300, .inl fc)), (a 32, .inl (cI, 300, .inl fs)), (a 33, .inl (cI, 300, .inl fu))] sz) := by
  refine Met.ofW (cc := cX2_tellFor) (maxL := 2) (ret := none) (by decide) rfl ?_
  intro p e s m args below meth c s₁ B hml hv
  obtain ⟨rfl, hsz, hP, hK, hD0, hN⟩ := hv
  have hx := B.exec
  have hb := B.bytes
  have hr := B.returns
  have hts := atoms_spec (ws := zz_w yX2_tellFor cX2_tellFor 2 none) B.pre
  have hw : ∀ w ∈ zz_all, w.before _ s = true := fun w h => hts w (List.mem_cons_of_mem _ h)
  have hown : s.vm.findClass RX2 = some m.cls := findClass_of_methodNamed B.named
  have hlocks := B.notSynchronized
  subst hsz
  have hD := hD0.self (sz := s.heap.size)
  generalize hAe : va_A [(a 34, .inr (2, [.ref (a 35), .ref (a 36), .ref (a 37), .ref (a 38), .ref (a 39), .ref (a 40), .ref (a 41), .ref (a 42), .int (nI ne)])), (a 35, .inl (cI, 8, .inl e0)), (a 36, .inl (cI, 8, .inl e1)), (a 37, .inl (cI, 8, .inl e2)), (a 38, .inl (cI, 256, .inl e3)), (a 39, .inl (cI, 256, .inl e4)), (a 40, .inl (cI, 8, .inl e5)), (a 41, .inl (cI, 8, .inl e6)), (a 42, .inl (cI, 8, .inl e7)), (a 29, .inr (1, [.ref (a 30), .ref (a 31), .ref (a 32), .ref (a 33), .int (nI nd)])), (a 30, .inl (cI, 300, .inl fo)), (a 31, .inl (cI, 300, .inl fc)), (a 32, .inl (cI, 300, .inl fs)), (a 33, .inl (cI, 300, .inl fu))] s.heap.size = A at hD ⊢
  have hA : ∀ q : Nat, s.heap.size ≤ q → A q := fun q h => by rw [← hAe]; exact Or.inr h
  have hS : va_S A s.heap s.heap [] := va_S.rf
  have hP : va_P (dC, dI) vwCl [(a 34, .inr (2, [.ref (a 35), .ref (a 36), .ref (a 37), .ref (a 38), .ref (a 39), .ref (a 40), .ref (a 41), .ref (a 42), .int (nI ne)])), (a 35, .inl (cI, 8, .inl e0)), (a 36, .inl (cI, 8, .inl e1)), (a 37, .inl (cI, 8, .inl e2)), (a 38, .inl (cI, 256, .inl e3)), (a 39, .inl (cI, 256, .inl e4)), (a 40, .inl (cI, 8, .inl e5)), (a 41, .inl (cI, 8, .inl e6)), (a 42, .inl (cI, 8, .inl e7)), (a 29, .inr (1, [.ref (a 30), .ref (a 31), .ref (a 32), .ref (a 33), .int (nI nd)])), (a 30, .inl (cI, 300, .inl fo)), (a 31, .inl (cI, 300, .inl fc)), (a 32, .inl (cI, 300, .inl fs)), (a 33, .inl (cI, 300, .inl fu))] s.heap := hP
  have hl := lv_entry ([.ref (a 34), .ref (a 29)]) (n := 2) (Nat.le_of_ble_eq_true rfl)
  rw [lg_entry_eq]
  generalize (lg_sl ([.ref (a 34), .ref (a 29)]) ++ List.replicate (2 - (lg_sl ([.ref (a 34), .ref (a 29)])).length) Slot.unset).toArray = ls at hl ⊢
  have hl : lv_has ls 2 [(0, .ref (a 34)), (1, .ref (a 29))] := hl
  refine lv_aload_n hx hb dX2_tellFor_0 rfl (lv_at hl 0 rfl) ?_
  refine lv_aload_n hx hb dX2_tellFor_1 rfl (lv_at hl 1 rfl) ?_
  obtain ⟨hPc, hDc⟩ := zz_sub2 (ws' := [(a 34, .inr (2, [.ref (a 35), .ref (a 36), .ref (a 37), .ref (a 38), .ref (a 39), .ref (a 40), .ref (a 41), .ref (a 42), .int (nI ne)])), (a 35, .inl (cI, 8, .inl e0)), (a 36, .inl (cI, 8, .inl e1)), (a 29, .inr (1, [.ref (a 30), .ref (a 31), .ref (a 32), .ref (a 33), .int (nI nd)])), (a 30, .inl (cI, 300, .inl fo)), (a 31, .inl (cI, 300, .inl fc)), (a 32, .inl (cI, 300, .inl fs)), (a 33, .inl (cI, 300, .inl fu))]) hP hD [0, 1, 2, 9, 10, 11, 12, 13] (by decide) rfl
  have hKc := hK.sub (tys' := [(cI, .int)]) [0] rfl
  have hFc := zz_free1 hDc hS hA
  refine va_calli (va_runV (As := [.ref (a 29)]) (rest := []) ⟨hx, hb, hml, hown, hw⟩ (k_takeNets l dC dI a cI ne e0 e1 nd fo fc fs fu s.heap.size (by omega)) ⟨callB_of 1 hw (zz_good tw_130) rfl rfl rfl (hw _ tw_107) (hw _ tw_131) (by decide +kernel) ⟨Nat.le_of_ble_eq_true rfl, Nat.le_of_ble_eq_true rfl⟩, (hw _ tw_132), (hw _ tw_133)⟩ ⟨zz_blind, va_recv hKc hPc (ci := 2) (q0 := 0) rfl rfl, zz_pre hPc hKc hDc hN⟩ rfl rfl hl.1 rfl (lv_room (Nat.le_of_ble_eq_true rfl)) dX2_tellFor_2 ⟨Nat.le_of_ble_eq_true rfl, Nat.le_of_ble_eq_true rfl⟩) hS (fun q _ h => hFc q h) hFc (fun r_1 u_1 t H1 locs ht hvm e_1 hB hz1 hk1 hS => ?_)
  try dsimp only at e_1
  obtain ⟨v_1_0, v_1_1⟩ := u_1
  obtain ⟨hP1, hK1, hD1⟩ := hB
  rw [ht] at hP1
  have hK1 := va_K.moved hvm.symm hK1
  try dsimp only at e_1
  obtain ⟨hP, hD⟩ := va_join (wr := [(a 37, .inl (cI, 8, .inl e2)), (a 38, .inl (cI, 256, .inl e3)), (a 39, .inl (cI, 256, .inl e4)), (a 40, .inl (cI, 8, .inl e5)), (a 41, .inl (cI, 8, .inl e6)), (a 42, .inl (cI, 8, .inl e7))]) (w1 := [(a 34, .inr (2, [.ref (a 35), .ref (a 36), .ref (a 37), .ref (a 38), .ref (a 39), .ref (a 40), .ref (a 41), .ref (a 42), .int (nI ne)])), (a 35, .inl (cI, 8, .inl v_1_0)), (a 36, .inl (cI, 8, .inl v_1_1)), (a 29, .inr (1, [.ref (a 30), .ref (a 31), .ref (a 32), .ref (a 33), .int (nI nd)])), (a 30, .inl (cI, 300, .inl fo)), (a 31, .inl (cI, 300, .inl fc)), (a 32, .inl (cI, 300, .inl fs)), (a 33, .inl (cI, 300, .inl fu))]) hP hD [0, 1, 2, 9, 10, 11, 12, 13] [3, 4, 5, 6, 7, 8] rfl rfl (by decide) (by decide) hk1 hFc hP1 hD1
  clear hk1 ht hvm
  generalize H1 = H at hP hS ⊢
  obtain ⟨hP, hD⟩ := zz_ty (D := (dC, dI)) (cl := vwCl) (A := A) (H := H) [(a 37, .inl (cI, 8, .inl e2)), (a 38, .inl (cI, 256, .inl e3)), (a 39, .inl (cI, 256, .inl e4)), (a 40, .inl (cI, 8, .inl e5)), (a 41, .inl (cI, 8, .inl e6)), (a 42, .inl (cI, 8, .inl e7)), (a 34, .inr (2, [.ref (a 35), .ref (a 36), .ref (a 37), .ref (a 38), .ref (a 39), .ref (a 40), .ref (a 41), .ref (a 42), .int (nI ne)])), (a 35, .inl (cI, 8, .inl v_1_0)), (a 36, .inl (cI, 8, .inl v_1_1)), (a 29, .inr (1, [.ref (a 30), .ref (a 31), .ref (a 32), .ref (a 33), .int (nI nd)])), (a 30, .inl (cI, 300, .inl fo)), (a 31, .inl (cI, 300, .inl fc)), (a 32, .inl (cI, 300, .inl fs)), (a 33, .inl (cI, 300, .inl fu))] hP hD rfl
  refine lv_if_eq (tgt := 12) hx hb dX2_tellFor_5 (by decide) (fun c_2 => ?_) (fun c_2 => ?_)
  · have zc_2 := c_2
    rw [← Int32.toInt_inj] at zc_2
    try rw [show (0 : Int32).toInt = 0 from by decide] at zc_2
    obtain ⟨hP9, hD9⟩ := zz_sub2 (ws' := [(a 34, .inr (2, [.ref (a 35), .ref (a 36), .ref (a 37), .ref (a 38), .ref (a 39), .ref (a 40), .ref (a 41), .ref (a 42), .int (nI ne)])), (a 35, .inl (cI, 8, .inl v_1_0)), (a 36, .inl (cI, 8, .inl v_1_1)), (a 37, .inl (cI, 8, .inl e2)), (a 38, .inl (cI, 256, .inl e3)), (a 39, .inl (cI, 256, .inl e4)), (a 40, .inl (cI, 8, .inl e5)), (a 41, .inl (cI, 8, .inl e6)), (a 42, .inl (cI, 8, .inl e7)), (a 29, .inr (1, [.ref (a 30), .ref (a 31), .ref (a 32), .ref (a 33), .int (nI nd)])), (a 30, .inl (cI, 300, .inl fo)), (a 31, .inl (cI, 300, .inl fc)), (a 32, .inl (cI, 300, .inl fs)), (a 33, .inl (cI, 300, .inl fu))]) hP hD [6, 7, 8, 0, 1, 2, 3, 4, 5, 9, 10, 11, 12, 13] (by decide) rfl
    have hK9 := hK.sub (tys' := [(cI, .int)]) [0] rfl
    exact W.vret hx hb hr (fun t ht hW => ⟨⟨(ne, v_1_0, v_1_1, e2, e3, e4, e5, e6, e7), rfl, (by show _ ≤ _; omega), by rw [ht]; exact hP9, va_K.moved hW.alike hK9, hD9⟩, hS.F ht⟩) hS.2.2 dX2_tellFor_12
  · have zc_2 := c_2
    rw [← Int32.toInt_inj] at zc_2
    try rw [show (0 : Int32).toInt = 0 from by decide] at zc_2
    refine lv_aload_n hx hb dX2_tellFor_8 rfl (lv_at hl 0 rfl) ?_
    obtain ⟨hPc, hDc⟩ := zz_sub2 (ws' := [(a 34, .inr (2, [.ref (a 35), .ref (a 36), .ref (a 37), .ref (a 38), .ref (a 39), .ref (a 40), .ref (a 41), .ref (a 42), .int (nI ne)])), (a 35, .inl (cI, 8, .inl v_1_0)), (a 36, .inl (cI, 8, .inl v_1_1)), (a 37, .inl (cI, 8, .inl e2)), (a 38, .inl (cI, 256, .inl e3)), (a 39, .inl (cI, 256, .inl e4)), (a 40, .inl (cI, 8, .inl e5)), (a 41, .inl (cI, 8, .inl e6)), (a 42, .inl (cI, 8, .inl e7))]) hP hD [6, 7, 8, 0, 1, 2, 3, 4, 5] (by decide) rfl
    have hKc := hK.sub (tys' := [(cI, .int)]) [0] rfl
    have hFc := zz_free1 hDc hS hA
    refine va_callv (va_runV (As := []) (rest := []) ⟨hx, hb, hml, hown, hw⟩ (k_tell l dC dI a cI ne v_1_0 v_1_1 e2 e3 e4 e5 e6 e7 H.size (by omega)) ⟨callB_of 0 hw (zz_good tw_134) rfl rfl rfl (hw _ tw_107) (hw _ tw_135) (by decide +kernel) ⟨Nat.le_of_ble_eq_true rfl, Nat.le_of_ble_eq_true rfl⟩, (hw _ tw_136), (hw _ tw_137)⟩ ⟨zz_blind, va_recv hKc hPc (ci := 2) (q0 := 0) rfl rfl, zz_pre hPc hKc hDc hN⟩ rfl rfl hl.1 rfl (lv_room (Nat.le_of_ble_eq_true rfl)) dX2_tellFor_9 ⟨Nat.le_of_ble_eq_true rfl, Nat.le_of_ble_eq_true rfl⟩) hS (fun q _ h => hFc q h) hFc (fun u_3 t H1 locs ht hvm e_3 hB hz1 hk1 hS => ?_)
    try dsimp only at e_3
    obtain ⟨v_3_0, v_3_1, v_3_2, v_3_3, v_3_4, v_3_5, v_3_6, v_3_7⟩ := u_3
    obtain ⟨hP1, hK1, hD1⟩ := hB
    rw [ht] at hP1
    have hK1 := va_K.moved hvm.symm hK1
    try dsimp only at e_3
    obtain ⟨hP, hD⟩ := va_join (wr := [(a 29, .inr (1, [.ref (a 30), .ref (a 31), .ref (a 32), .ref (a 33), .int (nI nd)])), (a 30, .inl (cI, 300, .inl fo)), (a 31, .inl (cI, 300, .inl fc)), (a 32, .inl (cI, 300, .inl fs)), (a 33, .inl (cI, 300, .inl fu))]) (w1 := [(a 34, .inr (2, [.ref (a 35), .ref (a 36), .ref (a 37), .ref (a 38), .ref (a 39), .ref (a 40), .ref (a 41), .ref (a 42), .int (nI v_3_0)])), (a 35, .inl (cI, 8, .inl v_3_1)), (a 36, .inl (cI, 8, .inl v_1_1)), (a 37, .inl (cI, 8, .inl v_3_2)), (a 38, .inl (cI, 256, .inl v_3_3)), (a 39, .inl (cI, 256, .inl v_3_4)), (a 40, .inl (cI, 8, .inl v_3_5)), (a 41, .inl (cI, 8, .inl v_3_6)), (a 42, .inl (cI, 8, .inl v_3_7))]) hP hD [6, 7, 8, 0, 1, 2, 3, 4, 5] [9, 10, 11, 12, 13] rfl rfl (by decide) (by decide) hk1 hFc hP1 hD1
    clear hk1 ht hvm
    generalize H1 = H at hP hS ⊢
    obtain ⟨hP, hD⟩ := zz_ty (D := (dC, dI)) (cl := vwCl) (A := A) (H := H) [(a 29, .inr (1, [.ref (a 30), .ref (a 31), .ref (a 32), .ref (a 33), .int (nI nd)])), (a 30, .inl (cI, 300, .inl fo)), (a 31, .inl (cI, 300, .inl fc)), (a 32, .inl (cI, 300, .inl fs)), (a 33, .inl (cI, 300, .inl fu)), (a 34, .inr (2, [.ref (a 35), .ref (a 36), .ref (a 37), .ref (a 38), .ref (a 39), .ref (a 40), .ref (a 41), .ref (a 42), .int (nI v_3_0)])), (a 35, .inl (cI, 8, .inl v_3_1)), (a 36, .inl (cI, 8, .inl v_1_1)), (a 37, .inl (cI, 8, .inl v_3_2)), (a 38, .inl (cI, 256, .inl v_3_3)), (a 39, .inl (cI, 256, .inl v_3_4)), (a 40, .inl (cI, 8, .inl v_3_5)), (a 41, .inl (cI, 8, .inl v_3_6)), (a 42, .inl (cI, 8, .inl v_3_7))] hP hD rfl
    obtain ⟨hP9, hD9⟩ := zz_sub2 (ws' := [(a 34, .inr (2, [.ref (a 35), .ref (a 36), .ref (a 37), .ref (a 38), .ref (a 39), .ref (a 40), .ref (a 41), .ref (a 42), .int (nI v_3_0)])), (a 35, .inl (cI, 8, .inl v_3_1)), (a 36, .inl (cI, 8, .inl v_1_1)), (a 37, .inl (cI, 8, .inl v_3_2)), (a 38, .inl (cI, 256, .inl v_3_3)), (a 39, .inl (cI, 256, .inl v_3_4)), (a 40, .inl (cI, 8, .inl v_3_5)), (a 41, .inl (cI, 8, .inl v_3_6)), (a 42, .inl (cI, 8, .inl v_3_7)), (a 29, .inr (1, [.ref (a 30), .ref (a 31), .ref (a 32), .ref (a 33), .int (nI nd)])), (a 30, .inl (cI, 300, .inl fo)), (a 31, .inl (cI, 300, .inl fc)), (a 32, .inl (cI, 300, .inl fs)), (a 33, .inl (cI, 300, .inl fu))]) hP hD [5, 6, 7, 8, 9, 10, 11, 12, 13, 0, 1, 2, 3, 4] (by decide) rfl
    have hK9 := hK.sub (tys' := [(cI, .int)]) [0] rfl
    exact W.vret hx hb hr (fun t ht hW => ⟨⟨(v_3_0, v_3_1, v_1_1, v_3_2, v_3_3, v_3_4, v_3_5, v_3_6, v_3_7), rfl, (by show _ ≤ _; omega), by rw [ht]; exact hP9, va_K.moved hW.alike hK9, hD9⟩, hS.F ht⟩) hS.2.2 dX2_tellFor_12
set_option maxHeartbeats 4000000 in
set_option maxRecDepth 100000 in
theorem k_payments (l : Launch) (dC : Nat → ClassId) (dI : Nat → Nat → Nat) (a : Nat → Nat) (nh : Nat) (nf : Nat) (clk : Int32) (hi : Int32) (cI : ClassId) (ne : Nat) (e0 : Nat → Int32) (e1 : Nat → Int32) (e2 : Nat → Int32) (e3 : Nat → Int32) (e4 : Nat → Int32) (e5 : Nat → Int32) (e6 : Nat → Int32) (e7 : Nat → Int32) (nd : Nat) (fo : Nat → Int32) (fc : Nat → Int32) (fs : Nat → Int32) (fu : Nat → Int32) (sz : Nat) (hnd : nd ≤ 300) (hne : ne ≤ 8) : Met l yX7_payments (zz_w yX7_payments cX7_payments 1 (some .int)) ({ frames := 4, cells := 0, slots := 0, locals := 92 }) (va_Pc [.ref (a 0)] (zz_B (dC, dI) sz [(a 0, .inr (7, [.ref (a 1), .ref (a 10), .ref (a 23), .ref (a 24), .ref (a 26), .ref (a 29), .ref (a 34), .ref (a 43), .int (nI nh), .int (nI nf), .int clk, .int hi])), (a 34, .inr (2, [.ref (a 35), .ref (a 36), .ref (a 37), .ref (a 38), .ref (a 39), .ref (a 40), .ref (a 41), .ref (a 42), .int (nI ne)])), (a 35, .inl (cI, 8, .inl e0)), (a 36, .inl (cI, 8, .inl e1)), (a 37, .inl (cI, 8, .inl e2)), (a 38, .inl (cI, 256, .inl e3)), (a 39, .inl (cI, 256, .inl e4)), (a 40, .inl (cI, 8, .inl e5)), (a 41, .inl (cI, 8, .inl e6)), (a 42, .inl (cI, 8, .inl e7)), (a 29, .inr (1, [.ref (a 30), .ref (a 31), .ref (a 32), .ref (a 33), .int (nI nd)])), (a 30, .inl (cI, 300, .inl fo)), (a 31, .inl (cI, 300, .inl fc)), (a 32, .inl (cI, 300, .inl fs)), (a 33, .inl (cI, 300, .inl fu))] [(cI, .int)])) (va_Qi (fun (_ : Int32) (u : Nat × (Nat → Int32) × (Nat → Int32) × (Nat → Int32) × (Nat → Int32) × (Nat → Int32) × (Nat → Int32) × (Nat → Int32) × (Nat → Int32)) => match u with | (n2, _, _, _, _, _, _, _, _) => n2 ≤ 8) (fun (u : Nat × (Nat → Int32) × (Nat → Int32) × (Nat → Int32) × (Nat → Int32) × (Nat → Int32) × (Nat → Int32) × (Nat → Int32) × (Nat → Int32)) (t : State) => match u with | (u0, u1, u2, u3, u4, u5, u6, u7, u8) => va_P (dC, dI) vwCl [(a 0, .inr (7, [.ref (a 1), .ref (a 10), .ref (a 23), .ref (a 24), .ref (a 26), .ref (a 29), .ref (a 34), .ref (a 43), .int (nI nh), .int (nI nf), .int clk, .int hi])), (a 34, .inr (2, [.ref (a 35), .ref (a 36), .ref (a 37), .ref (a 38), .ref (a 39), .ref (a 40), .ref (a 41), .ref (a 42), .int (nI u0)])), (a 35, .inl (cI, 8, .inl u1)), (a 36, .inl (cI, 8, .inl u2)), (a 37, .inl (cI, 8, .inl u3)), (a 38, .inl (cI, 256, .inl u4)), (a 39, .inl (cI, 256, .inl u5)), (a 40, .inl (cI, 8, .inl u6)), (a 41, .inl (cI, 8, .inl u7)), (a 42, .inl (cI, 8, .inl u8)), (a 29, .inr (1, [.ref (a 30), .ref (a 31), .ref (a 32), .ref (a 33), .int (nI nd)])), (a 30, .inl (cI, 300, .inl fo)), (a 31, .inl (cI, 300, .inl fc)), (a 32, .inl (cI, 300, .inl fs)), (a 33, .inl (cI, 300, .inl fu))] t.heap ∧ va_K (dC, dI) vwCl [(cI, .int)] t ∧ va_D (va_A [(a 0, .inr (7, [.ref (a 1), .ref (a 10), .ref (a 23), .ref (a 24), .ref (a 26), .ref (a 29), .ref (a 34), .ref (a 43), .int (nI nh), .int (nI nf), .int clk, .int hi])), (a 34, .inr (2, [.ref (a 35), .ref (a 36), .ref (a 37), .ref (a 38), .ref (a 39), .ref (a 40), .ref (a 41), .ref (a 42), .int (nI ne)])), (a 35, .inl (cI, 8, .inl e0)), (a 36, .inl (cI, 8, .inl e1)), (a 37, .inl (cI, 8, .inl e2)), (a 38, .inl (cI, 256, .inl e3)), (a 39, .inl (cI, 256, .inl e4)), (a 40, .inl (cI, 8, .inl e5)), (a 41, .inl (cI, 8, .inl e6)), (a 42, .inl (cI, 8, .inl e7)), (a 29, .inr (1, [.ref (a 30), .ref (a 31), .ref (a 32), .ref (a 33), .int (nI nd)])), (a 30, .inl (cI, 300, .inl fo)), (a 31, .inl (cI, 300, .inl fc)), (a 32, .inl (cI, 300, .inl fs)), (a 33, .inl (cI, 300, .inl fu))] sz) [(a 0, .inr (7, [.ref (a 1), .ref (a 10), .ref (a 23), .ref (a 24), .ref (a 26), .ref (a 29), .ref (a 34), .ref (a 43), .int (nI nh), .int (nI nf), .int clk, .int hi])), (a 34, .inr (2, [.ref (a 35), .ref (a 36), .ref (a 37), .ref (a 38), .ref (a 39), .ref (a 40), .ref (a 41), .ref (a 42), .int (nI u0)])), (a 35, .inl (cI, 8, .inl u1)), (a 36, .inl (cI, 8, .inl u2)), (a 37, .inl (cI, 8, .inl u3)), (a 38, .inl (cI, 256, .inl u4)), (a 39, .inl (cI, 256, .inl u5)), (a 40, .inl (cI, 8, .inl u6)), (a 41, .inl (cI, 8, .inl u7)), (a 42, .inl (cI, 8, .inl u8)), (a 29, .inr (1, [.ref (a 30), .ref (a 31), .ref (a 32), .ref (a 33), .int (nI nd)])), (a 30, .inl (cI, 300, .inl fo)), (a 31, .inl (cI, 300, .inl fc)), (a 32, .inl (cI, 300, .inl fs)), (a 33, .inl (cI, 300, .inl fu))]) (va_A [(a 0, .inr (7, [.ref (a 1), .ref (a 10), .ref (a 23), .ref (a 24), .ref (a 26), .ref (a 29), .ref (a 34), .ref (a 43), .int (nI nh), .int (nI nf), .int clk, .int hi])), (a 34, .inr (2, [.ref (a 35), .ref (a 36), .ref (a 37), .ref (a 38), .ref (a 39), .ref (a 40), .ref (a 41), .ref (a 42), .int (nI ne)])), (a 35, .inl (cI, 8, .inl e0)), (a 36, .inl (cI, 8, .inl e1)), (a 37, .inl (cI, 8, .inl e2)), (a 38, .inl (cI, 256, .inl e3)), (a 39, .inl (cI, 256, .inl e4)), (a 40, .inl (cI, 8, .inl e5)), (a 41, .inl (cI, 8, .inl e6)), (a 42, .inl (cI, 8, .inl e7)), (a 29, .inr (1, [.ref (a 30), .ref (a 31), .ref (a 32), .ref (a 33), .int (nI nd)])), (a 30, .inl (cI, 300, .inl fo)), (a 31, .inl (cI, 300, .inl fc)), (a 32, .inl (cI, 300, .inl fs)), (a 33, .inl (cI, 300, .inl fu))] sz)) 0 0 (va_A [(a 0, .inr (7, [.ref (a 1), .ref (a 10), .ref (a 23), .ref (a 24), .ref (a 26), .ref (a 29), .ref (a 34), .ref (a 43), .int (nI nh), .int (nI nf), .int clk, .int hi])), (a 34, .inr (2, [.ref (a 35), .ref (a 36), .ref (a 37), .ref (a 38), .ref (a 39), .ref (a 40), .ref (a 41), .ref (a 42), .int (nI ne)])), (a 35, .inl (cI, 8, .inl e0)), (a 36, .inl (cI, 8, .inl e1)), (a 37, .inl (cI, 8, .inl e2)), (a 38, .inl (cI, 256, .inl e3)), (a 39, .inl (cI, 256, .inl e4)), (a 40, .inl (cI, 8, .inl e5)), (a 41, .inl (cI, 8, .inl e6)), (a 42, .inl (cI, 8, .inl e7)), (a 29, .inr (1, [.ref (a 30), .ref (a 31), .ref (a 32), .ref (a 33), .int (nI nd)])), (a 30, .inl (cI, 300, .inl fo)), (a 31, .inl (cI, 300, .inl fc)), (a 32, .inl (cI, 300, .inl fs)), (a 33, .inl (cI, 300, .inl fu))] sz) := by
  refine Met.ofW (cc := cX7_payments) (maxL := 1) (ret := (some .int)) (by decide) rfl ?_
  intro p e s m args below meth c s₁ B hml hv
  obtain ⟨rfl, hsz, hP, hK, hD0, hN⟩ := hv
  have hx := B.exec
  have hb := B.bytes
  have hr := B.returns
  have hts := atoms_spec (ws := zz_w yX7_payments cX7_payments 1 (some .int)) B.pre
  have hw : ∀ w ∈ zz_all, w.before _ s = true := fun w h => hts w (List.mem_cons_of_mem _ h)
  have hown : s.vm.findClass RX7 = some m.cls := findClass_of_methodNamed B.named
  have hlocks := B.notSynchronized
  subst hsz
  have hD := hD0.self (sz := s.heap.size)
  generalize hAe : va_A [(a 0, .inr (7, [.ref (a 1), .ref (a 10), .ref (a 23), .ref (a 24), .ref (a 26), .ref (a 29), .ref (a 34), .ref (a 43), .int (nI nh), .int (nI nf), .int clk, .int hi])), (a 34, .inr (2, [.ref (a 35), .ref (a 36), .ref (a 37), .ref (a 38), .ref (a 39), .ref (a 40), .ref (a 41), .ref (a 42), .int (nI ne)])), (a 35, .inl (cI, 8, .inl e0)), (a 36, .inl (cI, 8, .inl e1)), (a 37, .inl (cI, 8, .inl e2)), (a 38, .inl (cI, 256, .inl e3)), (a 39, .inl (cI, 256, .inl e4)), (a 40, .inl (cI, 8, .inl e5)), (a 41, .inl (cI, 8, .inl e6)), (a 42, .inl (cI, 8, .inl e7)), (a 29, .inr (1, [.ref (a 30), .ref (a 31), .ref (a 32), .ref (a 33), .int (nI nd)])), (a 30, .inl (cI, 300, .inl fo)), (a 31, .inl (cI, 300, .inl fc)), (a 32, .inl (cI, 300, .inl fs)), (a 33, .inl (cI, 300, .inl fu))] s.heap.size = A at hD ⊢
  have hA : ∀ q : Nat, s.heap.size ≤ q → A q := fun q h => by rw [← hAe]; exact Or.inr h
  have hS : va_S A s.heap s.heap [] := va_S.rf
  have hP : va_P (dC, dI) vwCl [(a 0, .inr (7, [.ref (a 1), .ref (a 10), .ref (a 23), .ref (a 24), .ref (a 26), .ref (a 29), .ref (a 34), .ref (a 43), .int (nI nh), .int (nI nf), .int clk, .int hi])), (a 34, .inr (2, [.ref (a 35), .ref (a 36), .ref (a 37), .ref (a 38), .ref (a 39), .ref (a 40), .ref (a 41), .ref (a 42), .int (nI ne)])), (a 35, .inl (cI, 8, .inl e0)), (a 36, .inl (cI, 8, .inl e1)), (a 37, .inl (cI, 8, .inl e2)), (a 38, .inl (cI, 256, .inl e3)), (a 39, .inl (cI, 256, .inl e4)), (a 40, .inl (cI, 8, .inl e5)), (a 41, .inl (cI, 8, .inl e6)), (a 42, .inl (cI, 8, .inl e7)), (a 29, .inr (1, [.ref (a 30), .ref (a 31), .ref (a 32), .ref (a 33), .int (nI nd)])), (a 30, .inl (cI, 300, .inl fo)), (a 31, .inl (cI, 300, .inl fc)), (a 32, .inl (cI, 300, .inl fs)), (a 33, .inl (cI, 300, .inl fu))] s.heap := hP
  have hl := lv_entry ([.ref (a 0)]) (n := 1) (Nat.le_of_ble_eq_true rfl)
  rw [lg_entry_eq]
  generalize (lg_sl ([.ref (a 0)]) ++ List.replicate (1 - (lg_sl ([.ref (a 0)])).length) Slot.unset).toArray = ls at hl ⊢
  have hl : lv_has ls 1 [(0, .ref (a 0))] := hl
  refine lv_aload_n hx hb dX7_payments_0 rfl (lv_at hl 0 rfl) ?_
  refine va_get (D := (dC, dI)) (ci := 7) (v := .ref (a 34)) (C := RX7) (T := TX7) (N := 12) hx hb hw zz_inX7 hown hK hP 0 rfl rfl 6 (by decide) (hw _ tw_138) (fun _ h9 => h9) rfl dX7_payments_1 ?_
  refine lv_aload_n hx hb dX7_payments_4 rfl (lv_at hl 0 rfl) ?_
  refine va_get (D := (dC, dI)) (ci := 7) (v := .ref (a 29)) (C := RX7) (T := TX7) (N := 12) hx hb hw zz_inX7 hown hK hP 0 rfl rfl 5 (by decide) (hw _ tw_44) (fun _ h9 => h9) rfl dX7_payments_5 ?_
  obtain ⟨hPc, hDc⟩ := zz_sub2 (ws' := [(a 34, .inr (2, [.ref (a 35), .ref (a 36), .ref (a 37), .ref (a 38), .ref (a 39), .ref (a 40), .ref (a 41), .ref (a 42), .int (nI ne)])), (a 35, .inl (cI, 8, .inl e0)), (a 36, .inl (cI, 8, .inl e1)), (a 37, .inl (cI, 8, .inl e2)), (a 38, .inl (cI, 256, .inl e3)), (a 39, .inl (cI, 256, .inl e4)), (a 40, .inl (cI, 8, .inl e5)), (a 41, .inl (cI, 8, .inl e6)), (a 42, .inl (cI, 8, .inl e7)), (a 29, .inr (1, [.ref (a 30), .ref (a 31), .ref (a 32), .ref (a 33), .int (nI nd)])), (a 30, .inl (cI, 300, .inl fo)), (a 31, .inl (cI, 300, .inl fc)), (a 32, .inl (cI, 300, .inl fs)), (a 33, .inl (cI, 300, .inl fu))]) hP hD [1, 2, 3, 4, 5, 6, 7, 8, 9, 10, 11, 12, 13, 14] (by decide) rfl
  have hKc := hK.sub (tys' := [(cI, .int)]) [0] rfl
  have hFc := zz_free1 hDc hS hA
  refine va_callv (va_runVN (As := [.ref (a 29)]) (rest := []) ⟨hx, hb, hml, hown, hw⟩ (k_tellFor l dC dI a cI ne e0 e1 e2 e3 e4 e5 e6 e7 nd fo fc fs fu s.heap.size (by omega) (by omega)) ⟨va_cnB 1 hw (zz_good tw_139) rfl rfl rfl (hN.1 _ zz_n60) (hw _ tw_107) (by decide +kernel) ⟨Nat.le_of_ble_eq_true rfl, Nat.le_of_ble_eq_true rfl⟩, (hw _ tw_140), (hw _ tw_141)⟩ ⟨zz_blind, va_recv hKc hPc (ci := 2) (q0 := 0) rfl rfl, zz_pre hPc hKc hDc hN⟩ rfl rfl hl.1 rfl (lv_room (Nat.le_of_ble_eq_true rfl)) dX7_payments_8 ⟨Nat.le_of_ble_eq_true rfl, Nat.le_of_ble_eq_true rfl⟩) hS (fun q _ h => hFc q h) hFc (fun u_1 t H1 locs ht hvm e_1 hB hz1 hk1 hS => ?_)
  try dsimp only at e_1
  obtain ⟨v_1_0, v_1_1, v_1_2, v_1_3, v_1_4, v_1_5, v_1_6, v_1_7, v_1_8⟩ := u_1
  obtain ⟨hP1, hK1, hD1⟩ := hB
  rw [ht] at hP1
  have hK1 := va_K.moved hvm.symm hK1
  try dsimp only at e_1
  obtain ⟨hP, hD⟩ := va_join (wr := [(a 0, .inr (7, [.ref (a 1), .ref (a 10), .ref (a 23), .ref (a 24), .ref (a 26), .ref (a 29), .ref (a 34), .ref (a 43), .int (nI nh), .int (nI nf), .int clk, .int hi]))]) (w1 := [(a 34, .inr (2, [.ref (a 35), .ref (a 36), .ref (a 37), .ref (a 38), .ref (a 39), .ref (a 40), .ref (a 41), .ref (a 42), .int (nI v_1_0)])), (a 35, .inl (cI, 8, .inl v_1_1)), (a 36, .inl (cI, 8, .inl v_1_2)), (a 37, .inl (cI, 8, .inl v_1_3)), (a 38, .inl (cI, 256, .inl v_1_4)), (a 39, .inl (cI, 256, .inl v_1_5)), (a 40, .inl (cI, 8, .inl v_1_6)), (a 41, .inl (cI, 8, .inl v_1_7)), (a 42, .inl (cI, 8, .inl v_1_8)), (a 29, .inr (1, [.ref (a 30), .ref (a 31), .ref (a 32), .ref (a 33), .int (nI nd)])), (a 30, .inl (cI, 300, .inl fo)), (a 31, .inl (cI, 300, .inl fc)), (a 32, .inl (cI, 300, .inl fs)), (a 33, .inl (cI, 300, .inl fu))]) hP hD [1, 2, 3, 4, 5, 6, 7, 8, 9, 10, 11, 12, 13, 14] [0] rfl rfl (by decide) (by decide) hk1 hFc hP1 hD1
  clear hk1 ht hvm
  generalize H1 = H at hP hS ⊢
  obtain ⟨hP, hD⟩ := zz_ty (D := (dC, dI)) (cl := vwCl) (A := A) (H := H) [(a 0, .inr (7, [.ref (a 1), .ref (a 10), .ref (a 23), .ref (a 24), .ref (a 26), .ref (a 29), .ref (a 34), .ref (a 43), .int (nI nh), .int (nI nf), .int clk, .int hi])), (a 34, .inr (2, [.ref (a 35), .ref (a 36), .ref (a 37), .ref (a 38), .ref (a 39), .ref (a 40), .ref (a 41), .ref (a 42), .int (nI v_1_0)])), (a 35, .inl (cI, 8, .inl v_1_1)), (a 36, .inl (cI, 8, .inl v_1_2)), (a 37, .inl (cI, 8, .inl v_1_3)), (a 38, .inl (cI, 256, .inl v_1_4)), (a 39, .inl (cI, 256, .inl v_1_5)), (a 40, .inl (cI, 8, .inl v_1_6)), (a 41, .inl (cI, 8, .inl v_1_7)), (a 42, .inl (cI, 8, .inl v_1_8)), (a 29, .inr (1, [.ref (a 30), .ref (a 31), .ref (a 32), .ref (a 33), .int (nI nd)])), (a 30, .inl (cI, 300, .inl fo)), (a 31, .inl (cI, 300, .inl fc)), (a 32, .inl (cI, 300, .inl fs)), (a 33, .inl (cI, 300, .inl fu))] hP hD rfl
  refine lv_aload_n hx hb dX7_payments_11 rfl (lv_at hl 0 rfl) ?_
  refine va_get (D := (dC, dI)) (ci := 7) (v := .ref (a 34)) (C := RX7) (T := TX7) (N := 12) hx hb hw zz_inX7 hown hK hP 0 rfl rfl 6 (by decide) (hw _ tw_138) (fun _ h9 => h9) rfl dX7_payments_12 ?_
  refine va_getN (D := (dC, dI)) (ci := 2) (v := .int (nI v_1_0)) (C := RX2) (T := TX2) (N := 9) hx hb hw zz_inX2 hown hK hP 1 rfl rfl 8 (by decide) (hN.use zz_n42) (fun _ h9 => h9) rfl dX7_payments_15 ?_
  obtain ⟨hP9, hD9⟩ := zz_sub2 (ws' := [(a 0, .inr (7, [.ref (a 1), .ref (a 10), .ref (a 23), .ref (a 24), .ref (a 26), .ref (a 29), .ref (a 34), .ref (a 43), .int (nI nh), .int (nI nf), .int clk, .int hi])), (a 34, .inr (2, [.ref (a 35), .ref (a 36), .ref (a 37), .ref (a 38), .ref (a 39), .ref (a 40), .ref (a 41), .ref (a 42), .int (nI v_1_0)])), (a 35, .inl (cI, 8, .inl v_1_1)), (a 36, .inl (cI, 8, .inl v_1_2)), (a 37, .inl (cI, 8, .inl v_1_3)), (a 38, .inl (cI, 256, .inl v_1_4)), (a 39, .inl (cI, 256, .inl v_1_5)), (a 40, .inl (cI, 8, .inl v_1_6)), (a 41, .inl (cI, 8, .inl v_1_7)), (a 42, .inl (cI, 8, .inl v_1_8)), (a 29, .inr (1, [.ref (a 30), .ref (a 31), .ref (a 32), .ref (a 33), .int (nI nd)])), (a 30, .inl (cI, 300, .inl fo)), (a 31, .inl (cI, 300, .inl fc)), (a 32, .inl (cI, 300, .inl fs)), (a 33, .inl (cI, 300, .inl fu))]) hP hD [0, 1, 2, 3, 4, 5, 6, 7, 8, 9, 10, 11, 12, 13, 14] (by decide) rfl
  have hK9 := hK.sub (tys' := [(cI, .int)]) [0] rfl
  exact W.iret (v := (nI v_1_0)) hx hb hr (fun t ht hW => ⟨⟨(nI v_1_0), (v_1_0, v_1_1, v_1_2, v_1_3, v_1_4, v_1_5, v_1_6, v_1_7, v_1_8), rfl, (by show _ ≤ _; omega), by rw [ht]; exact hP9, va_K.moved hW.alike hK9, hD9⟩, hS.F ht⟩) hS.2.2 dX7_payments_18
set_option maxHeartbeats 4000000 in
set_option maxRecDepth 100000 in
theorem k_payment (l : Launch) (dC : Nat → ClassId) (dI : Nat → Nat → Nat) (a : Nat → Nat) (nh : Nat) (nf : Nat) (clk : Int32) (hi : Int32) (cI : ClassId) (ne : Nat) (e0 : Nat → Int32) (e1 : Nat → Int32) (e2 : Nat → Int32) (e3 : Nat → Int32) (e4 : Nat → Int32) (e5 : Nat → Int32) (e6 : Nat → Int32) (e7 : Nat → Int32) (nd : Nat) (fo : Nat → Int32) (fc : Nat → Int32) (fs : Nat → Int32) (fu : Nat → Int32) (p0 : Int32) (p1 : Int32) (sz : Nat) (hnd : nd ≤ 300) (hne : ne ≤ 8) : Met l yX7_payment (zz_w yX7_payment cX7_payment 3 (some .int)) ({ frames := 4, cells := 0, slots := 0, locals := 92 }) (va_Pc [.ref (a 0), .int p0, .int p1] (zz_B (dC, dI) sz [(a 0, .inr (7, [.ref (a 1), .ref (a 10), .ref (a 23), .ref (a 24), .ref (a 26), .ref (a 29), .ref (a 34), .ref (a 43), .int (nI nh), .int (nI nf), .int clk, .int hi])), (a 34, .inr (2, [.ref (a 35), .ref (a 36), .ref (a 37), .ref (a 38), .ref (a 39), .ref (a 40), .ref (a 41), .ref (a 42), .int (nI ne)])), (a 35, .inl (cI, 8, .inl e0)), (a 36, .inl (cI, 8, .inl e1)), (a 37, .inl (cI, 8, .inl e2)), (a 38, .inl (cI, 256, .inl e3)), (a 39, .inl (cI, 256, .inl e4)), (a 40, .inl (cI, 8, .inl e5)), (a 41, .inl (cI, 8, .inl e6)), (a 42, .inl (cI, 8, .inl e7)), (a 29, .inr (1, [.ref (a 30), .ref (a 31), .ref (a 32), .ref (a 33), .int (nI nd)])), (a 30, .inl (cI, 300, .inl fo)), (a 31, .inl (cI, 300, .inl fc)), (a 32, .inl (cI, 300, .inl fs)), (a 33, .inl (cI, 300, .inl fu))] [(cI, .int)])) (va_Qi (fun (_ : Int32) (u : Nat × (Nat → Int32) × (Nat → Int32) × (Nat → Int32) × (Nat → Int32) × (Nat → Int32) × (Nat → Int32) × (Nat → Int32) × (Nat → Int32)) => match u with | (n2, _, _, _, _, _, _, _, _) => n2 ≤ 8) (fun (u : Nat × (Nat → Int32) × (Nat → Int32) × (Nat → Int32) × (Nat → Int32) × (Nat → Int32) × (Nat → Int32) × (Nat → Int32) × (Nat → Int32)) (t : State) => match u with | (u0, u1, u2, u3, u4, u5, u6, u7, u8) => va_P (dC, dI) vwCl [(a 0, .inr (7, [.ref (a 1), .ref (a 10), .ref (a 23), .ref (a 24), .ref (a 26), .ref (a 29), .ref (a 34), .ref (a 43), .int (nI nh), .int (nI nf), .int clk, .int hi])), (a 34, .inr (2, [.ref (a 35), .ref (a 36), .ref (a 37), .ref (a 38), .ref (a 39), .ref (a 40), .ref (a 41), .ref (a 42), .int (nI u0)])), (a 35, .inl (cI, 8, .inl u1)), (a 36, .inl (cI, 8, .inl u2)), (a 37, .inl (cI, 8, .inl u3)), (a 38, .inl (cI, 256, .inl u4)), (a 39, .inl (cI, 256, .inl u5)), (a 40, .inl (cI, 8, .inl u6)), (a 41, .inl (cI, 8, .inl u7)), (a 42, .inl (cI, 8, .inl u8)), (a 29, .inr (1, [.ref (a 30), .ref (a 31), .ref (a 32), .ref (a 33), .int (nI nd)])), (a 30, .inl (cI, 300, .inl fo)), (a 31, .inl (cI, 300, .inl fc)), (a 32, .inl (cI, 300, .inl fs)), (a 33, .inl (cI, 300, .inl fu))] t.heap ∧ va_K (dC, dI) vwCl [(cI, .int)] t ∧ va_D (va_A [(a 0, .inr (7, [.ref (a 1), .ref (a 10), .ref (a 23), .ref (a 24), .ref (a 26), .ref (a 29), .ref (a 34), .ref (a 43), .int (nI nh), .int (nI nf), .int clk, .int hi])), (a 34, .inr (2, [.ref (a 35), .ref (a 36), .ref (a 37), .ref (a 38), .ref (a 39), .ref (a 40), .ref (a 41), .ref (a 42), .int (nI ne)])), (a 35, .inl (cI, 8, .inl e0)), (a 36, .inl (cI, 8, .inl e1)), (a 37, .inl (cI, 8, .inl e2)), (a 38, .inl (cI, 256, .inl e3)), (a 39, .inl (cI, 256, .inl e4)), (a 40, .inl (cI, 8, .inl e5)), (a 41, .inl (cI, 8, .inl e6)), (a 42, .inl (cI, 8, .inl e7)), (a 29, .inr (1, [.ref (a 30), .ref (a 31), .ref (a 32), .ref (a 33), .int (nI nd)])), (a 30, .inl (cI, 300, .inl fo)), (a 31, .inl (cI, 300, .inl fc)), (a 32, .inl (cI, 300, .inl fs)), (a 33, .inl (cI, 300, .inl fu))] sz) [(a 0, .inr (7, [.ref (a 1), .ref (a 10), .ref (a 23), .ref (a 24), .ref (a 26), .ref (a 29), .ref (a 34), .ref (a 43), .int (nI nh), .int (nI nf), .int clk, .int hi])), (a 34, .inr (2, [.ref (a 35), .ref (a 36), .ref (a 37), .ref (a 38), .ref (a 39), .ref (a 40), .ref (a 41), .ref (a 42), .int (nI u0)])), (a 35, .inl (cI, 8, .inl u1)), (a 36, .inl (cI, 8, .inl u2)), (a 37, .inl (cI, 8, .inl u3)), (a 38, .inl (cI, 256, .inl u4)), (a 39, .inl (cI, 256, .inl u5)), (a 40, .inl (cI, 8, .inl u6)), (a 41, .inl (cI, 8, .inl u7)), (a 42, .inl (cI, 8, .inl u8)), (a 29, .inr (1, [.ref (a 30), .ref (a 31), .ref (a 32), .ref (a 33), .int (nI nd)])), (a 30, .inl (cI, 300, .inl fo)), (a 31, .inl (cI, 300, .inl fc)), (a 32, .inl (cI, 300, .inl fs)), (a 33, .inl (cI, 300, .inl fu))]) (va_A [(a 0, .inr (7, [.ref (a 1), .ref (a 10), .ref (a 23), .ref (a 24), .ref (a 26), .ref (a 29), .ref (a 34), .ref (a 43), .int (nI nh), .int (nI nf), .int clk, .int hi])), (a 34, .inr (2, [.ref (a 35), .ref (a 36), .ref (a 37), .ref (a 38), .ref (a 39), .ref (a 40), .ref (a 41), .ref (a 42), .int (nI ne)])), (a 35, .inl (cI, 8, .inl e0)), (a 36, .inl (cI, 8, .inl e1)), (a 37, .inl (cI, 8, .inl e2)), (a 38, .inl (cI, 256, .inl e3)), (a 39, .inl (cI, 256, .inl e4)), (a 40, .inl (cI, 8, .inl e5)), (a 41, .inl (cI, 8, .inl e6)), (a 42, .inl (cI, 8, .inl e7)), (a 29, .inr (1, [.ref (a 30), .ref (a 31), .ref (a 32), .ref (a 33), .int (nI nd)])), (a 30, .inl (cI, 300, .inl fo)), (a 31, .inl (cI, 300, .inl fc)), (a 32, .inl (cI, 300, .inl fs)), (a 33, .inl (cI, 300, .inl fu))] sz)) 0 0 (va_A [(a 0, .inr (7, [.ref (a 1), .ref (a 10), .ref (a 23), .ref (a 24), .ref (a 26), .ref (a 29), .ref (a 34), .ref (a 43), .int (nI nh), .int (nI nf), .int clk, .int hi])), (a 34, .inr (2, [.ref (a 35), .ref (a 36), .ref (a 37), .ref (a 38), .ref (a 39), .ref (a 40), .ref (a 41), .ref (a 42), .int (nI ne)])), (a 35, .inl (cI, 8, .inl e0)), (a 36, .inl (cI, 8, .inl e1)), (a 37, .inl (cI, 8, .inl e2)), (a 38, .inl (cI, 256, .inl e3)), (a 39, .inl (cI, 256, .inl e4)), (a 40, .inl (cI, 8, .inl e5)), (a 41, .inl (cI, 8, .inl e6)), (a 42, .inl (cI, 8, .inl e7)), (a 29, .inr (1, [.ref (a 30), .ref (a 31), .ref (a 32), .ref (a 33), .int (nI nd)])), (a 30, .inl (cI, 300, .inl fo)), (a 31, .inl (cI, 300, .inl fc)), (a 32, .inl (cI, 300, .inl fs)), (a 33, .inl (cI, 300, .inl fu))] sz) := by
  refine Met.ofW (cc := cX7_payment) (maxL := 3) (ret := (some .int)) (by decide) rfl ?_
  intro p e s m args below meth c s₁ B hml hv
  obtain ⟨rfl, hsz, hP, hK, hD0, hN⟩ := hv
  have hx := B.exec
  have hb := B.bytes
  have hr := B.returns
  have hts := atoms_spec (ws := zz_w yX7_payment cX7_payment 3 (some .int)) B.pre
  have hw : ∀ w ∈ zz_all, w.before _ s = true := fun w h => hts w (List.mem_cons_of_mem _ h)
  have hown : s.vm.findClass RX7 = some m.cls := findClass_of_methodNamed B.named
  have hlocks := B.notSynchronized
  subst hsz
  have hD := hD0.self (sz := s.heap.size)
  generalize hAe : va_A [(a 0, .inr (7, [.ref (a 1), .ref (a 10), .ref (a 23), .ref (a 24), .ref (a 26), .ref (a 29), .ref (a 34), .ref (a 43), .int (nI nh), .int (nI nf), .int clk, .int hi])), (a 34, .inr (2, [.ref (a 35), .ref (a 36), .ref (a 37), .ref (a 38), .ref (a 39), .ref (a 40), .ref (a 41), .ref (a 42), .int (nI ne)])), (a 35, .inl (cI, 8, .inl e0)), (a 36, .inl (cI, 8, .inl e1)), (a 37, .inl (cI, 8, .inl e2)), (a 38, .inl (cI, 256, .inl e3)), (a 39, .inl (cI, 256, .inl e4)), (a 40, .inl (cI, 8, .inl e5)), (a 41, .inl (cI, 8, .inl e6)), (a 42, .inl (cI, 8, .inl e7)), (a 29, .inr (1, [.ref (a 30), .ref (a 31), .ref (a 32), .ref (a 33), .int (nI nd)])), (a 30, .inl (cI, 300, .inl fo)), (a 31, .inl (cI, 300, .inl fc)), (a 32, .inl (cI, 300, .inl fs)), (a 33, .inl (cI, 300, .inl fu))] s.heap.size = A at hD ⊢
  have hA : ∀ q : Nat, s.heap.size ≤ q → A q := fun q h => by rw [← hAe]; exact Or.inr h
  have hS : va_S A s.heap s.heap [] := va_S.rf
  have hP : va_P (dC, dI) vwCl [(a 0, .inr (7, [.ref (a 1), .ref (a 10), .ref (a 23), .ref (a 24), .ref (a 26), .ref (a 29), .ref (a 34), .ref (a 43), .int (nI nh), .int (nI nf), .int clk, .int hi])), (a 34, .inr (2, [.ref (a 35), .ref (a 36), .ref (a 37), .ref (a 38), .ref (a 39), .ref (a 40), .ref (a 41), .ref (a 42), .int (nI ne)])), (a 35, .inl (cI, 8, .inl e0)), (a 36, .inl (cI, 8, .inl e1)), (a 37, .inl (cI, 8, .inl e2)), (a 38, .inl (cI, 256, .inl e3)), (a 39, .inl (cI, 256, .inl e4)), (a 40, .inl (cI, 8, .inl e5)), (a 41, .inl (cI, 8, .inl e6)), (a 42, .inl (cI, 8, .inl e7)), (a 29, .inr (1, [.ref (a 30), .ref (a 31), .ref (a 32), .ref (a 33), .int (nI nd)])), (a 30, .inl (cI, 300, .inl fo)), (a 31, .inl (cI, 300, .inl fc)), (a 32, .inl (cI, 300, .inl fs)), (a 33, .inl (cI, 300, .inl fu))] s.heap := hP
  have hl := lv_entry ([.ref (a 0), .int p0, .int p1]) (n := 3) (Nat.le_of_ble_eq_true rfl)
  rw [lg_entry_eq]
  generalize (lg_sl ([.ref (a 0), .int p0, .int p1]) ++ List.replicate (3 - (lg_sl ([.ref (a 0), .int p0, .int p1])).length) Slot.unset).toArray = ls at hl ⊢
  have hl : lv_has ls 3 [(0, .ref (a 0)), (1, .int p0), (2, .int p1)] := hl
  refine lv_aload_n hx hb dX7_payment_0 rfl (lv_at hl 0 rfl) ?_
  refine va_get (D := (dC, dI)) (ci := 7) (v := .ref (a 34)) (C := RX7) (T := TX7) (N := 12) hx hb hw zz_inX7 hown hK hP 0 rfl rfl 6 (by decide) (hw _ tw_138) (fun _ h9 => h9) rfl dX7_payment_1 ?_
  refine lv_aload_n hx hb dX7_payment_4 rfl (lv_at hl 0 rfl) ?_
  refine va_get (D := (dC, dI)) (ci := 7) (v := .ref (a 29)) (C := RX7) (T := TX7) (N := 12) hx hb hw zz_inX7 hown hK hP 0 rfl rfl 5 (by decide) (hw _ tw_44) (fun _ h9 => h9) rfl dX7_payment_5 ?_
  obtain ⟨hPc, hDc⟩ := zz_sub2 (ws' := [(a 34, .inr (2, [.ref (a 35), .ref (a 36), .ref (a 37), .ref (a 38), .ref (a 39), .ref (a 40), .ref (a 41), .ref (a 42), .int (nI ne)])), (a 35, .inl (cI, 8, .inl e0)), (a 36, .inl (cI, 8, .inl e1)), (a 37, .inl (cI, 8, .inl e2)), (a 38, .inl (cI, 256, .inl e3)), (a 39, .inl (cI, 256, .inl e4)), (a 40, .inl (cI, 8, .inl e5)), (a 41, .inl (cI, 8, .inl e6)), (a 42, .inl (cI, 8, .inl e7)), (a 29, .inr (1, [.ref (a 30), .ref (a 31), .ref (a 32), .ref (a 33), .int (nI nd)])), (a 30, .inl (cI, 300, .inl fo)), (a 31, .inl (cI, 300, .inl fc)), (a 32, .inl (cI, 300, .inl fs)), (a 33, .inl (cI, 300, .inl fu))]) hP hD [1, 2, 3, 4, 5, 6, 7, 8, 9, 10, 11, 12, 13, 14] (by decide) rfl
  have hKc := hK.sub (tys' := [(cI, .int)]) [0] rfl
  have hFc := zz_free1 hDc hS hA
  refine va_callv (va_runVN (As := [.ref (a 29)]) (rest := []) ⟨hx, hb, hml, hown, hw⟩ (k_tellFor l dC dI a cI ne e0 e1 e2 e3 e4 e5 e6 e7 nd fo fc fs fu s.heap.size (by omega) (by omega)) ⟨va_cnB 1 hw (zz_good tw_139) rfl rfl rfl (hN.1 _ zz_n60) (hw _ tw_107) (by decide +kernel) ⟨Nat.le_of_ble_eq_true rfl, Nat.le_of_ble_eq_true rfl⟩, (hw _ tw_140), (hw _ tw_141)⟩ ⟨zz_blind, va_recv hKc hPc (ci := 2) (q0 := 0) rfl rfl, zz_pre hPc hKc hDc hN⟩ rfl rfl hl.1 rfl (lv_room (Nat.le_of_ble_eq_true rfl)) dX7_payment_8 ⟨Nat.le_of_ble_eq_true rfl, Nat.le_of_ble_eq_true rfl⟩) hS (fun q _ h => hFc q h) hFc (fun u_1 t H1 locs ht hvm e_1 hB hz1 hk1 hS => ?_)
  try dsimp only at e_1
  obtain ⟨v_1_0, v_1_1, v_1_2, v_1_3, v_1_4, v_1_5, v_1_6, v_1_7, v_1_8⟩ := u_1
  obtain ⟨hP1, hK1, hD1⟩ := hB
  rw [ht] at hP1
  have hK1 := va_K.moved hvm.symm hK1
  try dsimp only at e_1
  obtain ⟨hP, hD⟩ := va_join (wr := [(a 0, .inr (7, [.ref (a 1), .ref (a 10), .ref (a 23), .ref (a 24), .ref (a 26), .ref (a 29), .ref (a 34), .ref (a 43), .int (nI nh), .int (nI nf), .int clk, .int hi]))]) (w1 := [(a 34, .inr (2, [.ref (a 35), .ref (a 36), .ref (a 37), .ref (a 38), .ref (a 39), .ref (a 40), .ref (a 41), .ref (a 42), .int (nI v_1_0)])), (a 35, .inl (cI, 8, .inl v_1_1)), (a 36, .inl (cI, 8, .inl v_1_2)), (a 37, .inl (cI, 8, .inl v_1_3)), (a 38, .inl (cI, 256, .inl v_1_4)), (a 39, .inl (cI, 256, .inl v_1_5)), (a 40, .inl (cI, 8, .inl v_1_6)), (a 41, .inl (cI, 8, .inl v_1_7)), (a 42, .inl (cI, 8, .inl v_1_8)), (a 29, .inr (1, [.ref (a 30), .ref (a 31), .ref (a 32), .ref (a 33), .int (nI nd)])), (a 30, .inl (cI, 300, .inl fo)), (a 31, .inl (cI, 300, .inl fc)), (a 32, .inl (cI, 300, .inl fs)), (a 33, .inl (cI, 300, .inl fu))]) hP hD [1, 2, 3, 4, 5, 6, 7, 8, 9, 10, 11, 12, 13, 14] [0] rfl rfl (by decide) (by decide) hk1 hFc hP1 hD1
  clear hk1 ht hvm
  generalize H1 = H at hP hS ⊢
  obtain ⟨hP, hD⟩ := zz_ty (D := (dC, dI)) (cl := vwCl) (A := A) (H := H) [(a 0, .inr (7, [.ref (a 1), .ref (a 10), .ref (a 23), .ref (a 24), .ref (a 26), .ref (a 29), .ref (a 34), .ref (a 43), .int (nI nh), .int (nI nf), .int clk, .int hi])), (a 34, .inr (2, [.ref (a 35), .ref (a 36), .ref (a 37), .ref (a 38), .ref (a 39), .ref (a 40), .ref (a 41), .ref (a 42), .int (nI v_1_0)])), (a 35, .inl (cI, 8, .inl v_1_1)), (a 36, .inl (cI, 8, .inl v_1_2)), (a 37, .inl (cI, 8, .inl v_1_3)), (a 38, .inl (cI, 256, .inl v_1_4)), (a 39, .inl (cI, 256, .inl v_1_5)), (a 40, .inl (cI, 8, .inl v_1_6)), (a 41, .inl (cI, 8, .inl v_1_7)), (a 42, .inl (cI, 8, .inl v_1_8)), (a 29, .inr (1, [.ref (a 30), .ref (a 31), .ref (a 32), .ref (a 33), .int (nI nd)])), (a 30, .inl (cI, 300, .inl fo)), (a 31, .inl (cI, 300, .inl fc)), (a 32, .inl (cI, 300, .inl fs)), (a 33, .inl (cI, 300, .inl fu))] hP hD rfl
  refine lv_iload_n hx hb dX7_payment_11 rfl (lv_at hl 1 rfl) ?_
  refine lv_iconst (v := 0) hx hb dX7_payment_12 (by decide) ?_
  refine lv_aload_n hx hb dX7_payment_13 rfl (lv_at hl 0 rfl) ?_
  refine va_get (D := (dC, dI)) (ci := 7) (v := .ref (a 34)) (C := RX7) (T := TX7) (N := 12) hx hb hw zz_inX7 hown hK hP 0 rfl rfl 6 (by decide) (hw _ tw_138) (fun _ h9 => h9) rfl dX7_payment_14 ?_
  refine va_getN (D := (dC, dI)) (ci := 2) (v := .int (nI v_1_0)) (C := RX2) (T := TX2) (N := 9) hx hb hw zz_inX2 hown hK hP 1 rfl rfl 8 (by decide) (hN.use zz_n42) (fun _ h9 => h9) rfl dX7_payment_17 ?_
  refine lv_iconst (v := 1) hx hb dX7_payment_20 (by decide) ?_
  refine lv_isub hx hb dX7_payment_21 ?_
  obtain ⟨hPc, hDc⟩ := zz_sub2 (ws' := []) hP hD [] (by decide) rfl
  have hKc := hK.sub (tys' := []) [] rfl
  have hFc := zz_free0 hS hA
  refine va_calli (va_runS (As := [.int p0, .int 0, .int ((nI v_1_0) - 1)]) (rest := []) ⟨hx, hb, hml, hown, hw⟩ (k_within l dC dI p0 0 ((nI v_1_0) - 1) H.size) ⟨callB_of 3 hw (zz_good tw_1) rfl rfl rfl (hw _ tw_2) (hw _ tw_3) (by decide +kernel) ⟨Nat.le_of_ble_eq_true rfl, Nat.le_of_ble_eq_true rfl⟩, (hw _ tw_4)⟩ ⟨zz_blind, zz_pre hPc hKc hDc hN⟩ rfl rfl hl.1 rfl (lv_room (Nat.le_of_ble_eq_true rfl)) dX7_payment_22 ⟨Nat.le_of_ble_eq_true rfl, Nat.le_of_ble_eq_true rfl⟩) hS (fun q _ h => hFc q h) hFc (fun r_2 u_2 t H1 locs ht hvm e_2 hB hz1 hk1 hS => ?_)
  try dsimp only at e_2
  have hP := zz_keep hP hk1
  clear hk1 hB ht hvm
  generalize H1 = H at hP hS ⊢
  refine lv_if_ne (tgt := 30) hx hb dX7_payment_25 (by decide) (fun c_3 => ?_) (fun c_3 => ?_)
  · have zc_3 := c_3
    rw [e_2, zz_in0, Int32.le_iff_toInt_le, Int32.le_iff_toInt_le] at zc_3
    try rw [show (0 : Int32).toInt = 0 from by decide] at zc_3
    try rw [zz_pred (c := v_1_0) (by omega)] at zc_3
    refine lv_iload_n hx hb dX7_payment_30 rfl (lv_at hl 2 rfl) ?_
    by_cases c_4 : p1 = 0
    · have zc_4 := c_4
      rw [← Int32.toInt_inj] at zc_4
      try rw [show (0 : Int32).toInt = 0 from by decide] at zc_4
      refine lv_tableIn (tgt := 56) hx hb dX7_payment_31 (by rw [c_4]; decide) (by rw [c_4]; decide) (by rw [c_4]; rfl) (by decide) ?_
      refine lv_aload_n hx hb dX7_payment_56 rfl (lv_at hl 0 rfl) ?_
      refine va_get (D := (dC, dI)) (ci := 7) (v := .ref (a 34)) (C := RX7) (T := TX7) (N := 12) hx hb hw zz_inX7 hown hK hP 0 rfl rfl 6 (by decide) (hw _ tw_138) (fun _ h9 => h9) rfl dX7_payment_57 ?_
      refine va_getN (D := (dC, dI)) (ci := 2) (v := .ref (a 40)) (C := RX2) (T := TX2) (N := 9) hx hb hw zz_inX2 hown hK hP 1 rfl rfl 5 (by decide) (hN.use zz_n39) (fun _ h9 => h9) rfl dX7_payment_60 ?_
      refine lv_iload_n hx hb dX7_payment_63 rfl (lv_at hl 1 rfl) ?_
      refine va_iald hx hb hK hP 7 0 rfl rfl (vp_in_iff.mpr (by constructor <;> omega)) dX7_payment_64 ?_
      obtain ⟨hP9, hD9⟩ := zz_sub2 (ws' := [(a 0, .inr (7, [.ref (a 1), .ref (a 10), .ref (a 23), .ref (a 24), .ref (a 26), .ref (a 29), .ref (a 34), .ref (a 43), .int (nI nh), .int (nI nf), .int clk, .int hi])), (a 34, .inr (2, [.ref (a 35), .ref (a 36), .ref (a 37), .ref (a 38), .ref (a 39), .ref (a 40), .ref (a 41), .ref (a 42), .int (nI v_1_0)])), (a 35, .inl (cI, 8, .inl v_1_1)), (a 36, .inl (cI, 8, .inl v_1_2)), (a 37, .inl (cI, 8, .inl v_1_3)), (a 38, .inl (cI, 256, .inl v_1_4)), (a 39, .inl (cI, 256, .inl v_1_5)), (a 40, .inl (cI, 8, .inl v_1_6)), (a 41, .inl (cI, 8, .inl v_1_7)), (a 42, .inl (cI, 8, .inl v_1_8)), (a 29, .inr (1, [.ref (a 30), .ref (a 31), .ref (a 32), .ref (a 33), .int (nI nd)])), (a 30, .inl (cI, 300, .inl fo)), (a 31, .inl (cI, 300, .inl fc)), (a 32, .inl (cI, 300, .inl fs)), (a 33, .inl (cI, 300, .inl fu))]) hP hD [0, 1, 2, 3, 4, 5, 6, 7, 8, 9, 10, 11, 12, 13, 14] (by decide) rfl
      have hK9 := hK.sub (tys' := [(cI, .int)]) [0] rfl
      exact W.iret (v := (v_1_6 (Int32.toNatClampNeg p0))) hx hb hr (fun t ht hW => ⟨⟨(v_1_6 (Int32.toNatClampNeg p0)), (v_1_0, v_1_1, v_1_2, v_1_3, v_1_4, v_1_5, v_1_6, v_1_7, v_1_8), rfl, (by show _ ≤ _; omega), by rw [ht]; exact hP9, va_K.moved hW.alike hK9, hD9⟩, hS.F ht⟩) hS.2.2 dX7_payment_65
    by_cases c_5 : p1 = 1
    · have zc_5 := c_5
      rw [← Int32.toInt_inj] at zc_5
      try rw [show (1 : Int32).toInt = 1 from by decide] at zc_5
      refine lv_tableIn (tgt := 66) hx hb dX7_payment_31 (by rw [c_5]; decide) (by rw [c_5]; decide) (by rw [c_5]; rfl) (by decide) ?_
      refine lv_aload_n hx hb dX7_payment_66 rfl (lv_at hl 0 rfl) ?_
      refine va_get (D := (dC, dI)) (ci := 7) (v := .ref (a 34)) (C := RX7) (T := TX7) (N := 12) hx hb hw zz_inX7 hown hK hP 0 rfl rfl 6 (by decide) (hw _ tw_138) (fun _ h9 => h9) rfl dX7_payment_67 ?_
      refine va_getN (D := (dC, dI)) (ci := 2) (v := .ref (a 41)) (C := RX2) (T := TX2) (N := 9) hx hb hw zz_inX2 hown hK hP 1 rfl rfl 6 (by decide) (hN.use zz_n40) (fun _ h9 => h9) rfl dX7_payment_70 ?_
      refine lv_iload_n hx hb dX7_payment_73 rfl (lv_at hl 1 rfl) ?_
      refine va_iald hx hb hK hP 8 0 rfl rfl (vp_in_iff.mpr (by constructor <;> omega)) dX7_payment_74 ?_
      obtain ⟨hP9, hD9⟩ := zz_sub2 (ws' := [(a 0, .inr (7, [.ref (a 1), .ref (a 10), .ref (a 23), .ref (a 24), .ref (a 26), .ref (a 29), .ref (a 34), .ref (a 43), .int (nI nh), .int (nI nf), .int clk, .int hi])), (a 34, .inr (2, [.ref (a 35), .ref (a 36), .ref (a 37), .ref (a 38), .ref (a 39), .ref (a 40), .ref (a 41), .ref (a 42), .int (nI v_1_0)])), (a 35, .inl (cI, 8, .inl v_1_1)), (a 36, .inl (cI, 8, .inl v_1_2)), (a 37, .inl (cI, 8, .inl v_1_3)), (a 38, .inl (cI, 256, .inl v_1_4)), (a 39, .inl (cI, 256, .inl v_1_5)), (a 40, .inl (cI, 8, .inl v_1_6)), (a 41, .inl (cI, 8, .inl v_1_7)), (a 42, .inl (cI, 8, .inl v_1_8)), (a 29, .inr (1, [.ref (a 30), .ref (a 31), .ref (a 32), .ref (a 33), .int (nI nd)])), (a 30, .inl (cI, 300, .inl fo)), (a 31, .inl (cI, 300, .inl fc)), (a 32, .inl (cI, 300, .inl fs)), (a 33, .inl (cI, 300, .inl fu))]) hP hD [0, 1, 2, 3, 4, 5, 6, 7, 8, 9, 10, 11, 12, 13, 14] (by decide) rfl
      have hK9 := hK.sub (tys' := [(cI, .int)]) [0] rfl
      exact W.iret (v := (v_1_7 (Int32.toNatClampNeg p0))) hx hb hr (fun t ht hW => ⟨⟨(v_1_7 (Int32.toNatClampNeg p0)), (v_1_0, v_1_1, v_1_2, v_1_3, v_1_4, v_1_5, v_1_6, v_1_7, v_1_8), rfl, (by show _ ≤ _; omega), by rw [ht]; exact hP9, va_K.moved hW.alike hK9, hD9⟩, hS.F ht⟩) hS.2.2 dX7_payment_75
    by_cases c_6 : p1 = 2
    · have zc_6 := c_6
      rw [← Int32.toInt_inj] at zc_6
      try rw [show (2 : Int32).toInt = 2 from by decide] at zc_6
      refine lv_tableIn (tgt := 76) hx hb dX7_payment_31 (by rw [c_6]; decide) (by rw [c_6]; decide) (by rw [c_6]; rfl) (by decide) ?_
      refine lv_aload_n hx hb dX7_payment_76 rfl (lv_at hl 0 rfl) ?_
      refine va_get (D := (dC, dI)) (ci := 7) (v := .ref (a 34)) (C := RX7) (T := TX7) (N := 12) hx hb hw zz_inX7 hown hK hP 0 rfl rfl 6 (by decide) (hw _ tw_138) (fun _ h9 => h9) rfl dX7_payment_77 ?_
      refine va_getN (D := (dC, dI)) (ci := 2) (v := .ref (a 42)) (C := RX2) (T := TX2) (N := 9) hx hb hw zz_inX2 hown hK hP 1 rfl rfl 7 (by decide) (hN.use zz_n41) (fun _ h9 => h9) rfl dX7_payment_80 ?_
      refine lv_iload_n hx hb dX7_payment_83 rfl (lv_at hl 1 rfl) ?_
      refine va_iald hx hb hK hP 9 0 rfl rfl (vp_in_iff.mpr (by constructor <;> omega)) dX7_payment_84 ?_
      obtain ⟨hP9, hD9⟩ := zz_sub2 (ws' := [(a 0, .inr (7, [.ref (a 1), .ref (a 10), .ref (a 23), .ref (a 24), .ref (a 26), .ref (a 29), .ref (a 34), .ref (a 43), .int (nI nh), .int (nI nf), .int clk, .int hi])), (a 34, .inr (2, [.ref (a 35), .ref (a 36), .ref (a 37), .ref (a 38), .ref (a 39), .ref (a 40), .ref (a 41), .ref (a 42), .int (nI v_1_0)])), (a 35, .inl (cI, 8, .inl v_1_1)), (a 36, .inl (cI, 8, .inl v_1_2)), (a 37, .inl (cI, 8, .inl v_1_3)), (a 38, .inl (cI, 256, .inl v_1_4)), (a 39, .inl (cI, 256, .inl v_1_5)), (a 40, .inl (cI, 8, .inl v_1_6)), (a 41, .inl (cI, 8, .inl v_1_7)), (a 42, .inl (cI, 8, .inl v_1_8)), (a 29, .inr (1, [.ref (a 30), .ref (a 31), .ref (a 32), .ref (a 33), .int (nI nd)])), (a 30, .inl (cI, 300, .inl fo)), (a 31, .inl (cI, 300, .inl fc)), (a 32, .inl (cI, 300, .inl fs)), (a 33, .inl (cI, 300, .inl fu))]) hP hD [0, 1, 2, 3, 4, 5, 6, 7, 8, 9, 10, 11, 12, 13, 14] (by decide) rfl
      have hK9 := hK.sub (tys' := [(cI, .int)]) [0] rfl
      exact W.iret (v := (v_1_8 (Int32.toNatClampNeg p0))) hx hb hr (fun t ht hW => ⟨⟨(v_1_8 (Int32.toNatClampNeg p0)), (v_1_0, v_1_1, v_1_2, v_1_3, v_1_4, v_1_5, v_1_6, v_1_7, v_1_8), rfl, (by show _ ≤ _; omega), by rw [ht]; exact hP9, va_K.moved hW.alike hK9, hD9⟩, hS.F ht⟩) hS.2.2 dX7_payment_85
    refine lv_tableOut (tgt := 86) hx hb dX7_payment_31 (by have := zz_ne c_4; rw [show (0 : Int32).toInt = 0 from by decide] at this; have := zz_ne c_5; rw [show (1 : Int32).toInt = 1 from by decide] at this; have := zz_ne c_6; rw [show (2 : Int32).toInt = 2 from by decide] at this; omega) (by decide) ?_
    have zc_4 := c_4
    rw [← Int32.toInt_inj] at zc_4
    try rw [show (0 : Int32).toInt = 0 from by decide] at zc_4
    have zc_5 := c_5
    rw [← Int32.toInt_inj] at zc_5
    try rw [show (1 : Int32).toInt = 1 from by decide] at zc_5
    have zc_6 := c_6
    rw [← Int32.toInt_inj] at zc_6
    try rw [show (2 : Int32).toInt = 2 from by decide] at zc_6
    refine lv_iconst (v := (-1)) hx hb dX7_payment_86 (by decide) ?_
    obtain ⟨hP9, hD9⟩ := zz_sub2 (ws' := [(a 0, .inr (7, [.ref (a 1), .ref (a 10), .ref (a 23), .ref (a 24), .ref (a 26), .ref (a 29), .ref (a 34), .ref (a 43), .int (nI nh), .int (nI nf), .int clk, .int hi])), (a 34, .inr (2, [.ref (a 35), .ref (a 36), .ref (a 37), .ref (a 38), .ref (a 39), .ref (a 40), .ref (a 41), .ref (a 42), .int (nI v_1_0)])), (a 35, .inl (cI, 8, .inl v_1_1)), (a 36, .inl (cI, 8, .inl v_1_2)), (a 37, .inl (cI, 8, .inl v_1_3)), (a 38, .inl (cI, 256, .inl v_1_4)), (a 39, .inl (cI, 256, .inl v_1_5)), (a 40, .inl (cI, 8, .inl v_1_6)), (a 41, .inl (cI, 8, .inl v_1_7)), (a 42, .inl (cI, 8, .inl v_1_8)), (a 29, .inr (1, [.ref (a 30), .ref (a 31), .ref (a 32), .ref (a 33), .int (nI nd)])), (a 30, .inl (cI, 300, .inl fo)), (a 31, .inl (cI, 300, .inl fc)), (a 32, .inl (cI, 300, .inl fs)), (a 33, .inl (cI, 300, .inl fu))]) hP hD [0, 1, 2, 3, 4, 5, 6, 7, 8, 9, 10, 11, 12, 13, 14] (by decide) rfl
    have hK9 := hK.sub (tys' := [(cI, .int)]) [0] rfl
    exact W.iret (v := (-1)) hx hb hr (fun t ht hW => ⟨⟨(-1), (v_1_0, v_1_1, v_1_2, v_1_3, v_1_4, v_1_5, v_1_6, v_1_7, v_1_8), rfl, (by show _ ≤ _; omega), by rw [ht]; exact hP9, va_K.moved hW.alike hK9, hD9⟩, hS.F ht⟩) hS.2.2 dX7_payment_87
  · have zc_3 := c_3
    rw [e_2, zz_in0, Int32.le_iff_toInt_le, Int32.le_iff_toInt_le] at zc_3
    try rw [show (0 : Int32).toInt = 0 from by decide] at zc_3
    try rw [zz_pred (c := v_1_0) (by omega)] at zc_3
    refine lv_iconst (v := (-1)) hx hb dX7_payment_28 (by decide) ?_
    obtain ⟨hP9, hD9⟩ := zz_sub2 (ws' := [(a 0, .inr (7, [.ref (a 1), .ref (a 10), .ref (a 23), .ref (a 24), .ref (a 26), .ref (a 29), .ref (a 34), .ref (a 43), .int (nI nh), .int (nI nf), .int clk, .int hi])), (a 34, .inr (2, [.ref (a 35), .ref (a 36), .ref (a 37), .ref (a 38), .ref (a 39), .ref (a 40), .ref (a 41), .ref (a 42), .int (nI v_1_0)])), (a 35, .inl (cI, 8, .inl v_1_1)), (a 36, .inl (cI, 8, .inl v_1_2)), (a 37, .inl (cI, 8, .inl v_1_3)), (a 38, .inl (cI, 256, .inl v_1_4)), (a 39, .inl (cI, 256, .inl v_1_5)), (a 40, .inl (cI, 8, .inl v_1_6)), (a 41, .inl (cI, 8, .inl v_1_7)), (a 42, .inl (cI, 8, .inl v_1_8)), (a 29, .inr (1, [.ref (a 30), .ref (a 31), .ref (a 32), .ref (a 33), .int (nI nd)])), (a 30, .inl (cI, 300, .inl fo)), (a 31, .inl (cI, 300, .inl fc)), (a 32, .inl (cI, 300, .inl fs)), (a 33, .inl (cI, 300, .inl fu))]) hP hD [0, 1, 2, 3, 4, 5, 6, 7, 8, 9, 10, 11, 12, 13, 14] (by decide) rfl
    have hK9 := hK.sub (tys' := [(cI, .int)]) [0] rfl
    exact W.iret (v := (-1)) hx hb hr (fun t ht hW => ⟨⟨(-1), (v_1_0, v_1_1, v_1_2, v_1_3, v_1_4, v_1_5, v_1_6, v_1_7, v_1_8), rfl, (by show _ ≤ _; omega), by rw [ht]; exact hP9, va_K.moved hW.alike hK9, hD9⟩, hS.F ht⟩) hS.2.2 dX7_payment_29
