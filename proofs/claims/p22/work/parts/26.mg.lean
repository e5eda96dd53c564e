theorem tw_273 : Cond.code yX8_drops cX8_drops 3 none ∈ zz_all := zz_m4 190 rfl rfl
theorem tw_274 : Cond.methodLink RX8 247 yX8_drops ∈ zz_all := zz_m4 187 rfl rfl
theorem tw_275 : Cond.instanceMethod yX8_drops ∈ zz_all := zz_m4 189 rfl rfl
theorem tw_276 : Cond.selects RX8 yX8_drops yX8_drops ∈ zz_all := zz_ms 46 rfl rfl
theorem zy_b26mg_0 : decode cX8_goes 0 = .ok (.aload_n 0, 1) ∧ decode cX8_goes 1 = .ok (.dup, 1) ∧ decode cX8_goes 2 = .ok (.getfield 223, 3) ∧ decode cX8_goes 5 = .ok (.iconst 1, 1) ∧ decode cX8_goes 6 = .ok (.iadd, 1) ∧ decode cX8_goes 7 = .ok (.putfield 223, 3) ∧ decode cX8_goes 10 = .ok (.aload_n 0, 1) ∧ decode cX8_goes 11 = .ok (.iconst 0, 1) := by decide +kernel
theorem dX8_goes_0 : decode cX8_goes 0 = .ok (.aload_n 0, 1) := zy_b26mg_0.1
theorem dX8_goes_1 : decode cX8_goes 1 = .ok (.dup, 1) := zy_b26mg_0.2.1
theorem dX8_goes_2 : decode cX8_goes 2 = .ok (.getfield 223, 3) := zy_b26mg_0.2.2.1
theorem dX8_goes_5 : decode cX8_goes 5 = .ok (.iconst 1, 1) := zy_b26mg_0.2.2.2.1
theorem dX8_goes_6 : decode cX8_goes 6 = .ok (.iadd, 1) := zy_b26mg_0.2.2.2.2.1
theorem dX8_goes_7 : decode cX8_goes 7 = .ok (.putfield 223, 3) := zy_b26mg_0.2.2.2.2.2.1
theorem dX8_goes_10 : decode cX8_goes 10 = .ok (.aload_n 0, 1) := zy_b26mg_0.2.2.2.2.2.2.1
theorem dX8_goes_11 : decode cX8_goes 11 = .ok (.iconst 0, 1) := zy_b26mg_0.2.2.2.2.2.2.2
theorem zy_b26mg_1 : decode cX8_goes 12 = .ok (.putfield 254, 3) ∧ decode cX8_goes 15 = .ok (.iconst 0, 1) ∧ decode cX8_goes 16 = .ok (.istore_n 1, 1) ∧ decode cX8_goes 17 = .ok (.iload_n 1, 1) ∧ decode cX8_goes 18 = .ok (.aload_n 0, 1) ∧ decode cX8_goes 19 = .ok (.getfield 115, 3) ∧ decode cX8_goes 22 = .ok (.if_icmp .ge 39, 3) ∧ decode cX8_goes 25 = .ok (.aload_n 0, 1) := by decide +kernel
theorem dX8_goes_12 : decode cX8_goes 12 = .ok (.putfield 254, 3) := zy_b26mg_1.1
theorem dX8_goes_15 : decode cX8_goes 15 = .ok (.iconst 0, 1) := zy_b26mg_1.2.1
theorem dX8_goes_16 : decode cX8_goes 16 = .ok (.istore_n 1, 1) := zy_b26mg_1.2.2.1
theorem dX8_goes_17 : decode cX8_goes 17 = .ok (.iload_n 1, 1) := zy_b26mg_1.2.2.2.1
theorem dX8_goes_18 : decode cX8_goes 18 = .ok (.aload_n 0, 1) := zy_b26mg_1.2.2.2.2.1
theorem dX8_goes_19 : decode cX8_goes 19 = .ok (.getfield 115, 3) := zy_b26mg_1.2.2.2.2.2.1
theorem dX8_goes_22 : decode cX8_goes 22 = .ok (.if_icmp .ge 39, 3) := zy_b26mg_1.2.2.2.2.2.2.1
theorem dX8_goes_25 : decode cX8_goes 25 = .ok (.aload_n 0, 1) := zy_b26mg_1.2.2.2.2.2.2.2
theorem zy_b26mg_2 : decode cX8_goes 26 = .ok (.getfield 37, 3) ∧ decode cX8_goes 29 = .ok (.iload_n 1, 1) ∧ decode cX8_goes 30 = .ok (.dup2, 1) ∧ decode cX8_goes 31 = .ok (.iaload, 1) ∧ decode cX8_goes 32 = .ok (.aload_n 0, 1) ∧ decode cX8_goes 33 = .ok (.getfield 37, 3) ∧ decode cX8_goes 36 = .ok (.iload_n 1, 1) ∧ decode cX8_goes 37 = .ok (.iaload, 1) := by decide +kernel
theorem dX8_goes_26 : decode cX8_goes 26 = .ok (.getfield 37, 3) := zy_b26mg_2.1
theorem dX8_goes_29 : decode cX8_goes 29 = .ok (.iload_n 1, 1) := zy_b26mg_2.2.1
theorem dX8_goes_30 : decode cX8_goes 30 = .ok (.dup2, 1) := zy_b26mg_2.2.2.1
theorem dX8_goes_31 : decode cX8_goes 31 = .ok (.iaload, 1) := zy_b26mg_2.2.2.2.1
theorem dX8_goes_32 : decode cX8_goes 32 = .ok (.aload_n 0, 1) := zy_b26mg_2.2.2.2.2.1
theorem dX8_goes_33 : decode cX8_goes 33 = .ok (.getfield 37, 3) := zy_b26mg_2.2.2.2.2.2.1
theorem dX8_goes_36 : decode cX8_goes 36 = .ok (.iload_n 1, 1) := zy_b26mg_2.2.2.2.2.2.2.1
theorem dX8_goes_37 : decode cX8_goes 37 = .ok (.iaload, 1) := zy_b26mg_2.2.2.2.2.2.2.2
theorem zy_b26mg_3 : decode cX8_goes 38 = .ok (.ifCond .le 7, 3) ∧ decode cX8_goes 41 = .ok (.iconst 1, 1) ∧ decode cX8_goes 42 = .ok (.goto 4, 3) ∧ decode cX8_goes 45 = .ok (.iconst 0, 1) ∧ decode cX8_goes 46 = .ok (.isub, 1) ∧ decode cX8_goes 47 = .ok (.iastore, 1) ∧ decode cX8_goes 48 = .ok (.aload_n 0, 1) ∧ decode cX8_goes 49 = .ok (.getfield 40, 3) := by decide +kernel
theorem dX8_goes_38 : decode cX8_goes 38 = .ok (.ifCond .le 7, 3) := zy_b26mg_3.1
theorem dX8_goes_41 : decode cX8_goes 41 = .ok (.iconst 1, 1) := zy_b26mg_3.2.1
theorem dX8_goes_42 : decode cX8_goes 42 = .ok (.goto 4, 3) := zy_b26mg_3.2.2.1
theorem dX8_goes_45 : decode cX8_goes 45 = .ok (.iconst 0, 1) := zy_b26mg_3.2.2.2.1
theorem dX8_goes_46 : decode cX8_goes 46 = .ok (.isub, 1) := zy_b26mg_3.2.2.2.2.1
theorem dX8_goes_47 : decode cX8_goes 47 = .ok (.iastore, 1) := zy_b26mg_3.2.2.2.2.2.1
theorem dX8_goes_48 : decode cX8_goes 48 = .ok (.aload_n 0, 1) := zy_b26mg_3.2.2.2.2.2.2.1
theorem dX8_goes_49 : decode cX8_goes 49 = .ok (.getfield 40, 3) := zy_b26mg_3.2.2.2.2.2.2.2
theorem zy_b26mg_4 : decode cX8_goes 52 = .ok (.iload_n 1, 1) ∧ decode cX8_goes 53 = .ok (.iconst 0, 1) ∧ decode cX8_goes 54 = .ok (.iastore, 1) ∧ decode cX8_goes 55 = .ok (.iinc 1 1, 3) ∧ decode cX8_goes 58 = .ok (.goto (-41), 3) ∧ decode cX8_goes 61 = .ok (.iconst 0, 1) ∧ decode cX8_goes 62 = .ok (.istore_n 1, 1) ∧ decode cX8_goes 63 = .ok (.iload_n 1, 1) := by decide +kernel
theorem dX8_goes_52 : decode cX8_goes 52 = .ok (.iload_n 1, 1) := zy_b26mg_4.1
theorem dX8_goes_53 : decode cX8_goes 53 = .ok (.iconst 0, 1) := zy_b26mg_4.2.1
theorem dX8_goes_54 : decode cX8_goes 54 = .ok (.iastore, 1) := zy_b26mg_4.2.2.1
theorem dX8_goes_55 : decode cX8_goes 55 = .ok (.iinc 1 1, 3) := zy_b26mg_4.2.2.2.1
theorem dX8_goes_58 : decode cX8_goes 58 = .ok (.goto (-41), 3) := zy_b26mg_4.2.2.2.2.1
theorem dX8_goes_61 : decode cX8_goes 61 = .ok (.iconst 0, 1) := zy_b26mg_4.2.2.2.2.2.1
theorem dX8_goes_62 : decode cX8_goes 62 = .ok (.istore_n 1, 1) := zy_b26mg_4.2.2.2.2.2.2.1
theorem dX8_goes_63 : decode cX8_goes 63 = .ok (.iload_n 1, 1) := zy_b26mg_4.2.2.2.2.2.2.2
theorem zy_b26mg_5 : decode cX8_goes 64 = .ok (.aload_n 0, 1) ∧ decode cX8_goes 65 = .ok (.getfield 230, 3) ∧ decode cX8_goes 68 = .ok (.if_icmp .ge 83, 3) ∧ decode cX8_goes 71 = .ok (.aload_n 0, 1) ∧ decode cX8_goes 72 = .ok (.getfield 28, 3) ∧ decode cX8_goes 75 = .ok (.iconst 3, 1) ∧ decode cX8_goes 76 = .ok (.iaload, 1) ∧ decode cX8_goes 77 = .ok (.aload_n 0, 1) := by decide +kernel
theorem dX8_goes_64 : decode cX8_goes 64 = .ok (.aload_n 0, 1) := zy_b26mg_5.1
theorem dX8_goes_65 : decode cX8_goes 65 = .ok (.getfield 230, 3) := zy_b26mg_5.2.1
theorem dX8_goes_68 : decode cX8_goes 68 = .ok (.if_icmp .ge 83, 3) := zy_b26mg_5.2.2.1
theorem dX8_goes_71 : decode cX8_goes 71 = .ok (.aload_n 0, 1) := zy_b26mg_5.2.2.2.1
theorem dX8_goes_72 : decode cX8_goes 72 = .ok (.getfield 28, 3) := zy_b26mg_5.2.2.2.2.1
theorem dX8_goes_75 : decode cX8_goes 75 = .ok (.iconst 3, 1) := zy_b26mg_5.2.2.2.2.2.1
theorem dX8_goes_76 : decode cX8_goes 76 = .ok (.iaload, 1) := zy_b26mg_5.2.2.2.2.2.2.1
theorem dX8_goes_77 : decode cX8_goes 77 = .ok (.aload_n 0, 1) := zy_b26mg_5.2.2.2.2.2.2.2
theorem zy_b26mg_6 : decode cX8_goes 78 = .ok (.getfield 34, 3) ∧ decode cX8_goes 81 = .ok (.aload_n 0, 1) ∧ decode cX8_goes 82 = .ok (.getfield 79, 3) ∧ decode cX8_goes 85 = .ok (.iload_n 1, 1) ∧ decode cX8_goes 86 = .ok (.iaload, 1) ∧ decode cX8_goes 87 = .ok (.baload, 1) ∧ decode cX8_goes 88 = .ok (.ifCond .eq 12, 3) ∧ decode cX8_goes 91 = .ok (.aload_n 0, 1) := by decide +kernel
theorem dX8_goes_78 : decode cX8_goes 78 = .ok (.getfield 34, 3) := zy_b26mg_6.1
theorem dX8_goes_81 : decode cX8_goes 81 = .ok (.aload_n 0, 1) := zy_b26mg_6.2.1
theorem dX8_goes_82 : decode cX8_goes 82 = .ok (.getfield 79, 3) := zy_b26mg_6.2.2.1
theorem dX8_goes_85 : decode cX8_goes 85 = .ok (.iload_n 1, 1) := zy_b26mg_6.2.2.2.1
theorem dX8_goes_86 : decode cX8_goes 86 = .ok (.iaload, 1) := zy_b26mg_6.2.2.2.2.1
theorem dX8_goes_87 : decode cX8_goes 87 = .ok (.baload, 1) := zy_b26mg_6.2.2.2.2.2.1
theorem dX8_goes_88 : decode cX8_goes 88 = .ok (.ifCond .eq 12, 3) := zy_b26mg_6.2.2.2.2.2.2.1
theorem dX8_goes_91 : decode cX8_goes 91 = .ok (.aload_n 0, 1) := zy_b26mg_6.2.2.2.2.2.2.2
theorem zy_b26mg_7 : decode cX8_goes 92 = .ok (.getfield 28, 3) ∧ decode cX8_goes 95 = .ok (.iconst 4, 1) ∧ decode cX8_goes 96 = .ok (.iaload, 1) ∧ decode cX8_goes 97 = .ok (.goto 4, 3) ∧ decode cX8_goes 100 = .ok (.iconst 0, 1) ∧ decode cX8_goes 101 = .ok (.iadd, 1) ∧ decode cX8_goes 102 = .ok (.istore_n 2, 1) ∧ decode cX8_goes 103 = .ok (.aload_n 0, 1) := by decide +kernel
theorem dX8_goes_92 : decode cX8_goes 92 = .ok (.getfield 28, 3) := zy_b26mg_7.1
theorem dX8_goes_95 : decode cX8_goes 95 = .ok (.iconst 4, 1) := zy_b26mg_7.2.1
theorem dX8_goes_96 : decode cX8_goes 96 = .ok (.iaload, 1) := zy_b26mg_7.2.2.1
theorem dX8_goes_97 : decode cX8_goes 97 = .ok (.goto 4, 3) := zy_b26mg_7.2.2.2.1
theorem dX8_goes_100 : decode cX8_goes 100 = .ok (.iconst 0, 1) := zy_b26mg_7.2.2.2.2.1
theorem dX8_goes_101 : decode cX8_goes 101 = .ok (.iadd, 1) := zy_b26mg_7.2.2.2.2.2.1
theorem dX8_goes_102 : decode cX8_goes 102 = .ok (.istore_n 2, 1) := zy_b26mg_7.2.2.2.2.2.2.1
theorem dX8_goes_103 : decode cX8_goes 103 = .ok (.aload_n 0, 1) := zy_b26mg_7.2.2.2.2.2.2.2
theorem zy_b26mg_8 : decode cX8_goes 104 = .ok (.getfield 223, 3) ∧ decode cX8_goes 107 = .ok (.aload_n 0, 1) ∧ decode cX8_goes 108 = .ok (.getfield 85, 3) ∧ decode cX8_goes 111 = .ok (.iload_n 1, 1) ∧ decode cX8_goes 112 = .ok (.iaload, 1) ∧ decode cX8_goes 113 = .ok (.isub, 1) ∧ decode cX8_goes 114 = .ok (.iload_n 2, 1) ∧ decode cX8_goes 115 = .ok (.if_icmp .le 30, 3) := by decide +kernel
theorem dX8_goes_104 : decode cX8_goes 104 = .ok (.getfield 223, 3) := zy_b26mg_8.1
theorem dX8_goes_107 : decode cX8_goes 107 = .ok (.aload_n 0, 1) := zy_b26mg_8.2.1
theorem dX8_goes_108 : decode cX8_goes 108 = .ok (.getfield 85, 3) := zy_b26mg_8.2.2.1
theorem dX8_goes_111 : decode cX8_goes 111 = .ok (.iload_n 1, 1) := zy_b26mg_8.2.2.2.1
theorem dX8_goes_112 : decode cX8_goes 112 = .ok (.iaload, 1) := zy_b26mg_8.2.2.2.2.1
theorem dX8_goes_113 : decode cX8_goes 113 = .ok (.isub, 1) := zy_b26mg_8.2.2.2.2.2.1
theorem dX8_goes_114 : decode cX8_goes 114 = .ok (.iload_n 2, 1) := zy_b26mg_8.2.2.2.2.2.2.1
theorem dX8_goes_115 : decode cX8_goes 115 = .ok (.if_icmp .le 30, 3) := zy_b26mg_8.2.2.2.2.2.2.2
theorem zy_b26mg_9 : decode cX8_goes 118 = .ok (.aload_n 0, 1) ∧ decode cX8_goes 119 = .ok (.getfield 52, 3) ∧ decode cX8_goes 122 = .ok (.aload_n 0, 1) ∧ decode cX8_goes 123 = .ok (.getfield 79, 3) ∧ decode cX8_goes 126 = .ok (.iload_n 1, 1) ∧ decode cX8_goes 127 = .ok (.iaload, 1) ∧ decode cX8_goes 128 = .ok (.dup2, 1) ∧ decode cX8_goes 129 = .ok (.iaload, 1) := by decide +kernel
theorem dX8_goes_118 : decode cX8_goes 118 = .ok (.aload_n 0, 1) := zy_b26mg_9.1
theorem dX8_goes_119 : decode cX8_goes 119 = .ok (.getfield 52, 3) := zy_b26mg_9.2.1
theorem dX8_goes_122 : decode cX8_goes 122 = .ok (.aload_n 0, 1) := zy_b26mg_9.2.2.1
theorem dX8_goes_123 : decode cX8_goes 123 = .ok (.getfield 79, 3) := zy_b26mg_9.2.2.2.1
theorem dX8_goes_126 : decode cX8_goes 126 = .ok (.iload_n 1, 1) := zy_b26mg_9.2.2.2.2.1
theorem dX8_goes_127 : decode cX8_goes 127 = .ok (.iaload, 1) := zy_b26mg_9.2.2.2.2.2.1
theorem dX8_goes_128 : decode cX8_goes 128 = .ok (.dup2, 1) := zy_b26mg_9.2.2.2.2.2.2.1
theorem dX8_goes_129 : decode cX8_goes 129 = .ok (.iaload, 1) := zy_b26mg_9.2.2.2.2.2.2.2
theorem zy_b26mg_10 : decode cX8_goes 130 = .ok (.aload_n 0, 1) ∧ decode cX8_goes 131 = .ok (.getfield 88, 3) ∧ decode cX8_goes 134 = .ok (.iload_n 1, 1) ∧ decode cX8_goes 135 = .ok (.iaload, 1) ∧ decode cX8_goes 136 = .ok (.iadd, 1) ∧ decode cX8_goes 137 = .ok (.iastore, 1) ∧ decode cX8_goes 138 = .ok (.aload_n 0, 1) ∧ decode cX8_goes 139 = .ok (.getfield 88, 3) := by decide +kernel
theorem dX8_goes_130 : decode cX8_goes 130 = .ok (.aload_n 0, 1) := zy_b26mg_10.1
theorem dX8_goes_131 : decode cX8_goes 131 = .ok (.getfield 88, 3) := zy_b26mg_10.2.1
theorem dX8_goes_134 : decode cX8_goes 134 = .ok (.iload_n 1, 1) := zy_b26mg_10.2.2.1
theorem dX8_goes_135 : decode cX8_goes 135 = .ok (.iaload, 1) := zy_b26mg_10.2.2.2.1
theorem dX8_goes_136 : decode cX8_goes 136 = .ok (.iadd, 1) := zy_b26mg_10.2.2.2.2.1
theorem dX8_goes_137 : decode cX8_goes 137 = .ok (.iastore, 1) := zy_b26mg_10.2.2.2.2.2.1
theorem dX8_goes_138 : decode cX8_goes 138 = .ok (.aload_n 0, 1) := zy_b26mg_10.2.2.2.2.2.2.1
theorem dX8_goes_139 : decode cX8_goes 139 = .ok (.getfield 88, 3) := zy_b26mg_10.2.2.2.2.2.2.2
theorem zy_b26mg_11 : decode cX8_goes 142 = .ok (.iload_n 1, 1) ∧ decode cX8_goes 143 = .ok (.iconst 0, 1) ∧ decode cX8_goes 144 = .ok (.iastore, 1) ∧ decode cX8_goes 145 = .ok (.iinc 1 1, 3) ∧ decode cX8_goes 148 = .ok (.goto (-85), 3) ∧ decode cX8_goes 151 = .ok (.aload_n 0, 1) ∧ decode cX8_goes 152 = .ok (.invokevirtual 247, 3) ∧ decode cX8_goes 155 = .ok (.return_, 1) := by decide +kernel
theorem dX8_goes_142 : decode cX8_goes 142 = .ok (.iload_n 1, 1) := zy_b26mg_11.1
theorem dX8_goes_143 : decode cX8_goes 143 = .ok (.iconst 0, 1) := zy_b26mg_11.2.1
theorem dX8_goes_144 : decode cX8_goes 144 = .ok (.iastore, 1) := zy_b26mg_11.2.2.1
theorem dX8_goes_145 : decode cX8_goes 145 = .ok (.iinc 1 1, 3) := zy_b26mg_11.2.2.2.1
theorem dX8_goes_148 : decode cX8_goes 148 = .ok (.goto (-85), 3) := zy_b26mg_11.2.2.2.2.1
theorem dX8_goes_151 : decode cX8_goes 151 = .ok (.aload_n 0, 1) := zy_b26mg_11.2.2.2.2.2.1
theorem dX8_goes_152 : decode cX8_goes 152 = .ok (.invokevirtual 247, 3) := zy_b26mg_11.2.2.2.2.2.2.1
theorem dX8_goes_155 : decode cX8_goes 155 = .ok (.return_, 1) := zy_b26mg_11.2.2.2.2.2.2.2
