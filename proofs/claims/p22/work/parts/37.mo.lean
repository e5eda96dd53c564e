theorem tw_424 : Cond.code yX8_first cX8_first 5 (some .int) ∈ zz_all := zz_m5 30 rfl rfl
theorem tw_425 : Cond.methodLink RX8 285 yX8_first ∈ zz_all := zz_m5 27 rfl rfl
theorem tw_426 : Cond.instanceMethod yX8_first ∈ zz_all := zz_m5 29 rfl rfl
theorem tw_427 : Cond.selects RX8 yX8_first yX8_first ∈ zz_all := zz_ms 58 rfl rfl
theorem tw_428 : Cond.fieldLink RX8 97 "HandsReturnedModel" "payer" "[I" ∈ zz_all := zz_m3 206 rfl rfl
theorem tw_429 : Cond.fieldLink RX8 276 "HandsReturnedModel" "payments" "I" ∈ zz_all := zz_m3 205 rfl rfl
theorem tw_430 : Cond.fieldLink RX8 100 "HandsReturnedModel" "payee" "[I" ∈ zz_all := zz_m3 207 rfl rfl
theorem tw_431 : Cond.fieldLink RX8 103 "HandsReturnedModel" "sums" "[I" ∈ zz_all := zz_m3 208 rfl rfl
theorem zy_b37mo_0 : decode cX8_evens 0 = .ok (.aload_n 0, 1) ∧ decode cX8_evens 1 = .ok (.iload_n 1, 1) ∧ decode cX8_evens 2 = .ok (.iconst 1, 1) ∧ decode cX8_evens 3 = .ok (.invokevirtual 285, 3) ∧ decode cX8_evens 6 = .ok (.istore_n 2, 1) ∧ decode cX8_evens 7 = .ok (.iload_n 2, 1) ∧ decode cX8_evens 8 = .ok (.ifCond .lt 117, 3) ∧ decode cX8_evens 11 = .ok (.aload_n 0, 1) := by decide +kernel
theorem dX8_evens_0 : decode cX8_evens 0 = .ok (.aload_n 0, 1) := zy_b37mo_0.1
theorem dX8_evens_1 : decode cX8_evens 1 = .ok (.iload_n 1, 1) := zy_b37mo_0.2.1
theorem dX8_evens_2 : decode cX8_evens 2 = .ok (.iconst 1, 1) := zy_b37mo_0.2.2.1
theorem dX8_evens_3 : decode cX8_evens 3 = .ok (.invokevirtual 285, 3) := zy_b37mo_0.2.2.2.1
theorem dX8_evens_6 : decode cX8_evens 6 = .ok (.istore_n 2, 1) := zy_b37mo_0.2.2.2.2.1
theorem dX8_evens_7 : decode cX8_evens 7 = .ok (.iload_n 2, 1) := zy_b37mo_0.2.2.2.2.2.1
theorem dX8_evens_8 : decode cX8_evens 8 = .ok (.ifCond .lt 117, 3) := zy_b37mo_0.2.2.2.2.2.2.1
theorem dX8_evens_11 : decode cX8_evens 11 = .ok (.aload_n 0, 1) := zy_b37mo_0.2.2.2.2.2.2.2
theorem zy_b37mo_1 : decode cX8_evens 12 = .ok (.iload_n 1, 1) ∧ decode cX8_evens 13 = .ok (.iconst 0, 1) ∧ decode cX8_evens 14 = .ok (.invokevirtual 285, 3) ∧ decode cX8_evens 17 = .ok (.istore_n 3, 1) ∧ decode cX8_evens 18 = .ok (.aload_n 0, 1) ∧ decode cX8_evens 19 = .ok (.getfield 91, 3) ∧ decode cX8_evens 22 = .ok (.iload_n 2, 1) ∧ decode cX8_evens 23 = .ok (.iaload, 1) := by decide +kernel
theorem dX8_evens_12 : decode cX8_evens 12 = .ok (.iload_n 1, 1) := zy_b37mo_1.1
theorem dX8_evens_13 : decode cX8_evens 13 = .ok (.iconst 0, 1) := zy_b37mo_1.2.1
theorem dX8_evens_14 : decode cX8_evens 14 = .ok (.invokevirtual 285, 3) := zy_b37mo_1.2.2.1
theorem dX8_evens_17 : decode cX8_evens 17 = .ok (.istore_n 3, 1) := zy_b37mo_1.2.2.2.1
theorem dX8_evens_18 : decode cX8_evens 18 = .ok (.aload_n 0, 1) := zy_b37mo_1.2.2.2.2.1
theorem dX8_evens_19 : decode cX8_evens 19 = .ok (.getfield 91, 3) := zy_b37mo_1.2.2.2.2.2.1
theorem dX8_evens_22 : decode cX8_evens 22 = .ok (.iload_n 2, 1) := zy_b37mo_1.2.2.2.2.2.2.1
theorem dX8_evens_23 : decode cX8_evens 23 = .ok (.iaload, 1) := zy_b37mo_1.2.2.2.2.2.2.2
theorem zy_b37mo_2 : decode cX8_evens 24 = .ok (.ineg, 1) ∧ decode cX8_evens 25 = .ok (.aload_n 0, 1) ∧ decode cX8_evens 26 = .ok (.getfield 91, 3) ∧ decode cX8_evens 29 = .ok (.iload_n 3, 1) ∧ decode cX8_evens 30 = .ok (.iaload, 1) ∧ decode cX8_evens 31 = .ok (.if_icmp .ge 13, 3) ∧ decode cX8_evens 34 = .ok (.aload_n 0, 1) ∧ decode cX8_evens 35 = .ok (.getfield 91, 3) := by decide +kernel
theorem dX8_evens_24 : decode cX8_evens 24 = .ok (.ineg, 1) := zy_b37mo_2.1
theorem dX8_evens_25 : decode cX8_evens 25 = .ok (.aload_n 0, 1) := zy_b37mo_2.2.1
theorem dX8_evens_26 : decode cX8_evens 26 = .ok (.getfield 91, 3) := zy_b37mo_2.2.2.1
theorem dX8_evens_29 : decode cX8_evens 29 = .ok (.iload_n 3, 1) := zy_b37mo_2.2.2.2.1
theorem dX8_evens_30 : decode cX8_evens 30 = .ok (.iaload, 1) := zy_b37mo_2.2.2.2.2.1
theorem dX8_evens_31 : decode cX8_evens 31 = .ok (.if_icmp .ge 13, 3) := zy_b37mo_2.2.2.2.2.2.1
theorem dX8_evens_34 : decode cX8_evens 34 = .ok (.aload_n 0, 1) := zy_b37mo_2.2.2.2.2.2.2.1
theorem dX8_evens_35 : decode cX8_evens 35 = .ok (.getfield 91, 3) := zy_b37mo_2.2.2.2.2.2.2.2
theorem zy_b37mo_3 : decode cX8_evens 38 = .ok (.iload_n 2, 1) ∧ decode cX8_evens 39 = .ok (.iaload, 1) ∧ decode cX8_evens 40 = .ok (.ineg, 1) ∧ decode cX8_evens 41 = .ok (.goto 9, 3) ∧ decode cX8_evens 44 = .ok (.aload_n 0, 1) ∧ decode cX8_evens 45 = .ok (.getfield 91, 3) ∧ decode cX8_evens 48 = .ok (.iload_n 3, 1) ∧ decode cX8_evens 49 = .ok (.iaload, 1) := by decide +kernel
theorem dX8_evens_38 : decode cX8_evens 38 = .ok (.iload_n 2, 1) := zy_b37mo_3.1
theorem dX8_evens_39 : decode cX8_evens 39 = .ok (.iaload, 1) := zy_b37mo_3.2.1
theorem dX8_evens_40 : decode cX8_evens 40 = .ok (.ineg, 1) := zy_b37mo_3.2.2.1
theorem dX8_evens_41 : decode cX8_evens 41 = .ok (.goto 9, 3) := zy_b37mo_3.2.2.2.1
theorem dX8_evens_44 : decode cX8_evens 44 = .ok (.aload_n 0, 1) := zy_b37mo_3.2.2.2.2.1
theorem dX8_evens_45 : decode cX8_evens 45 = .ok (.getfield 91, 3) := zy_b37mo_3.2.2.2.2.2.1
theorem dX8_evens_48 : decode cX8_evens 48 = .ok (.iload_n 3, 1) := zy_b37mo_3.2.2.2.2.2.2.1
theorem dX8_evens_49 : decode cX8_evens 49 = .ok (.iaload, 1) := zy_b37mo_3.2.2.2.2.2.2.2
theorem zy_b37mo_4 : decode cX8_evens 50 = .ok (.istore 4, 2) ∧ decode cX8_evens 52 = .ok (.aload_n 0, 1) ∧ decode cX8_evens 53 = .ok (.getfield 97, 3) ∧ decode cX8_evens 56 = .ok (.aload_n 0, 1) ∧ decode cX8_evens 57 = .ok (.getfield 276, 3) ∧ decode cX8_evens 60 = .ok (.iload_n 2, 1) ∧ decode cX8_evens 61 = .ok (.iastore, 1) ∧ decode cX8_evens 62 = .ok (.aload_n 0, 1) := by decide +kernel
theorem dX8_evens_50 : decode cX8_evens 50 = .ok (.istore 4, 2) := zy_b37mo_4.1
theorem dX8_evens_52 : decode cX8_evens 52 = .ok (.aload_n 0, 1) := zy_b37mo_4.2.1
theorem dX8_evens_53 : decode cX8_evens 53 = .ok (.getfield 97, 3) := zy_b37mo_4.2.2.1
theorem dX8_evens_56 : decode cX8_evens 56 = .ok (.aload_n 0, 1) := zy_b37mo_4.2.2.2.1
theorem dX8_evens_57 : decode cX8_evens 57 = .ok (.getfield 276, 3) := zy_b37mo_4.2.2.2.2.1
theorem dX8_evens_60 : decode cX8_evens 60 = .ok (.iload_n 2, 1) := zy_b37mo_4.2.2.2.2.2.1
theorem dX8_evens_61 : decode cX8_evens 61 = .ok (.iastore, 1) := zy_b37mo_4.2.2.2.2.2.2.1
theorem dX8_evens_62 : decode cX8_evens 62 = .ok (.aload_n 0, 1) := zy_b37mo_4.2.2.2.2.2.2.2
theorem zy_b37mo_5 : decode cX8_evens 63 = .ok (.getfield 100, 3) ∧ decode cX8_evens 66 = .ok (.aload_n 0, 1) ∧ decode cX8_evens 67 = .ok (.getfield 276, 3) ∧ decode cX8_evens 70 = .ok (.iload_n 3, 1) ∧ decode cX8_evens 71 = .ok (.iastore, 1) ∧ decode cX8_evens 72 = .ok (.aload_n 0, 1) ∧ decode cX8_evens 73 = .ok (.getfield 103, 3) ∧ decode cX8_evens 76 = .ok (.aload_n 0, 1) := by decide +kernel
theorem dX8_evens_63 : decode cX8_evens 63 = .ok (.getfield 100, 3) := zy_b37mo_5.1
theorem dX8_evens_66 : decode cX8_evens 66 = .ok (.aload_n 0, 1) := zy_b37mo_5.2.1
theorem dX8_evens_67 : decode cX8_evens 67 = .ok (.getfield 276, 3) := zy_b37mo_5.2.2.1
theorem dX8_evens_70 : decode cX8_evens 70 = .ok (.iload_n 3, 1) := zy_b37mo_5.2.2.2.1
theorem dX8_evens_71 : decode cX8_evens 71 = .ok (.iastore, 1) := zy_b37mo_5.2.2.2.2.1
theorem dX8_evens_72 : decode cX8_evens 72 = .ok (.aload_n 0, 1) := zy_b37mo_5.2.2.2.2.2.1
theorem dX8_evens_73 : decode cX8_evens 73 = .ok (.getfield 103, 3) := zy_b37mo_5.2.2.2.2.2.2.1
theorem dX8_evens_76 : decode cX8_evens 76 = .ok (.aload_n 0, 1) := zy_b37mo_5.2.2.2.2.2.2.2
theorem zy_b37mo_6 : decode cX8_evens 77 = .ok (.getfield 276, 3) ∧ decode cX8_evens 80 = .ok (.iload 4, 2) ∧ decode cX8_evens 82 = .ok (.iastore, 1) ∧ decode cX8_evens 83 = .ok (.aload_n 0, 1) ∧ decode cX8_evens 84 = .ok (.dup, 1) ∧ decode cX8_evens 85 = .ok (.getfield 276, 3) ∧ decode cX8_evens 88 = .ok (.iconst 1, 1) ∧ decode cX8_evens 89 = .ok (.iadd, 1) := by decide +kernel
theorem dX8_evens_77 : decode cX8_evens 77 = .ok (.getfield 276, 3) := zy_b37mo_6.1
theorem dX8_evens_80 : decode cX8_evens 80 = .ok (.iload 4, 2) := zy_b37mo_6.2.1
theorem dX8_evens_82 : decode cX8_evens 82 = .ok (.iastore, 1) := zy_b37mo_6.2.2.1
theorem dX8_evens_83 : decode cX8_evens 83 = .ok (.aload_n 0, 1) := zy_b37mo_6.2.2.2.1
theorem dX8_evens_84 : decode cX8_evens 84 = .ok (.dup, 1) := zy_b37mo_6.2.2.2.2.1
theorem dX8_evens_85 : decode cX8_evens 85 = .ok (.getfield 276, 3) := zy_b37mo_6.2.2.2.2.2.1
theorem dX8_evens_88 : decode cX8_evens 88 = .ok (.iconst 1, 1) := zy_b37mo_6.2.2.2.2.2.2.1
theorem dX8_evens_89 : decode cX8_evens 89 = .ok (.iadd, 1) := zy_b37mo_6.2.2.2.2.2.2.2
theorem zy_b37mo_7 : decode cX8_evens 90 = .ok (.putfield 276, 3) ∧ decode cX8_evens 93 = .ok (.aload_n 0, 1) ∧ decode cX8_evens 94 = .ok (.getfield 91, 3) ∧ decode cX8_evens 97 = .ok (.iload_n 2, 1) ∧ decode cX8_evens 98 = .ok (.dup2, 1) ∧ decode cX8_evens 99 = .ok (.iaload, 1) ∧ decode cX8_evens 100 = .ok (.iload 4, 2) ∧ decode cX8_evens 102 = .ok (.iadd, 1) := by decide +kernel
theorem dX8_evens_90 : decode cX8_evens 90 = .ok (.putfield 276, 3) := zy_b37mo_7.1
theorem dX8_evens_93 : decode cX8_evens 93 = .ok (.aload_n 0, 1) := zy_b37mo_7.2.1
theorem dX8_evens_94 : decode cX8_evens 94 = .ok (.getfield 91, 3) := zy_b37mo_7.2.2.1
theorem dX8_evens_97 : decode cX8_evens 97 = .ok (.iload_n 2, 1) := zy_b37mo_7.2.2.2.1
theorem dX8_evens_98 : decode cX8_evens 98 = .ok (.dup2, 1) := zy_b37mo_7.2.2.2.2.1
theorem dX8_evens_99 : decode cX8_evens 99 = .ok (.iaload, 1) := zy_b37mo_7.2.2.2.2.2.1
theorem dX8_evens_100 : decode cX8_evens 100 = .ok (.iload 4, 2) := zy_b37mo_7.2.2.2.2.2.2.1
theorem dX8_evens_102 : decode cX8_evens 102 = .ok (.iadd, 1) := zy_b37mo_7.2.2.2.2.2.2.2
theorem zy_b37mo_8 : decode cX8_evens 103 = .ok (.iastore, 1) ∧ decode cX8_evens 104 = .ok (.aload_n 0, 1) ∧ decode cX8_evens 105 = .ok (.getfield 91, 3) ∧ decode cX8_evens 108 = .ok (.iload_n 3, 1) ∧ decode cX8_evens 109 = .ok (.dup2, 1) ∧ decode cX8_evens 110 = .ok (.iaload, 1) ∧ decode cX8_evens 111 = .ok (.iload 4, 2) ∧ decode cX8_evens 113 = .ok (.isub, 1) := by decide +kernel
theorem dX8_evens_103 : decode cX8_evens 103 = .ok (.iastore, 1) := zy_b37mo_8.1
theorem dX8_evens_104 : decode cX8_evens 104 = .ok (.aload_n 0, 1) := zy_b37mo_8.2.1
theorem dX8_evens_105 : decode cX8_evens 105 = .ok (.getfield 91, 3) := zy_b37mo_8.2.2.1
theorem dX8_evens_108 : decode cX8_evens 108 = .ok (.iload_n 3, 1) := zy_b37mo_8.2.2.2.1
theorem dX8_evens_109 : decode cX8_evens 109 = .ok (.dup2, 1) := zy_b37mo_8.2.2.2.2.1
theorem dX8_evens_110 : decode cX8_evens 110 = .ok (.iaload, 1) := zy_b37mo_8.2.2.2.2.2.1
theorem dX8_evens_111 : decode cX8_evens 111 = .ok (.iload 4, 2) := zy_b37mo_8.2.2.2.2.2.2.1
theorem dX8_evens_113 : decode cX8_evens 113 = .ok (.isub, 1) := zy_b37mo_8.2.2.2.2.2.2.2
theorem zy_b37mo_9 : decode cX8_evens 114 = .ok (.iastore, 1) ∧ decode cX8_evens 115 = .ok (.aload_n 0, 1) ∧ decode cX8_evens 116 = .ok (.iload_n 1, 1) ∧ decode cX8_evens 117 = .ok (.iconst 1, 1) ∧ decode cX8_evens 118 = .ok (.invokevirtual 285, 3) ∧ decode cX8_evens 121 = .ok (.istore_n 2, 1) ∧ decode cX8_evens 122 = .ok (.goto (-115), 3) ∧ decode cX8_evens 125 = .ok (.return_, 1) := by decide +kernel
theorem dX8_evens_114 : decode cX8_evens 114 = .ok (.iastore, 1) := zy_b37mo_9.1
theorem dX8_evens_115 : decode cX8_evens 115 = .ok (.aload_n 0, 1) := zy_b37mo_9.2.1
theorem dX8_evens_116 : decode cX8_evens 116 = .ok (.iload_n 1, 1) := zy_b37mo_9.2.2.1
theorem dX8_evens_117 : decode cX8_evens 117 = .ok (.iconst 1, 1) := zy_b37mo_9.2.2.2.1
theorem dX8_evens_118 : decode cX8_evens 118 = .ok (.invokevirtual 285, 3) := zy_b37mo_9.2.2.2.2.1
theorem dX8_evens_121 : decode cX8_evens 121 = .ok (.istore_n 2, 1) := zy_b37mo_9.2.2.2.2.2.1
theorem dX8_evens_122 : decode cX8_evens 122 = .ok (.goto (-115), 3) := zy_b37mo_9.2.2.2.2.2.2.1
theorem dX8_evens_125 : decode cX8_evens 125 = .ok (.return_, 1) := zy_b37mo_9.2.2.2.2.2.2.2
set_option maxHeartbeats 4000000 in
set_option maxRecDepth 100000 in
theorem m_evens (l : Launch) (dC : Nat → ClassId) (dI : Nat → Nat → Nat) (b : Nat → Nat) (gg : Nat → Int32) (mt : Nat) (mc : Nat) (mh : Nat) (mf : Nat) (md : Nat) (pn : Nat) (cI : ClassId) (nz : Nat → Int32) (y1 : Nat → Int32) (y2 : Nat → Int32) (y3 : Nat → Int32) (sx : Nat) (sz : Nat) (hmh : mh ≤ 8) (hsx : sx < 256) (hz : zz_is nz sx mh = 0) (hrz : zz_rg nz mh (-930000000) 930000000) (hcz : pn + zz_cn nz mh ≤ 8) : Met l yX8_evens (zz_w yX8_evens cX8_evens 5 none) ({ frames := 1, cells := 0, slots := 0, locals := 24 }) (va_Pc [.ref (b 0), .int (nI sx)] (zz_B (dC, dI) sz [(b 0, .inr (8, [.ref (b 1), .int (nI mt), .int (gg 2), .int (gg 3), .int (gg 4), .int (gg 5), .int (gg 6), .int (gg 7), .int (gg 8), .int (gg 9), .ref (b 11), .ref (b 12), .ref (b 13), .int (nI mc), .int (nI mh), .ref (b 16), .ref (b 17), .ref (b 18), .ref (b 19), .ref (b 20), .ref (b 21), .ref (b 22), .ref (b 23), .ref (b 24), .int (nI mf), .ref (b 26), .ref (b 27), .ref (b 28), .ref (b 29), .ref (b 30), .ref (b 31), .ref (b 32), .int (gg 32), .int (nI md), .ref (b 35), .ref (b 36), .ref (b 37), .ref (b 38), .ref (b 39), .ref (b 40), .int (nI pn), .ref (b 42), .ref (b 43), .ref (b 44), .int (gg 44), .ref (b 46), .ref (b 47), .int (gg 47), .ref (b 49)])), (b 39, .inl (cI, 8, .inl nz)), (b 42, .inl (cI, 8, .inl y1)), (b 43, .inl (cI, 8, .inl y2)), (b 44, .inl (cI, 8, .inl y3))] [(cI, .int)])) (va_Qv (fun (u : Nat × (Nat → Int32) × (Nat → Int32) × (Nat → Int32) × (Nat → Int32)) => match u with | (n2, g2, _, _, _) => n2 + zz_cn g2 mh ≤ 8 ∧ (∀ h : Nat, h < mh → sx.testBit h = true → g2 h = 0) ∧ (∀ h : Nat, sx.testBit h = false → g2 h = nz h) ∧ zz_rg g2 mh (-930000000) 930000000) (fun (u : Nat × (Nat → Int32) × (Nat → Int32) × (Nat → Int32) × (Nat → Int32)) (t : State) => match u with | (u0, u1, u2, u3, u4) => va_P (dC, dI) vwCl [(b 0, .inr (8, [.ref (b 1), .int (nI mt), .int (gg 2), .int (gg 3), .int (gg 4), .int (gg 5), .int (gg 6), .int (gg 7), .int (gg 8), .int (gg 9), .ref (b 11), .ref (b 12), .ref (b 13), .int (nI mc), .int (nI mh), .ref (b 16), .ref (b 17), .ref (b 18), .ref (b 19), .ref (b 20), .ref (b 21), .ref (b 22), .ref (b 23), .ref (b 24), .int (nI mf), .ref (b 26), .ref (b 27), .ref (b 28), .ref (b 29), .ref (b 30), .ref (b 31), .ref (b 32), .int (gg 32), .int (nI md), .ref (b 35), .ref (b 36), .ref (b 37), .ref (b 38), .ref (b 39), .ref (b 40), .int (nI u0), .ref (b 42), .ref (b 43), .ref (b 44), .int (gg 44), .ref (b 46), .ref (b 47), .int (gg 47), .ref (b 49)])), (b 39, .inl (cI, 8, .inl u1)), (b 42, .inl (cI, 8, .inl u2)), (b 43, .inl (cI, 8, .inl u3)), (b 44, .inl (cI, 8, .inl u4))] t.heap ∧ va_K (dC, dI) vwCl [(cI, .int)] t ∧ va_D (va_A [(b 0, .inr (8, [.ref (b 1), .int (nI mt), .int (gg 2), .int (gg 3), .int (gg 4), .int (gg 5), .int (gg 6), .int (gg 7), .int (gg 8), .int (gg 9), .ref (b 11), .ref (b 12), .ref (b 13), .int (nI mc), .int (nI mh), .ref (b 16), .ref (b 17), .ref (b 18), .ref (b 19), .ref (b 20), .ref (b 21), .ref (b 22), .ref (b 23), .ref (b 24), .int (nI mf), .ref (b 26), .ref (b 27), .ref (b 28), .ref (b 29), .ref (b 30), .ref (b 31), .ref (b 32), .int (gg 32), .int (nI md), .ref (b 35), .ref (b 36), .ref (b 37), .ref (b 38), .ref (b 39), .ref (b 40), .int (nI pn), .ref (b 42), .ref (b 43), .ref (b 44), .int (gg 44), .ref (b 46), .ref (b 47), .int (gg 47), .ref (b 49)])), (b 39, .inl (cI, 8, .inl nz)), (b 42, .inl (cI, 8, .inl y1)), (b 43, .inl (cI, 8, .inl y2)), (b 44, .inl (cI, 8, .inl y3))] sz) [(b 0, .inr (8, [.ref (b 1), .int (nI mt), .int (gg 2), .int (gg 3), .int (gg 4), .int (gg 5), .int (gg 6), .int (gg 7), .int (gg 8), .int (gg 9), .ref (b 11), .ref (b 12), .ref (b 13), .int (nI mc), .int (nI mh), .ref (b 16), .ref (b 17), .ref (b 18), .ref (b 19), .ref (b 20), .ref (b 21), .ref (b 22), .ref (b 23), .ref (b 24), .int (nI mf), .ref (b 26), .ref (b 27), .ref (b 28), .ref (b 29), .ref (b 30), .ref (b 31), .ref (b 32), .int (gg 32), .int (nI md), .ref (b 35), .ref (b 36), .ref (b 37), .ref (b 38), .ref (b 39), .ref (b 40), .int (nI u0), .ref (b 42), .ref (b 43), .ref (b 44), .int (gg 44), .ref (b 46), .ref (b 47), .int (gg 47), .ref (b 49)])), (b 39, .inl (cI, 8, .inl u1)), (b 42, .inl (cI, 8, .inl u2)), (b 43, .inl (cI, 8, .inl u3)), (b 44, .inl (cI, 8, .inl u4))]) (va_A [(b 0, .inr (8, [.ref (b 1), .int (nI mt), .int (gg 2), .int (gg 3), .int (gg 4), .int (gg 5), .int (gg 6), .int (gg 7), .int (gg 8), .int (gg 9), .ref (b 11), .ref (b 12), .ref (b 13), .int (nI mc), .int (nI mh), .ref (b 16), .ref (b 17), .ref (b 18), .ref (b 19), .ref (b 20), .ref (b 21), .ref (b 22), .ref (b 23), .ref (b 24), .int (nI mf), .ref (b 26), .ref (b 27), .ref (b 28), .ref (b 29), .ref (b 30), .ref (b 31), .ref (b 32), .int (gg 32), .int (nI md), .ref (b 35), .ref (b 36), .ref (b 37), .ref (b 38), .ref (b 39), .ref (b 40), .int (nI pn), .ref (b 42), .ref (b 43), .ref (b 44), .int (gg 44), .ref (b 46), .ref (b 47), .int (gg 47), .ref (b 49)])), (b 39, .inl (cI, 8, .inl nz)), (b 42, .inl (cI, 8, .inl y1)), (b 43, .inl (cI, 8, .inl y2)), (b 44, .inl (cI, 8, .inl y3))] sz)) 0 0 (va_A [(b 0, .inr (8, [.ref (b 1), .int (nI mt), .int (gg 2), .int (gg 3), .int (gg 4), .int (gg 5), .int (gg 6), .int (gg 7), .int (gg 8), .int (gg 9), .ref (b 11), .ref (b 12), .ref (b 13), .int (nI mc), .int (nI mh), .ref (b 16), .ref (b 17), .ref (b 18), .ref (b 19), .ref (b 20), .ref (b 21), .ref (b 22), .ref (b 23), .ref (b 24), .int (nI mf), .ref (b 26), .ref (b 27), .ref (b 28), .ref (b 29), .ref (b 30), .ref (b 31), .ref (b 32), .int (gg 32), .int (nI md), .ref (b 35), .ref (b 36), .ref (b 37), .ref (b 38), .ref (b 39), .ref (b 40), .int (nI pn), .ref (b 42), .ref (b 43), .ref (b 44), .int (gg 44), .ref (b 46), .ref (b 47), .int (gg 47), .ref (b 49)])), (b 39, .inl (cI, 8, .inl nz)), (b 42, .inl (cI, 8, .inl y1)), (b 43, .inl (cI, 8, .inl y2)), (b 44, .inl (cI, 8, .inl y3))] sz) := by
  refine Met.ofW (cc := cX8_evens) (maxL := 5) (ret := none) (by decide) rfl ?_
  intro p e s m args below meth c s₁ B hml hv
  obtain ⟨rfl, hsz, hP, hK, hD0, hN⟩ := hv
  have hx := B.exec
  have hb := B.bytes
  have hr := B.returns
  have hts := atoms_spec (ws := zz_w yX8_evens cX8_evens 5 none) B.pre
  have hw : ∀ w ∈ zz_all, w.before _ s = true := fun w h => hts w (List.mem_cons_of_mem _ h)
  have hown : s.vm.findClass RX8 = some m.cls := findClass_of_methodNamed B.named
  have hlocks := B.notSynchronized
  subst hsz
  have hD := hD0.self (sz := s.heap.size)
  generalize hAe : va_A [(b 0, .inr (8, [.ref (b 1), .int (nI mt), .int (gg 2), .int (gg 3), .int (gg 4), .int (gg 5), .int (gg 6), .int (gg 7), .int (gg 8), .int (gg 9), .ref (b 11), .ref (b 12), .ref (b 13), .int (nI mc), .int (nI mh), .ref (b 16), .ref (b 17), .ref (b 18), .ref (b 19), .ref (b 20), .ref (b 21), .ref (b 22), .ref (b 23), .ref (b 24), .int (nI mf), .ref (b 26), .ref (b 27), .ref (b 28), .ref (b 29), .ref (b 30), .ref (b 31), .ref (b 32), .int (gg 32), .int (nI md), .ref (b 35), .ref (b 36), .ref (b 37), .ref (b 38), .ref (b 39), .ref (b 40), .int (nI pn), .ref (b 42), .ref (b 43), .ref (b 44), .int (gg 44), .ref (b 46), .ref (b 47), .int (gg 47), .ref (b 49)])), (b 39, .inl (cI, 8, .inl nz)), (b 42, .inl (cI, 8, .inl y1)), (b 43, .inl (cI, 8, .inl y2)), (b 44, .inl (cI, 8, .inl y3))] s.heap.size = A at hD ⊢
  have hA : ∀ q : Nat, s.heap.size ≤ q → A q := fun q h => by rw [← hAe]; exact Or.inr h
  have hS : va_S A s.heap s.heap [] := va_S.rf
  have hP : va_P (dC, dI) vwCl [(b 0, .inr (8, [.ref (b 1), .int (nI mt), .int (gg 2), .int (gg 3), .int (gg 4), .int (gg 5), .int (gg 6), .int (gg 7), .int (gg 8), .int (gg 9), .ref (b 11), .ref (b 12), .ref (b 13), .int (nI mc), .int (nI mh), .ref (b 16), .ref (b 17), .ref (b 18), .ref (b 19), .ref (b 20), .ref (b 21), .ref (b 22), .ref (b 23), .ref (b 24), .int (nI mf), .ref (b 26), .ref (b 27), .ref (b 28), .ref (b 29), .ref (b 30), .ref (b 31), .ref (b 32), .int (gg 32), .int (nI md), .ref (b 35), .ref (b 36), .ref (b 37), .ref (b 38), .ref (b 39), .ref (b 40), .int (nI pn), .ref (b 42), .ref (b 43), .ref (b 44), .int (gg 44), .ref (b 46), .ref (b 47), .int (gg 47), .ref (b 49)])), (b 39, .inl (cI, 8, .inl nz)), (b 42, .inl (cI, 8, .inl y1)), (b 43, .inl (cI, 8, .inl y2)), (b 44, .inl (cI, 8, .inl y3))] s.heap := hP
  have hl := lv_entry ([.ref (b 0), .int (nI sx)]) (n := 5) (Nat.le_of_ble_eq_true rfl)
  rw [lg_entry_eq]
  generalize (lg_sl ([.ref (b 0), .int (nI sx)]) ++ List.replicate (5 - (lg_sl ([.ref (b 0), .int (nI sx)])).length) Slot.unset).toArray = ls at hl ⊢
  have hl : lv_has ls 5 [(0, .ref (b 0)), (1, .int (nI sx))] := hl
  refine lv_aload_n hx hb dX8_evens_0 rfl (lv_at hl 0 rfl) ?_
  refine lv_iload_n hx hb dX8_evens_1 rfl (lv_at hl 1 rfl) ?_
  refine lv_iconst (v := 1) hx hb dX8_evens_2 (by decide) ?_
  obtain ⟨hPc, hDc⟩ := zz_sub2 (ws' := [(b 0, .inr (8, [.ref (b 1), .int (nI mt), .int (gg 2), .int (gg 3), .int (gg 4), .int (gg 5), .int (gg 6), .int (gg 7), .int (gg 8), .int (gg 9), .ref (b 11), .ref (b 12), .ref (b 13), .int (nI mc), .int (nI mh), .ref (b 16), .ref (b 17), .ref (b 18), .ref (b 19), .ref (b 20), .ref (b 21), .ref (b 22), .ref (b 23), .ref (b 24), .int (nI mf), .ref (b 26), .ref (b 27), .ref (b 28), .ref (b 29), .ref (b 30), .ref (b 31), .ref (b 32), .int (gg 32), .int (nI md), .ref (b 35), .ref (b 36), .ref (b 37), .ref (b 38), .ref (b 39), .ref (b 40), .int (nI pn), .ref (b 42), .ref (b 43), .ref (b 44), .int (gg 44), .ref (b 46), .ref (b 47), .int (gg 47), .ref (b 49)])), (b 39, .inl (cI, 8, .inl nz))]) hP hD [0, 1] (by decide) rfl
  have hKc := hK.sub (tys' := [(cI, .int)]) [0] rfl
  have hFc := zz_free0 hS hA
  refine va_calli (va_runV (As := [.int (nI sx), .int 1]) (rest := []) ⟨hx, hb, hml, hown, hw⟩ (m_firstB l dC dI b gg mt mc mh mf md pn cI nz sx s.heap.size (by omega) (by omega)) ⟨callB_of 2 hw (zz_good tw_424) rfl rfl rfl (hw _ tw_184) (hw _ tw_425) (by decide +kernel) ⟨Nat.le_of_ble_eq_true rfl, Nat.le_of_ble_eq_true rfl⟩, (hw _ tw_426), (hw _ tw_427)⟩ ⟨zz_blind, va_recv hKc hPc (ci := 8) (q0 := 0) rfl rfl, zz_pre hPc hKc hDc hN⟩ rfl rfl hl.1 rfl (lv_room (Nat.le_of_ble_eq_true rfl)) dX8_evens_3 ⟨Nat.le_of_ble_eq_true rfl, Nat.le_of_ble_eq_true rfl⟩) hS (fun q _ h => hFc q h) hFc (fun r_1 u_1 t H1 locs ht hvm e_1 hB hz1 hk1 hS => ?_)
  try dsimp only at e_1
  have hP := zz_keep hP hk1
  clear hk1 hB ht hvm
  generalize H1 = H at hP hS ⊢
  refine lv_istore_n (lv' := [(2, .int r_1), (0, .ref (b 0)), (1, .int (nI sx))]) hx hb dX8_evens_6 rfl hl (by decide) rfl (fun ls hl => ?_)
  refine zz_loopS (fun (u : (Int32) × (Nat) × (Nat → Int32) × (Nat → Int32) × (Nat → Int32) × (Nat → Int32)) => match u with | (av, pm, gz, z1, z2, z3) => [(b 0, .inr (8, [.ref (b 1), .int (nI mt), .int (gg 2), .int (gg 3), .int (gg 4), .int (gg 5), .int (gg 6), .int (gg 7), .int (gg 8), .int (gg 9), .ref (b 11), .ref (b 12), .ref (b 13), .int (nI mc), .int (nI mh), .ref (b 16), .ref (b 17), .ref (b 18), .ref (b 19), .ref (b 20), .ref (b 21), .ref (b 22), .ref (b 23), .ref (b 24), .int (nI mf), .ref (b 26), .ref (b 27), .ref (b 28), .ref (b 29), .ref (b 30), .ref (b 31), .ref (b 32), .int (gg 32), .int (nI md), .ref (b 35), .ref (b 36), .ref (b 37), .ref (b 38), .ref (b 39), .ref (b 40), .int (nI pm), .ref (b 42), .ref (b 43), .ref (b 44), .int (gg 44), .ref (b 46), .ref (b 47), .int (gg 47), .ref (b 49)])), (b 39, .inl (cI, 8, .inl gz)), (b 42, .inl (cI, 8, .inl z1)), (b 43, .inl (cI, 8, .inl z2)), (b 44, .inl (cI, 8, .inl z3))]) (fun (u : (Int32) × (Nat) × (Nat → Int32) × (Nat → Int32) × (Nat → Int32) × (Nat → Int32)) => match u with | (av, pm, gz, z1, z2, z3) => [(0, .ref (b 0)), (1, .int (nI sx)), (2, .int av)]) (fun (u : (Int32) × (Nat) × (Nat → Int32) × (Nat → Int32) × (Nat → Int32) × (Nat → Int32)) => match u with | (av, pm, gz, z1, z2, z3) => zz_fs (zz_pb gz sx) av 0 mh ∧ zz_is gz sx mh = 0 ∧ zz_rg gz mh (-930000000) 930000000 ∧ pm + zz_cn gz mh ≤ 8 ∧ ∀ h : Nat, sx.testBit h = false → gz h = nz h) (fun (u : (Int32) × (Nat) × (Nat → Int32) × (Nat → Int32) × (Nat → Int32) × (Nat → Int32)) => match u with | (av, pm, gz, z1, z2, z3) => zz_cn gz mh) (fun u hI H locs ls hP hD hS hl ih_7 => ?_) (r_1, pn, nz, y1, y2, y3) ⟨e_1, hz, hrz, hcz, fun h hh => rfl⟩ _ _ _ (hP.sub [0, 1, 2, 3, 4] rfl) (hD.sub [0, 1, 2, 3, 4] (by decide) rfl) hS (lv_sub hl [1, 2, 0] rfl)
  obtain ⟨av, pm, gz, z1, z2, z3⟩ := u
  obtain ⟨hP, hD⟩ := zz_ty (D := (dC, dI)) (cl := vwCl) (A := A) (H := H) [(b 0, .inr (8, [.ref (b 1), .int (nI mt), .int (gg 2), .int (gg 3), .int (gg 4), .int (gg 5), .int (gg 6), .int (gg 7), .int (gg 8), .int (gg 9), .ref (b 11), .ref (b 12), .ref (b 13), .int (nI mc), .int (nI mh), .ref (b 16), .ref (b 17), .ref (b 18), .ref (b 19), .ref (b 20), .ref (b 21), .ref (b 22), .ref (b 23), .ref (b 24), .int (nI mf), .ref (b 26), .ref (b 27), .ref (b 28), .ref (b 29), .ref (b 30), .ref (b 31), .ref (b 32), .int (gg 32), .int (nI md), .ref (b 35), .ref (b 36), .ref (b 37), .ref (b 38), .ref (b 39), .ref (b 40), .int (nI pm), .ref (b 42), .ref (b 43), .ref (b 44), .int (gg 44), .ref (b 46), .ref (b 47), .int (gg 47), .ref (b 49)])), (b 39, .inl (cI, 8, .inl gz)), (b 42, .inl (cI, 8, .inl z1)), (b 43, .inl (cI, 8, .inl z2)), (b 44, .inl (cI, 8, .inl z3))] hP hD rfl
  have hl : lv_has ls 5 [(0, .ref (b 0)), (1, .int (nI sx)), (2, .int av)] := hl
  have hI : zz_fs (zz_pb gz sx) av 0 mh ∧ zz_is gz sx mh = 0 ∧ zz_rg gz mh (-930000000) 930000000 ∧ pm + zz_cn gz mh ≤ 8 ∧ ∀ h : Nat, sx.testBit h = false → gz h = nz h := hI
  obtain ⟨ia, iz, ir, ic, is0⟩ := hI
  refine lv_iload_n hx hb dX8_evens_7 rfl (lv_at hl 2 rfl) ?_
  rcases ia with ⟨ea, na⟩ | ⟨qa, qa0, hqa, ea, pa⟩
  · subst ea
    refine lv_if_lt (tgt := 125) hx hb dX8_evens_8 (by decide) (fun _ => ?_) (fun c_9 => absurd c_9 (by decide))
    obtain ⟨hP9, hD9⟩ := zz_sub2 (ws' := [(b 0, .inr (8, [.ref (b 1), .int (nI mt), .int (gg 2), .int (gg 3), .int (gg 4), .int (gg 5), .int (gg 6), .int (gg 7), .int (gg 8), .int (gg 9), .ref (b 11), .ref (b 12), .ref (b 13), .int (nI mc), .int (nI mh), .ref (b 16), .ref (b 17), .ref (b 18), .ref (b 19), .ref (b 20), .ref (b 21), .ref (b 22), .ref (b 23), .ref (b 24), .int (nI mf), .ref (b 26), .ref (b 27), .ref (b 28), .ref (b 29), .ref (b 30), .ref (b 31), .ref (b 32), .int (gg 32), .int (nI md), .ref (b 35), .ref (b 36), .ref (b 37), .ref (b 38), .ref (b 39), .ref (b 40), .int (nI pm), .ref (b 42), .ref (b 43), .ref (b 44), .int (gg 44), .ref (b 46), .ref (b 47), .int (gg 47), .ref (b 49)])), (b 39, .inl (cI, 8, .inl gz)), (b 42, .inl (cI, 8, .inl z1)), (b 43, .inl (cI, 8, .inl z2)), (b 44, .inl (cI, 8, .inl z3))]) hP hD [0, 1, 2, 3, 4] (by decide) rfl
    have hK9 := hK.sub (tys' := [(cI, .int)]) [0] rfl
    exact W.vret hx hb hr (fun t ht hW => ⟨⟨(pm, gz, z1, z2, z3), rfl, ⟨ic, zz_evz na iz, is0, ir⟩, by rw [ht]; exact hP9, va_K.moved hW.alike hK9, hD9⟩, hS.F ht⟩) hS.2.2 dX8_evens_125
  · subst ea
    have nq0 : ¬ gz qa = 0 := fun z => by have h8 := pa.2; rw [z, show (0 : Int32).toInt = 0 from by decide] at h8; omega
    have hcn := zz_cn_pos nq0 mh hqa
    refine lv_if_lt (tgt := 125) hx hb dX8_evens_8 (by decide) (fun c_2 => absurd c_2 (by rw [Int32.lt_iff_toInt_lt, zz_toInt qa (by omega), show (0 : Int32).toInt = 0 from by decide]; omega)) (fun _ => ?_)
    refine lv_aload_n hx hb dX8_evens_11 rfl (lv_at hl 0 rfl) ?_
    refine lv_iload_n hx hb dX8_evens_12 rfl (lv_at hl 1 rfl) ?_
    refine lv_iconst (v := 0) hx hb dX8_evens_13 (by decide) ?_
    obtain ⟨hPc, hDc⟩ := zz_sub2 (ws' := [(b 0, .inr (8, [.ref (b 1), .int (nI mt), .int (gg 2), .int (gg 3), .int (gg 4), .int (gg 5), .int (gg 6), .int (gg 7), .int (gg 8), .int (gg 9), .ref (b 11), .ref (b 12), .ref (b 13), .int (nI mc), .int (nI mh), .ref (b 16), .ref (b 17), .ref (b 18), .ref (b 19), .ref (b 20), .ref (b 21), .ref (b 22), .ref (b 23), .ref (b 24), .int (nI mf), .ref (b 26), .ref (b 27), .ref (b 28), .ref (b 29), .ref (b 30), .ref (b 31), .ref (b 32), .int (gg 32), .int (nI md), .ref (b 35), .ref (b 36), .ref (b 37), .ref (b 38), .ref (b 39), .ref (b 40), .int (nI pm), .ref (b 42), .ref (b 43), .ref (b 44), .int (gg 44), .ref (b 46), .ref (b 47), .int (gg 47), .ref (b 49)])), (b 39, .inl (cI, 8, .inl gz))]) hP hD [0, 1] (by decide) rfl
    have hKc := hK.sub (tys' := [(cI, .int)]) [0] rfl
    have hFc := zz_free0 hS hA
    refine va_calli (va_runV (As := [.int (nI sx), .int 0]) (rest := []) ⟨hx, hb, hml, hown, hw⟩ (m_firstA l dC dI b gg mt mc mh mf md pm cI gz sx H.size (by omega) (by omega)) ⟨callB_of 2 hw (zz_good tw_424) rfl rfl rfl (hw _ tw_184) (hw _ tw_425) (by decide +kernel) ⟨Nat.le_of_ble_eq_true rfl, Nat.le_of_ble_eq_true rfl⟩, (hw _ tw_426), (hw _ tw_427)⟩ ⟨zz_blind, va_recv hKc hPc (ci := 8) (q0 := 0) rfl rfl, zz_pre hPc hKc hDc hN⟩ rfl rfl hl.1 rfl (lv_room (Nat.le_of_ble_eq_true rfl)) dX8_evens_14 ⟨Nat.le_of_ble_eq_true rfl, Nat.le_of_ble_eq_true rfl⟩) hS (fun q _ h => hFc q h) hFc (fun r_3 u_3 t H1 locs ht hvm e_3 hB hz1 hk1 hS => ?_)
    try dsimp only at e_3
    have hP := zz_keep hP hk1
    clear hk1 hB ht hvm
    generalize H1 = H at hP hS ⊢
    rcases e_3 with ⟨_, nb⟩ | ⟨qb, qb0, hqb, eqb, pb⟩
    · exact (zz_evb nb iz hqa pa).elim
    · refine zz_seti (nI qb) eqb ?_
      refine lv_istore_n (lv' := [(3, .int (nI qb)), (0, .ref (b 0)), (1, .int (nI sx)), (2, .int (nI qa))]) hx hb dX8_evens_17 rfl hl (by decide) rfl (fun ls hl => ?_)
      refine lv_aload_n hx hb dX8_evens_18 rfl (lv_at hl 1 rfl) ?_
      refine va_get (D := (dC, dI)) (ci := 8) (v := .ref (b 39)) (C := RX8) (T := TX8) (N := 49) hx hb hw zz_inX8 hown hK hP 0 rfl rfl 38 (by decide) (hw _ tw_415) (fun _ h9 => h9) rfl dX8_evens_19 ?_
      refine lv_iload_n hx hb dX8_evens_22 rfl (lv_at hl 3 rfl) ?_
      refine va_iald hx hb hK hP 1 0 rfl rfl (vp_in_iff.mpr (by rw [zz_toInt qa (by omega)]; constructor <;> omega)) dX8_evens_23 ?_
      refine zz_seti (gz qa) (congrArg gz (zz_cl (by omega))) ?_
      refine lv_ineg hx hb dX8_evens_24 ?_
      refine lv_topi (fun ng eng => ?_)
      have zng : ng.toInt = -(gz qa).toInt := by rw [eng]; exact zz_negI (ir qa hqa).1 (ir qa hqa).2
      refine lv_aload_n hx hb dX8_evens_25 rfl (lv_at hl 1 rfl) ?_
      refine va_get (D := (dC, dI)) (ci := 8) (v := .ref (b 39)) (C := RX8) (T := TX8) (N := 49) hx hb hw zz_inX8 hown hK hP 0 rfl rfl 38 (by decide) (hw _ tw_415) (fun _ h9 => h9) rfl dX8_evens_26 ?_
      refine lv_iload_n hx hb dX8_evens_29 rfl (lv_at hl 0 rfl) ?_
      refine va_iald hx hb hK hP 1 0 rfl rfl (vp_in_iff.mpr (by rw [zz_toInt qb (by omega)]; constructor <;> omega)) dX8_evens_30 ?_
      refine zz_seti (gz qb) (congrArg gz (zz_cl (by omega))) ?_
      refine lv_icmp_ge (tgt := 44) hx hb dX8_evens_31 (by decide) (fun c_4 => ?_) (fun c_4 => ?_)
      · have zc_4 := c_4
        rw [Int32.le_iff_toInt_le] at zc_4
        refine lv_aload_n hx hb dX8_evens_44 rfl (lv_at hl 1 rfl) ?_
        refine va_get (D := (dC, dI)) (ci := 8) (v := .ref (b 39)) (C := RX8) (T := TX8) (N := 49) hx hb hw zz_inX8 hown hK hP 0 rfl rfl 38 (by decide) (hw _ tw_415) (fun _ h9 => h9) rfl dX8_evens_45 ?_
        refine lv_iload_n hx hb dX8_evens_48 rfl (lv_at hl 0 rfl) ?_
        refine va_iald hx hb hK hP 1 0 rfl rfl (vp_in_iff.mpr (by rw [zz_toInt qb (by omega)]; constructor <;> omega)) dX8_evens_49 ?_
        refine zz_seti (gz qb) (congrArg gz (zz_cl (by omega))) ?_
        refine lv_istore (lv' := [(4, .int (gz qb)), (3, .int (nI qb)), (0, .ref (b 0)), (1, .int (nI sx)), (2, .int (nI qa))]) hx hb dX8_evens_50 hl (by decide) rfl (fun ls hl => ?_)
        refine lv_aload_n hx hb dX8_evens_52 rfl (lv_at hl 2 rfl) ?_
        refine va_get (D := (dC, dI)) (ci := 8) (v := .ref (b 42)) (C := RX8) (T := TX8) (N := 49) hx hb hw zz_inX8 hown hK hP 0 rfl rfl 41 (by decide) (hw _ tw_428) (fun _ h9 => h9) rfl dX8_evens_53 ?_
        refine lv_aload_n hx hb dX8_evens_56 rfl (lv_at hl 2 rfl) ?_
        refine va_get (D := (dC, dI)) (ci := 8) (v := .int (nI pm)) (C := RX8) (T := TX8) (N := 49) hx hb hw zz_inX8 hown hK hP 0 rfl rfl 40 (by decide) (hw _ tw_429) (fun _ h9 => h9) rfl dX8_evens_57 ?_
        refine lv_iload_n hx hb dX8_evens_60 rfl (lv_at hl 4 rfl) ?_
        refine va_iast hx hb hK hP hD hS 2 0 rfl rfl (vp_in_iff.mpr (by rw [zz_toInt pm (by omega)]; constructor <;> omega)) dX8_evens_61 (fun H locs hP hD hS => ?_)
        obtain ⟨hP, hD⟩ := zz_ty (D := (dC, dI)) (cl := vwCl) (A := A) (H := H) [(b 0, .inr (8, [.ref (b 1), .int (nI mt), .int (gg 2), .int (gg 3), .int (gg 4), .int (gg 5), .int (gg 6), .int (gg 7), .int (gg 8), .int (gg 9), .ref (b 11), .ref (b 12), .ref (b 13), .int (nI mc), .int (nI mh), .ref (b 16), .ref (b 17), .ref (b 18), .ref (b 19), .ref (b 20), .ref (b 21), .ref (b 22), .ref (b 23), .ref (b 24), .int (nI mf), .ref (b 26), .ref (b 27), .ref (b 28), .ref (b 29), .ref (b 30), .ref (b 31), .ref (b 32), .int (gg 32), .int (nI md), .ref (b 35), .ref (b 36), .ref (b 37), .ref (b 38), .ref (b 39), .ref (b 40), .int (nI pm), .ref (b 42), .ref (b 43), .ref (b 44), .int (gg 44), .ref (b 46), .ref (b 47), .int (gg 47), .ref (b 49)])), (b 39, .inl (cI, 8, .inl gz)), (b 42, .inl (cI, 8, .inl (upd z1 (Int32.toNatClampNeg (nI pm)) (nI qa)))), (b 43, .inl (cI, 8, .inl z2)), (b 44, .inl (cI, 8, .inl z3))] hP hD rfl
        refine lv_aload_n hx hb dX8_evens_62 rfl (lv_at hl 2 rfl) ?_
        refine va_get (D := (dC, dI)) (ci := 8) (v := .ref (b 43)) (C := RX8) (T := TX8) (N := 49) hx hb hw zz_inX8 hown hK hP 0 rfl rfl 42 (by decide) (hw _ tw_430) (fun _ h9 => h9) rfl dX8_evens_63 ?_
        refine lv_aload_n hx hb dX8_evens_66 rfl (lv_at hl 2 rfl) ?_
        refine va_get (D := (dC, dI)) (ci := 8) (v := .int (nI pm)) (C := RX8) (T := TX8) (N := 49) hx hb hw zz_inX8 hown hK hP 0 rfl rfl 40 (by decide) (hw _ tw_429) (fun _ h9 => h9) rfl dX8_evens_67 ?_
        refine lv_iload_n hx hb dX8_evens_70 rfl (lv_at hl 1 rfl) ?_
        refine va_iast hx hb hK hP hD hS 3 0 rfl rfl (vp_in_iff.mpr (by rw [zz_toInt pm (by omega)]; constructor <;> omega)) dX8_evens_71 (fun H locs hP hD hS => ?_)
        obtain ⟨hP, hD⟩ := zz_ty (D := (dC, dI)) (cl := vwCl) (A := A) (H := H) [(b 0, .inr (8, [.ref (b 1), .int (nI mt), .int (gg 2), .int (gg 3), .int (gg 4), .int (gg 5), .int (gg 6), .int (gg 7), .int (gg 8), .int (gg 9), .ref (b 11), .ref (b 12), .ref (b 13), .int (nI mc), .int (nI mh), .ref (b 16), .ref (b 17), .ref (b 18), .ref (b 19), .ref (b 20), .ref (b 21), .ref (b 22), .ref (b 23), .ref (b 24), .int (nI mf), .ref (b 26), .ref (b 27), .ref (b 28), .ref (b 29), .ref (b 30), .ref (b 31), .ref (b 32), .int (gg 32), .int (nI md), .ref (b 35), .ref (b 36), .ref (b 37), .ref (b 38), .ref (b 39), .ref (b 40), .int (nI pm), .ref (b 42), .ref (b 43), .ref (b 44), .int (gg 44), .ref (b 46), .ref (b 47), .int (gg 47), .ref (b 49)])), (b 39, .inl (cI, 8, .inl gz)), (b 42, .inl (cI, 8, .inl (upd z1 (Int32.toNatClampNeg (nI pm)) (nI qa)))), (b 43, .inl (cI, 8, .inl (upd z2 (Int32.toNatClampNeg (nI pm)) (nI qb)))), (b 44, .inl (cI, 8, .inl z3))] hP hD rfl
        refine lv_aload_n hx hb dX8_evens_72 rfl (lv_at hl 2 rfl) ?_
        refine va_get (D := (dC, dI)) (ci := 8) (v := .ref (b 44)) (C := RX8) (T := TX8) (N := 49) hx hb hw zz_inX8 hown hK hP 0 rfl rfl 43 (by decide) (hw _ tw_431) (fun _ h9 => h9) rfl dX8_evens_73 ?_
        refine lv_aload_n hx hb dX8_evens_76 rfl (lv_at hl 2 rfl) ?_
        refine va_get (D := (dC, dI)) (ci := 8) (v := .int (nI pm)) (C := RX8) (T := TX8) (N := 49) hx hb hw zz_inX8 hown hK hP 0 rfl rfl 40 (by decide) (hw _ tw_429) (fun _ h9 => h9) rfl dX8_evens_77 ?_
        refine lv_iload hx hb dX8_evens_80 (lv_at hl 0 rfl) ?_
        refine va_iast hx hb hK hP hD hS 4 0 rfl rfl (vp_in_iff.mpr (by rw [zz_toInt pm (by omega)]; constructor <;> omega)) dX8_evens_82 (fun H locs hP hD hS => ?_)
        obtain ⟨hP, hD⟩ := zz_ty (D := (dC, dI)) (cl := vwCl) (A := A) (H := H) [(b 0, .inr (8, [.ref (b 1), .int (nI mt), .int (gg 2), .int (gg 3), .int (gg 4), .int (gg 5), .int (gg 6), .int (gg 7), .int (gg 8), .int (gg 9), .ref (b 11), .ref (b 12), .ref (b 13), .int (nI mc), .int (nI mh), .ref (b 16), .ref (b 17), .ref (b 18), .ref (b 19), .ref (b 20), .ref (b 21), .ref (b 22), .ref (b 23), .ref (b 24), .int (nI mf), .ref (b 26), .ref (b 27), .ref (b 28), .ref (b 29), .ref (b 30), .ref (b 31), .ref (b 32), .int (gg 32), .int (nI md), .ref (b 35), .ref (b 36), .ref (b 37), .ref (b 38), .ref (b 39), .ref (b 40), .int (nI pm), .ref (b 42), .ref (b 43), .ref (b 44), .int (gg 44), .ref (b 46), .ref (b 47), .int (gg 47), .ref (b 49)])), (b 39, .inl (cI, 8, .inl gz)), (b 42, .inl (cI, 8, .inl (upd z1 (Int32.toNatClampNeg (nI pm)) (nI qa)))), (b 43, .inl (cI, 8, .inl (upd z2 (Int32.toNatClampNeg (nI pm)) (nI qb)))), (b 44, .inl (cI, 8, .inl (upd z3 (Int32.toNatClampNeg (nI pm)) (gz qb))))] hP hD rfl
        refine lv_aload_n hx hb dX8_evens_83 rfl (lv_at hl 2 rfl) ?_
        refine lv_dup hx hb dX8_evens_84 rfl ?_
        refine va_get (D := (dC, dI)) (ci := 8) (v := .int (nI pm)) (C := RX8) (T := TX8) (N := 49) hx hb hw zz_inX8 hown hK hP 0 rfl rfl 40 (by decide) (hw _ tw_429) (fun _ h9 => h9) rfl dX8_evens_85 ?_
        refine lv_iconst (v := 1) hx hb dX8_evens_88 (by decide) ?_
        refine lv_iadd hx hb dX8_evens_89 ?_
        refine zz_seti (nI (pm + 1)) (nI_1 _) ?_
        refine va_put (D := (dC, dI)) (ci := 8) (v := .int (nI (pm + 1))) (ty := .int) (C := RX8) (T := TX8) (N := 49) hx hb hw zz_inX8 tyX8 tyX8_ok nmX8 hown hK hP hD hS 0 rfl rfl 40 (by decide) (hw _ tw_429) (fun _ h9 => h9) rfl (by decide +kernel) rfl rfl (Nat.le_of_ble_eq_true rfl) dX8_evens_90 (fun H locs hP hD hS => ?_)
        obtain ⟨hP, hD⟩ := zz_ty (D := (dC, dI)) (cl := vwCl) (A := A) (H := H) [(b 0, .inr (8, [.ref (b 1), .int (nI mt), .int (gg 2), .int (gg 3), .int (gg 4), .int (gg 5), .int (gg 6), .int (gg 7), .int (gg 8), .int (gg 9), .ref (b 11), .ref (b 12), .ref (b 13), .int (nI mc), .int (nI mh), .ref (b 16), .ref (b 17), .ref (b 18), .ref (b 19), .ref (b 20), .ref (b 21), .ref (b 22), .ref (b 23), .ref (b 24), .int (nI mf), .ref (b 26), .ref (b 27), .ref (b 28), .ref (b 29), .ref (b 30), .ref (b 31), .ref (b 32), .int (gg 32), .int (nI md), .ref (b 35), .ref (b 36), .ref (b 37), .ref (b 38), .ref (b 39), .ref (b 40), .int (nI (pm + 1)), .ref (b 42), .ref (b 43), .ref (b 44), .int (gg 44), .ref (b 46), .ref (b 47), .int (gg 47), .ref (b 49)])), (b 39, .inl (cI, 8, .inl gz)), (b 42, .inl (cI, 8, .inl (upd z1 (Int32.toNatClampNeg (nI pm)) (nI qa)))), (b 43, .inl (cI, 8, .inl (upd z2 (Int32.toNatClampNeg (nI pm)) (nI qb)))), (b 44, .inl (cI, 8, .inl (upd z3 (Int32.toNatClampNeg (nI pm)) (gz qb))))] hP hD rfl
        refine lv_aload_n hx hb dX8_evens_93 rfl (lv_at hl 2 rfl) ?_
        refine va_get (D := (dC, dI)) (ci := 8) (v := .ref (b 39)) (C := RX8) (T := TX8) (N := 49) hx hb hw zz_inX8 hown hK hP 0 rfl rfl 38 (by decide) (hw _ tw_415) (fun _ h9 => h9) rfl dX8_evens_94 ?_
        refine lv_iload_n hx hb dX8_evens_97 rfl (lv_at hl 4 rfl) ?_
        refine lv_dup2_11 hx hb dX8_evens_98 rfl rfl ?_
        refine va_iald hx hb hK hP 1 0 rfl rfl (vp_in_iff.mpr (by rw [zz_toInt qa (by omega)]; constructor <;> omega)) dX8_evens_99 ?_
        refine zz_seti (gz qa) (congrArg gz (zz_cl (by omega))) ?_
        refine lv_iload hx hb dX8_evens_100 (lv_at hl 0 rfl) ?_
        refine lv_iadd hx hb dX8_evens_102 ?_
        refine va_iast hx hb hK hP hD hS 1 0 rfl rfl (vp_in_iff.mpr (by rw [zz_toInt qa (by omega)]; constructor <;> omega)) dX8_evens_103 (fun H locs hP hD hS => ?_)
        obtain ⟨hP, hD⟩ := zz_ty (D := (dC, dI)) (cl := vwCl) (A := A) (H := H) [(b 0, .inr (8, [.ref (b 1), .int (nI mt), .int (gg 2), .int (gg 3), .int (gg 4), .int (gg 5), .int (gg 6), .int (gg 7), .int (gg 8), .int (gg 9), .ref (b 11), .ref (b 12), .ref (b 13), .int (nI mc), .int (nI mh), .ref (b 16), .ref (b 17), .ref (b 18), .ref (b 19), .ref (b 20), .ref (b 21), .ref (b 22), .ref (b 23), .ref (b 24), .int (nI mf), .ref (b 26), .ref (b 27), .ref (b 28), .ref (b 29), .ref (b 30), .ref (b 31), .ref (b 32), .int (gg 32), .int (nI md), .ref (b 35), .ref (b 36), .ref (b 37), .ref (b 38), .ref (b 39), .ref (b 40), .int (nI (pm + 1)), .ref (b 42), .ref (b 43), .ref (b 44), .int (gg 44), .ref (b 46), .ref (b 47), .int (gg 47), .ref (b 49)])), (b 39, .inl (cI, 8, .inl (upd gz (Int32.toNatClampNeg (nI qa)) ((gz qa) + (gz qb))))), (b 42, .inl (cI, 8, .inl (upd z1 (Int32.toNatClampNeg (nI pm)) (nI qa)))), (b 43, .inl (cI, 8, .inl (upd z2 (Int32.toNatClampNeg (nI pm)) (nI qb)))), (b 44, .inl (cI, 8, .inl (upd z3 (Int32.toNatClampNeg (nI pm)) (gz qb))))] hP hD rfl
        refine lv_aload_n hx hb dX8_evens_104 rfl (lv_at hl 2 rfl) ?_
        refine va_get (D := (dC, dI)) (ci := 8) (v := .ref (b 39)) (C := RX8) (T := TX8) (N := 49) hx hb hw zz_inX8 hown hK hP 0 rfl rfl 38 (by decide) (hw _ tw_415) (fun _ h9 => h9) rfl dX8_evens_105 ?_
        refine lv_iload_n hx hb dX8_evens_108 rfl (lv_at hl 1 rfl) ?_
        refine lv_dup2_11 hx hb dX8_evens_109 rfl rfl ?_
        refine va_iald hx hb hK hP 1 0 rfl rfl (vp_in_iff.mpr (by rw [zz_toInt qb (by omega)]; constructor <;> omega)) dX8_evens_110 ?_
        refine zz_seti ((upd gz (Int32.toNatClampNeg (nI qa)) ((gz qa) + (gz qb))) qb) (congrArg (upd gz (Int32.toNatClampNeg (nI qa)) ((gz qa) + (gz qb))) (zz_cl (by omega))) ?_
        refine lv_iload hx hb dX8_evens_111 (lv_at hl 0 rfl) ?_
        refine lv_isub hx hb dX8_evens_113 ?_
        refine va_iast hx hb hK hP hD hS 1 0 rfl rfl (vp_in_iff.mpr (by rw [zz_toInt qb (by omega)]; constructor <;> omega)) dX8_evens_114 (fun H locs hP hD hS => ?_)
        obtain ⟨hP, hD⟩ := zz_ty (D := (dC, dI)) (cl := vwCl) (A := A) (H := H) [(b 0, .inr (8, [.ref (b 1), .int (nI mt), .int (gg 2), .int (gg 3), .int (gg 4), .int (gg 5), .int (gg 6), .int (gg 7), .int (gg 8), .int (gg 9), .ref (b 11), .ref (b 12), .ref (b 13), .int (nI mc), .int (nI mh), .ref (b 16), .ref (b 17), .ref (b 18), .ref (b 19), .ref (b 20), .ref (b 21), .ref (b 22), .ref (b 23), .ref (b 24), .int (nI mf), .ref (b 26), .ref (b 27), .ref (b 28), .ref (b 29), .ref (b 30), .ref (b 31), .ref (b 32), .int (gg 32), .int (nI md), .ref (b 35), .ref (b 36), .ref (b 37), .ref (b 38), .ref (b 39), .ref (b 40), .int (nI (pm + 1)), .ref (b 42), .ref (b 43), .ref (b 44), .int (gg 44), .ref (b 46), .ref (b 47), .int (gg 47), .ref (b 49)])), (b 39, .inl (cI, 8, .inl (upd (upd gz (Int32.toNatClampNeg (nI qa)) ((gz qa) + (gz qb))) (Int32.toNatClampNeg (nI qb)) (((upd gz (Int32.toNatClampNeg (nI qa)) ((gz qa) + (gz qb))) qb) - (gz qb))))), (b 42, .inl (cI, 8, .inl (upd z1 (Int32.toNatClampNeg (nI pm)) (nI qa)))), (b 43, .inl (cI, 8, .inl (upd z2 (Int32.toNatClampNeg (nI pm)) (nI qb)))), (b 44, .inl (cI, 8, .inl (upd z3 (Int32.toNatClampNeg (nI pm)) (gz qb))))] hP hD rfl
        obtain ⟨gz2, egz2⟩ : ∃ z : Nat → Int32, z = (upd (upd gz (Int32.toNatClampNeg (nI qa)) ((gz qa) + (gz qb))) (Int32.toNatClampNeg (nI qb)) (((upd gz (Int32.toNatClampNeg (nI qa)) ((gz qa) + (gz qb))) qb) - (gz qb))) := ⟨_, rfl⟩
        have hP : va_P (dC, dI) vwCl [(b 0, .inr (8, [.ref (b 1), .int (nI mt), .int (gg 2), .int (gg 3), .int (gg 4), .int (gg 5), .int (gg 6), .int (gg 7), .int (gg 8), .int (gg 9), .ref (b 11), .ref (b 12), .ref (b 13), .int (nI mc), .int (nI mh), .ref (b 16), .ref (b 17), .ref (b 18), .ref (b 19), .ref (b 20), .ref (b 21), .ref (b 22), .ref (b 23), .ref (b 24), .int (nI mf), .ref (b 26), .ref (b 27), .ref (b 28), .ref (b 29), .ref (b 30), .ref (b 31), .ref (b 32), .int (gg 32), .int (nI md), .ref (b 35), .ref (b 36), .ref (b 37), .ref (b 38), .ref (b 39), .ref (b 40), .int (nI (pm + 1)), .ref (b 42), .ref (b 43), .ref (b 44), .int (gg 44), .ref (b 46), .ref (b 47), .int (gg 47), .ref (b 49)])), (b 39, .inl (cI, 8, .inl gz2)), (b 42, .inl (cI, 8, .inl (upd z1 (Int32.toNatClampNeg (nI pm)) (nI qa)))), (b 43, .inl (cI, 8, .inl (upd z2 (Int32.toNatClampNeg (nI pm)) (nI qb)))), (b 44, .inl (cI, 8, .inl (upd z3 (Int32.toNatClampNeg (nI pm)) (gz qb))))] H := by rw [egz2]; exact hP
        have hD : va_D A [(b 0, .inr (8, [.ref (b 1), .int (nI mt), .int (gg 2), .int (gg 3), .int (gg 4), .int (gg 5), .int (gg 6), .int (gg 7), .int (gg 8), .int (gg 9), .ref (b 11), .ref (b 12), .ref (b 13), .int (nI mc), .int (nI mh), .ref (b 16), .ref (b 17), .ref (b 18), .ref (b 19), .ref (b 20), .ref (b 21), .ref (b 22), .ref (b 23), .ref (b 24), .int (nI mf), .ref (b 26), .ref (b 27), .ref (b 28), .ref (b 29), .ref (b 30), .ref (b 31), .ref (b 32), .int (gg 32), .int (nI md), .ref (b 35), .ref (b 36), .ref (b 37), .ref (b 38), .ref (b 39), .ref (b 40), .int (nI (pm + 1)), .ref (b 42), .ref (b 43), .ref (b 44), .int (gg 44), .ref (b 46), .ref (b 47), .int (gg 47), .ref (b 49)])), (b 39, .inl (cI, 8, .inl gz2)), (b 42, .inl (cI, 8, .inl (upd z1 (Int32.toNatClampNeg (nI pm)) (nI qa)))), (b 43, .inl (cI, 8, .inl (upd z2 (Int32.toNatClampNeg (nI pm)) (nI qb)))), (b 44, .inl (cI, 8, .inl (upd z3 (Int32.toNatClampNeg (nI pm)) (gz qb))))] := by rw [egz2]; exact hD
        have hev := zz_ev (v := (gz qb)) hmh hqa hqb pa pb (Or.inr ⟨rfl, by omega⟩) ir
        rw [← egz2] at hev
        obtain ⟨v1, v2, v3, v4⟩ := hev
        refine lv_aload_n hx hb dX8_evens_115 rfl (lv_at hl 2 rfl) ?_
        refine lv_iload_n hx hb dX8_evens_116 rfl (lv_at hl 3 rfl) ?_
        refine lv_iconst (v := 1) hx hb dX8_evens_117 (by decide) ?_
        obtain ⟨hPc, hDc⟩ := zz_sub2 (ws' := [(b 0, .inr (8, [.ref (b 1), .int (nI mt), .int (gg 2), .int (gg 3), .int (gg 4), .int (gg 5), .int (gg 6), .int (gg 7), .int (gg 8), .int (gg 9), .ref (b 11), .ref (b 12), .ref (b 13), .int (nI mc), .int (nI mh), .ref (b 16), .ref (b 17), .ref (b 18), .ref (b 19), .ref (b 20), .ref (b 21), .ref (b 22), .ref (b 23), .ref (b 24), .int (nI mf), .ref (b 26), .ref (b 27), .ref (b 28), .ref (b 29), .ref (b 30), .ref (b 31), .ref (b 32), .int (gg 32), .int (nI md), .ref (b 35), .ref (b 36), .ref (b 37), .ref (b 38), .ref (b 39), .ref (b 40), .int (nI (pm + 1)), .ref (b 42), .ref (b 43), .ref (b 44), .int (gg 44), .ref (b 46), .ref (b 47), .int (gg 47), .ref (b 49)])), (b 39, .inl (cI, 8, .inl gz2))]) hP hD [0, 1] (by decide) rfl
        have hKc := hK.sub (tys' := [(cI, .int)]) [0] rfl
        have hFc := zz_free0 hS hA
        refine va_calli (va_runV (As := [.int (nI sx), .int 1]) (rest := []) ⟨hx, hb, hml, hown, hw⟩ (m_firstB l dC dI b gg mt mc mh mf md (pm + 1) cI gz2 sx H.size (by omega) (by omega)) ⟨callB_of 2 hw (zz_good tw_424) rfl rfl rfl (hw _ tw_184) (hw _ tw_425) (by decide +kernel) ⟨Nat.le_of_ble_eq_true rfl, Nat.le_of_ble_eq_true rfl⟩, (hw _ tw_426), (hw _ tw_427)⟩ ⟨zz_blind, va_recv hKc hPc (ci := 8) (q0 := 0) rfl rfl, zz_pre hPc hKc hDc hN⟩ rfl rfl hl.1 rfl (lv_room (Nat.le_of_ble_eq_true rfl)) dX8_evens_118 ⟨Nat.le_of_ble_eq_true rfl, Nat.le_of_ble_eq_true rfl⟩) hS (fun q _ h => hFc q h) hFc (fun r_5 u_5 t H1 locs ht hvm e_5 hB hz1 hk1 hS => ?_)
        try dsimp only at e_5
        have hP := zz_keep hP hk1
        clear hk1 hB ht hvm
        generalize H1 = H at hP hS ⊢
        refine lv_istore_n (lv' := [(2, .int r_5), (4, .int (gz qb)), (3, .int (nI qb)), (0, .ref (b 0)), (1, .int (nI sx))]) hx hb dX8_evens_121 rfl hl (by decide) rfl (fun ls hl => ?_)
        refine lv_goto (tgt := 7) hx hb dX8_evens_122 (by decide) ?_
        exact ih_7 (r_5, (pm + 1), gz2, (upd z1 (Int32.toNatClampNeg (nI pm)) (nI qa)), (upd z2 (Int32.toNatClampNeg (nI pm)) (nI qb)), (upd z3 (Int32.toNatClampNeg (nI pm)) (gz qb))) ⟨e_5, v1.trans iz, v2, by omega, fun h hh => (v4 h hh).trans (is0 h hh)⟩ (show zz_cn gz2 mh < zz_cn gz mh from by omega) _ _ _ (hP.sub [0, 1, 2, 3, 4] rfl) (hD.sub [0, 1, 2, 3, 4] (by decide) rfl) hS (lv_sub hl [3, 4, 0] rfl)
      · have zc_4 := c_4
        rw [Int32.le_iff_toInt_le] at zc_4
        refine lv_aload_n hx hb dX8_evens_34 rfl (lv_at hl 1 rfl) ?_
        refine va_get (D := (dC, dI)) (ci := 8) (v := .ref (b 39)) (C := RX8) (T := TX8) (N := 49) hx hb hw zz_inX8 hown hK hP 0 rfl rfl 38 (by decide) (hw _ tw_415) (fun _ h9 => h9) rfl dX8_evens_35 ?_
        refine lv_iload_n hx hb dX8_evens_38 rfl (lv_at hl 3 rfl) ?_
        refine va_iald hx hb hK hP 1 0 rfl rfl (vp_in_iff.mpr (by rw [zz_toInt qa (by omega)]; constructor <;> omega)) dX8_evens_39 ?_
        refine zz_seti (gz qa) (congrArg gz (zz_cl (by omega))) ?_
        refine lv_ineg hx hb dX8_evens_40 ?_
        refine lv_topi (fun ng2 eng2 => ?_)
        have zng2 : ng2.toInt = -(gz qa).toInt := by rw [eng2]; exact zz_negI (ir qa hqa).1 (ir qa hqa).2
        refine lv_goto (tgt := 50) hx hb dX8_evens_41 (by decide) ?_
        refine lv_istore (lv' := [(4, .int ng2), (3, .int (nI qb)), (0, .ref (b 0)), (1, .int (nI sx)), (2, .int (nI qa))]) hx hb dX8_evens_50 hl (by decide) rfl (fun ls hl => ?_)
        refine lv_aload_n hx hb dX8_evens_52 rfl (lv_at hl 2 rfl) ?_
        refine va_get (D := (dC, dI)) (ci := 8) (v := .ref (b 42)) (C := RX8) (T := TX8) (N := 49) hx hb hw zz_inX8 hown hK hP 0 rfl rfl 41 (by decide) (hw _ tw_428) (fun _ h9 => h9) rfl dX8_evens_53 ?_
        refine lv_aload_n hx hb dX8_evens_56 rfl (lv_at hl 2 rfl) ?_
        refine va_get (D := (dC, dI)) (ci := 8) (v := .int (nI pm)) (C := RX8) (T := TX8) (N := 49) hx hb hw zz_inX8 hown hK hP 0 rfl rfl 40 (by decide) (hw _ tw_429) (fun _ h9 => h9) rfl dX8_evens_57 ?_
        refine lv_iload_n hx hb dX8_evens_60 rfl (lv_at hl 4 rfl) ?_
        refine va_iast hx hb hK hP hD hS 2 0 rfl rfl (vp_in_iff.mpr (by rw [zz_toInt pm (by omega)]; constructor <;> omega)) dX8_evens_61 (fun H locs hP hD hS => ?_)
        obtain ⟨hP, hD⟩ := zz_ty (D := (dC, dI)) (cl := vwCl) (A := A) (H := H) [(b 0, .inr (8, [.ref (b 1), .int (nI mt), .int (gg 2), .int (gg 3), .int (gg 4), .int (gg 5), .int (gg 6), .int (gg 7), .int (gg 8), .int (gg 9), .ref (b 11), .ref (b 12), .ref (b 13), .int (nI mc), .int (nI mh), .ref (b 16), .ref (b 17), .ref (b 18), .ref (b 19), .ref (b 20), .ref (b 21), .ref (b 22), .ref (b 23), .ref (b 24), .int (nI mf), .ref (b 26), .ref (b 27), .ref (b 28), .ref (b 29), .ref (b 30), .ref (b 31), .ref (b 32), .int (gg 32), .int (nI md), .ref (b 35), .ref (b 36), .ref (b 37), .ref (b 38), .ref (b 39), .ref (b 40), .int (nI pm), .ref (b 42), .ref (b 43), .ref (b 44), .int (gg 44), .ref (b 46), .ref (b 47), .int (gg 47), .ref (b 49)])), (b 39, .inl (cI, 8, .inl gz)), (b 42, .inl (cI, 8, .inl (upd z1 (Int32.toNatClampNeg (nI pm)) (nI qa)))), (b 43, .inl (cI, 8, .inl z2)), (b 44, .inl (cI, 8, .inl z3))] hP hD rfl
        refine lv_aload_n hx hb dX8_evens_62 rfl (lv_at hl 2 rfl) ?_
        refine va_get (D := (dC, dI)) (ci := 8) (v := .ref (b 43)) (C := RX8) (T := TX8) (N := 49) hx hb hw zz_inX8 hown hK hP 0 rfl rfl 42 (by decide) (hw _ tw_430) (fun _ h9 => h9) rfl dX8_evens_63 ?_
        refine lv_aload_n hx hb dX8_evens_66 rfl (lv_at hl 2 rfl) ?_
        refine va_get (D := (dC, dI)) (ci := 8) (v := .int (nI pm)) (C := RX8) (T := TX8) (N := 49) hx hb hw zz_inX8 hown hK hP 0 rfl rfl 40 (by decide) (hw _ tw_429) (fun _ h9 => h9) rfl dX8_evens_67 ?_
        refine lv_iload_n hx hb dX8_evens_70 rfl (lv_at hl 1 rfl) ?_
        refine va_iast hx hb hK hP hD hS 3 0 rfl rfl (vp_in_iff.mpr (by rw [zz_toInt pm (by omega)]; constructor <;> omega)) dX8_evens_71 (fun H locs hP hD hS => ?_)
        obtain ⟨hP, hD⟩ := zz_ty (D := (dC, dI)) (cl := vwCl) (A := A) (H := H) [(b 0, .inr (8, [.ref (b 1), .int (nI mt), .int (gg 2), .int (gg 3), .int (gg 4), .int (gg 5), .int (gg 6), .int (gg 7), .int (gg 8), .int (gg 9), .ref (b 11), .ref (b 12), .ref (b 13), .int (nI mc), .int (nI mh), .ref (b 16), .ref (b 17), .ref (b 18), .ref (b 19), .ref (b 20), .ref (b 21), .ref (b 22), .ref (b 23), .ref (b 24), .int (nI mf), .ref (b 26), .ref (b 27), .ref (b 28), .ref (b 29), .ref (b 30), .ref (b 31), .ref (b 32), .int (gg 32), .int (nI md), .ref (b 35), .ref (b 36), .ref (b 37), .ref (b 38), .ref (b 39), .ref (b 40), .int (nI pm), .ref (b 42), .ref (b 43), .ref (b 44), .int (gg 44), .ref (b 46), .ref (b 47), .int (gg 47), .ref (b 49)])), (b 39, .inl (cI, 8, .inl gz)), (b 42, .inl (cI, 8, .inl (upd z1 (Int32.toNatClampNeg (nI pm)) (nI qa)))), (b 43, .inl (cI, 8, .inl (upd z2 (Int32.toNatClampNeg (nI pm)) (nI qb)))), (b 44, .inl (cI, 8, .inl z3))] hP hD rfl
        refine lv_aload_n hx hb dX8_evens_72 rfl (lv_at hl 2 rfl) ?_
        refine va_get (D := (dC, dI)) (ci := 8) (v := .ref (b 44)) (C := RX8) (T := TX8) (N := 49) hx hb hw zz_inX8 hown hK hP 0 rfl rfl 43 (by decide) (hw _ tw_431) (fun _ h9 => h9) rfl dX8_evens_73 ?_
        refine lv_aload_n hx hb dX8_evens_76 rfl (lv_at hl 2 rfl) ?_
        refine va_get (D := (dC, dI)) (ci := 8) (v := .int (nI pm)) (C := RX8) (T := TX8) (N := 49) hx hb hw zz_inX8 hown hK hP 0 rfl rfl 40 (by decide) (hw _ tw_429) (fun _ h9 => h9) rfl dX8_evens_77 ?_
        refine lv_iload hx hb dX8_evens_80 (lv_at hl 0 rfl) ?_
        refine va_iast hx hb hK hP hD hS 4 0 rfl rfl (vp_in_iff.mpr (by rw [zz_toInt pm (by omega)]; constructor <;> omega)) dX8_evens_82 (fun H locs hP hD hS => ?_)
        obtain ⟨hP, hD⟩ := zz_ty (D := (dC, dI)) (cl := vwCl) (A := A) (H := H) [(b 0, .inr (8, [.ref (b 1), .int (nI mt), .int (gg 2), .int (gg 3), .int (gg 4), .int (gg 5), .int (gg 6), .int (gg 7), .int (gg 8), .int (gg 9), .ref (b 11), .ref (b 12), .ref (b 13), .int (nI mc), .int (nI mh), .ref (b 16), .ref (b 17), .ref (b 18), .ref (b 19), .ref (b 20), .ref (b 21), .ref (b 22), .ref (b 23), .ref (b 24), .int (nI mf), .ref (b 26), .ref (b 27), .ref (b 28), .ref (b 29), .ref (b 30), .ref (b 31), .ref (b 32), .int (gg 32), .int (nI md), .ref (b 35), .ref (b 36), .ref (b 37), .ref (b 38), .ref (b 39), .ref (b 40), .int (nI pm), .ref (b 42), .ref (b 43), .ref (b 44), .int (gg 44), .ref (b 46), .ref (b 47), .int (gg 47), .ref (b 49)])), (b 39, .inl (cI, 8, .inl gz)), (b 42, .inl (cI, 8, .inl (upd z1 (Int32.toNatClampNeg (nI pm)) (nI qa)))), (b 43, .inl (cI, 8, .inl (upd z2 (Int32.toNatClampNeg (nI pm)) (nI qb)))), (b 44, .inl (cI, 8, .inl (upd z3 (Int32.toNatClampNeg (nI pm)) ng2)))] hP hD rfl
        refine lv_aload_n hx hb dX8_evens_83 rfl (lv_at hl 2 rfl) ?_
        refine lv_dup hx hb dX8_evens_84 rfl ?_
        refine va_get (D := (dC, dI)) (ci := 8) (v := .int (nI pm)) (C := RX8) (T := TX8) (N := 49) hx hb hw zz_inX8 hown hK hP 0 rfl rfl 40 (by decide) (hw _ tw_429) (fun _ h9 => h9) rfl dX8_evens_85 ?_
        refine lv_iconst (v := 1) hx hb dX8_evens_88 (by decide) ?_
        refine lv_iadd hx hb dX8_evens_89 ?_
        refine zz_seti (nI (pm + 1)) (nI_1 _) ?_
        refine va_put (D := (dC, dI)) (ci := 8) (v := .int (nI (pm + 1))) (ty := .int) (C := RX8) (T := TX8) (N := 49) hx hb hw zz_inX8 tyX8 tyX8_ok nmX8 hown hK hP hD hS 0 rfl rfl 40 (by decide) (hw _ tw_429) (fun _ h9 => h9) rfl (by decide +kernel) rfl rfl (Nat.le_of_ble_eq_true rfl) dX8_evens_90 (fun H locs hP hD hS => ?_)
        obtain ⟨hP, hD⟩ := zz_ty (D := (dC, dI)) (cl := vwCl) (A := A) (H := H) [(b 0, .inr (8, [.ref (b 1), .int (nI mt), .int (gg 2), .int (gg 3), .int (gg 4), .int (gg 5), .int (gg 6), .int (gg 7), .int (gg 8), .int (gg 9), .ref (b 11), .ref (b 12), .ref (b 13), .int (nI mc), .int (nI mh), .ref (b 16), .ref (b 17), .ref (b 18), .ref (b 19), .ref (b 20), .ref (b 21), .ref (b 22), .ref (b 23), .ref (b 24), .int (nI mf), .ref (b 26), .ref (b 27), .ref (b 28), .ref (b 29), .ref (b 30), .ref (b 31), .ref (b 32), .int (gg 32), .int (nI md), .ref (b 35), .ref (b 36), .ref (b 37), .ref (b 38), .ref (b 39), .ref (b 40), .int (nI (pm + 1)), .ref (b 42), .ref (b 43), .ref (b 44), .int (gg 44), .ref (b 46), .ref (b 47), .int (gg 47), .ref (b 49)])), (b 39, .inl (cI, 8, .inl gz)), (b 42, .inl (cI, 8, .inl (upd z1 (Int32.toNatClampNeg (nI pm)) (nI qa)))), (b 43, .inl (cI, 8, .inl (upd z2 (Int32.toNatClampNeg (nI pm)) (nI qb)))), (b 44, .inl (cI, 8, .inl (upd z3 (Int32.toNatClampNeg (nI pm)) ng2)))] hP hD rfl
        refine lv_aload_n hx hb dX8_evens_93 rfl (lv_at hl 2 rfl) ?_
        refine va_get (D := (dC, dI)) (ci := 8) (v := .ref (b 39)) (C := RX8) (T := TX8) (N := 49) hx hb hw zz_inX8 hown hK hP 0 rfl rfl 38 (by decide) (hw _ tw_415) (fun _ h9 => h9) rfl dX8_evens_94 ?_
        refine lv_iload_n hx hb dX8_evens_97 rfl (lv_at hl 4 rfl) ?_
        refine lv_dup2_11 hx hb dX8_evens_98 rfl rfl ?_
        refine va_iald hx hb hK hP 1 0 rfl rfl (vp_in_iff.mpr (by rw [zz_toInt qa (by omega)]; constructor <;> omega)) dX8_evens_99 ?_
        refine zz_seti (gz qa) (congrArg gz (zz_cl (by omega))) ?_
        refine lv_iload hx hb dX8_evens_100 (lv_at hl 0 rfl) ?_
        refine lv_iadd hx hb dX8_evens_102 ?_
        refine va_iast hx hb hK hP hD hS 1 0 rfl rfl (vp_in_iff.mpr (by rw [zz_toInt qa (by omega)]; constructor <;> omega)) dX8_evens_103 (fun H locs hP hD hS => ?_)
        obtain ⟨hP, hD⟩ := zz_ty (D := (dC, dI)) (cl := vwCl) (A := A) (H := H) [(b 0, .inr (8, [.ref (b 1), .int (nI mt), .int (gg 2), .int (gg 3), .int (gg 4), .int (gg 5), .int (gg 6), .int (gg 7), .int (gg 8), .int (gg 9), .ref (b 11), .ref (b 12), .ref (b 13), .int (nI mc), .int (nI mh), .ref (b 16), .ref (b 17), .ref (b 18), .ref (b 19), .ref (b 20), .ref (b 21), .ref (b 22), .ref (b 23), .ref (b 24), .int (nI mf), .ref (b 26), .ref (b 27), .ref (b 28), .ref (b 29), .ref (b 30), .ref (b 31), .ref (b 32), .int (gg 32), .int (nI md), .ref (b 35), .ref (b 36), .ref (b 37), .ref (b 38), .ref (b 39), .ref (b 40), .int (nI (pm + 1)), .ref (b 42), .ref (b 43), .ref (b 44), .int (gg 44), .ref (b 46), .ref (b 47), .int (gg 47), .ref (b 49)])), (b 39, .inl (cI, 8, .inl (upd gz (Int32.toNatClampNeg (nI qa)) ((gz qa) + ng2)))), (b 42, .inl (cI, 8, .inl (upd z1 (Int32.toNatClampNeg (nI pm)) (nI qa)))), (b 43, .inl (cI, 8, .inl (upd z2 (Int32.toNatClampNeg (nI pm)) (nI qb)))), (b 44, .inl (cI, 8, .inl (upd z3 (Int32.toNatClampNeg (nI pm)) ng2)))] hP hD rfl
        refine lv_aload_n hx hb dX8_evens_104 rfl (lv_at hl 2 rfl) ?_
        refine va_get (D := (dC, dI)) (ci := 8) (v := .ref (b 39)) (C := RX8) (T := TX8) (N := 49) hx hb hw zz_inX8 hown hK hP 0 rfl rfl 38 (by decide) (hw _ tw_415) (fun _ h9 => h9) rfl dX8_evens_105 ?_
        refine lv_iload_n hx hb dX8_evens_108 rfl (lv_at hl 1 rfl) ?_
        refine lv_dup2_11 hx hb dX8_evens_109 rfl rfl ?_
        refine va_iald hx hb hK hP 1 0 rfl rfl (vp_in_iff.mpr (by rw [zz_toInt qb (by omega)]; constructor <;> omega)) dX8_evens_110 ?_
        refine zz_seti ((upd gz (Int32.toNatClampNeg (nI qa)) ((gz qa) + ng2)) qb) (congrArg (upd gz (Int32.toNatClampNeg (nI qa)) ((gz qa) + ng2)) (zz_cl (by omega))) ?_
        refine lv_iload hx hb dX8_evens_111 (lv_at hl 0 rfl) ?_
        refine lv_isub hx hb dX8_evens_113 ?_
        refine va_iast hx hb hK hP hD hS 1 0 rfl rfl (vp_in_iff.mpr (by rw [zz_toInt qb (by omega)]; constructor <;> omega)) dX8_evens_114 (fun H locs hP hD hS => ?_)
        obtain ⟨hP, hD⟩ := zz_ty (D := (dC, dI)) (cl := vwCl) (A := A) (H := H) [(b 0, .inr (8, [.ref (b 1), .int (nI mt), .int (gg 2), .int (gg 3), .int (gg 4), .int (gg 5), .int (gg 6), .int (gg 7), .int (gg 8), .int (gg 9), .ref (b 11), .ref (b 12), .ref (b 13), .int (nI mc), .int (nI mh), .ref (b 16), .ref (b 17), .ref (b 18), .ref (b 19), .ref (b 20), .ref (b 21), .ref (b 22), .ref (b 23), .ref (b 24), .int (nI mf), .ref (b 26), .ref (b 27), .ref (b 28), .ref (b 29), .ref (b 30), .ref (b 31), .ref (b 32), .int (gg 32), .int (nI md), .ref (b 35), .ref (b 36), .ref (b 37), .ref (b 38), .ref (b 39), .ref (b 40), .int (nI (pm + 1)), .ref (b 42), .ref (b 43), .ref (b 44), .int (gg 44), .ref (b 46), .ref (b 47), .int (gg 47), .ref (b 49)])), (b 39, .inl (cI, 8, .inl (upd (upd gz (Int32.toNatClampNeg (nI qa)) ((gz qa) + ng2)) (Int32.toNatClampNeg (nI qb)) (((upd gz (Int32.toNatClampNeg (nI qa)) ((gz qa) + ng2)) qb) - ng2)))), (b 42, .inl (cI, 8, .inl (upd z1 (Int32.toNatClampNeg (nI pm)) (nI qa)))), (b 43, .inl (cI, 8, .inl (upd z2 (Int32.toNatClampNeg (nI pm)) (nI qb)))), (b 44, .inl (cI, 8, .inl (upd z3 (Int32.toNatClampNeg (nI pm)) ng2)))] hP hD rfl
        obtain ⟨gz2, egz2⟩ : ∃ z : Nat → Int32, z = (upd (upd gz (Int32.toNatClampNeg (nI qa)) ((gz qa) + ng2)) (Int32.toNatClampNeg (nI qb)) (((upd gz (Int32.toNatClampNeg (nI qa)) ((gz qa) + ng2)) qb) - ng2)) := ⟨_, rfl⟩
        have hP : va_P (dC, dI) vwCl [(b 0, .inr (8, [.ref (b 1), .int (nI mt), .int (gg 2), .int (gg 3), .int (gg 4), .int (gg 5), .int (gg 6), .int (gg 7), .int (gg 8), .int (gg 9), .ref (b 11), .ref (b 12), .ref (b 13), .int (nI mc), .int (nI mh), .ref (b 16), .ref (b 17), .ref (b 18), .ref (b 19), .ref (b 20), .ref (b 21), .ref (b 22), .ref (b 23), .ref (b 24), .int (nI mf), .ref (b 26), .ref (b 27), .ref (b 28), .ref (b 29), .ref (b 30), .ref (b 31), .ref (b 32), .int (gg 32), .int (nI md), .ref (b 35), .ref (b 36), .ref (b 37), .ref (b 38), .ref (b 39), .ref (b 40), .int (nI (pm + 1)), .ref (b 42), .ref (b 43), .ref (b 44), .int (gg 44), .ref (b 46), .ref (b 47), .int (gg 47), .ref (b 49)])), (b 39, .inl (cI, 8, .inl gz2)), (b 42, .inl (cI, 8, .inl (upd z1 (Int32.toNatClampNeg (nI pm)) (nI qa)))), (b 43, .inl (cI, 8, .inl (upd z2 (Int32.toNatClampNeg (nI pm)) (nI qb)))), (b 44, .inl (cI, 8, .inl (upd z3 (Int32.toNatClampNeg (nI pm)) ng2)))] H := by rw [egz2]; exact hP
        have hD : va_D A [(b 0, .inr (8, [.ref (b 1), .int (nI mt), .int (gg 2), .int (gg 3), .int (gg 4), .int (gg 5), .int (gg 6), .int (gg 7), .int (gg 8), .int (gg 9), .ref (b 11), .ref (b 12), .ref (b 13), .int (nI mc), .int (nI mh), .ref (b 16), .ref (b 17), .ref (b 18), .ref (b 19), .ref (b 20), .ref (b 21), .ref (b 22), .ref (b 23), .ref (b 24), .int (nI mf), .ref (b 26), .ref (b 27), .ref (b 28), .ref (b 29), .ref (b 30), .ref (b 31), .ref (b 32), .int (gg 32), .int (nI md), .ref (b 35), .ref (b 36), .ref (b 37), .ref (b 38), .ref (b 39), .ref (b 40), .int (nI (pm + 1)), .ref (b 42), .ref (b 43), .ref (b 44), .int (gg 44), .ref (b 46), .ref (b 47), .int (gg 47), .ref (b 49)])), (b 39, .inl (cI, 8, .inl gz2)), (b 42, .inl (cI, 8, .inl (upd z1 (Int32.toNatClampNeg (nI pm)) (nI qa)))), (b 43, .inl (cI, 8, .inl (upd z2 (Int32.toNatClampNeg (nI pm)) (nI qb)))), (b 44, .inl (cI, 8, .inl (upd z3 (Int32.toNatClampNeg (nI pm)) ng2)))] := by rw [egz2]; exact hD
        have hev := zz_ev (v := ng2) hmh hqa hqb pa pb (Or.inl ⟨zng2, by omega⟩) ir
        rw [← egz2] at hev
        obtain ⟨v1, v2, v3, v4⟩ := hev
        refine lv_aload_n hx hb dX8_evens_115 rfl (lv_at hl 2 rfl) ?_
        refine lv_iload_n hx hb dX8_evens_116 rfl (lv_at hl 3 rfl) ?_
        refine lv_iconst (v := 1) hx hb dX8_evens_117 (by decide) ?_
        obtain ⟨hPc, hDc⟩ := zz_sub2 (ws' := [(b 0, .inr (8, [.ref (b 1), .int (nI mt), .int (gg 2), .int (gg 3), .int (gg 4), .int (gg 5), .int (gg 6), .int (gg 7), .int (gg 8), .int (gg 9), .ref (b 11), .ref (b 12), .ref (b 13), .int (nI mc), .int (nI mh), .ref (b 16), .ref (b 17), .ref (b 18), .ref (b 19), .ref (b 20), .ref (b 21), .ref (b 22), .ref (b 23), .ref (b 24), .int (nI mf), .ref (b 26), .ref (b 27), .ref (b 28), .ref (b 29), .ref (b 30), .ref (b 31), .ref (b 32), .int (gg 32), .int (nI md), .ref (b 35), .ref (b 36), .ref (b 37), .ref (b 38), .ref (b 39), .ref (b 40), .int (nI (pm + 1)), .ref (b 42), .ref (b 43), .ref (b 44), .int (gg 44), .ref (b 46), .ref (b 47), .int (gg 47), .ref (b 49)])), (b 39, .inl (cI, 8, .inl gz2))]) hP hD [0, 1] (by decide) rfl
        have hKc := hK.sub (tys' := [(cI, .int)]) [0] rfl
        have hFc := zz_free0 hS hA
        refine va_calli (va_runV (As := [.int (nI sx), .int 1]) (rest := []) ⟨hx, hb, hml, hown, hw⟩ (m_firstB l dC dI b gg mt mc mh mf md (pm + 1) cI gz2 sx H.size (by omega) (by omega)) ⟨callB_of 2 hw (zz_good tw_424) rfl rfl rfl (hw _ tw_184) (hw _ tw_425) (by decide +kernel) ⟨Nat.le_of_ble_eq_true rfl, Nat.le_of_ble_eq_true rfl⟩, (hw _ tw_426), (hw _ tw_427)⟩ ⟨zz_blind, va_recv hKc hPc (ci := 8) (q0 := 0) rfl rfl, zz_pre hPc hKc hDc hN⟩ rfl rfl hl.1 rfl (lv_room (Nat.le_of_ble_eq_true rfl)) dX8_evens_118 ⟨Nat.le_of_ble_eq_true rfl, Nat.le_of_ble_eq_true rfl⟩) hS (fun q _ h => hFc q h) hFc (fun r_6 u_6 t H1 locs ht hvm e_6 hB hz1 hk1 hS => ?_)
        try dsimp only at e_6
        have hP := zz_keep hP hk1
        clear hk1 hB ht hvm
        generalize H1 = H at hP hS ⊢
        refine lv_istore_n (lv' := [(2, .int r_6), (4, .int ng2), (3, .int (nI qb)), (0, .ref (b 0)), (1, .int (nI sx))]) hx hb dX8_evens_121 rfl hl (by decide) rfl (fun ls hl => ?_)
        refine lv_goto (tgt := 7) hx hb dX8_evens_122 (by decide) ?_
        exact ih_7 (r_6, (pm + 1), gz2, (upd z1 (Int32.toNatClampNeg (nI pm)) (nI qa)), (upd z2 (Int32.toNatClampNeg (nI pm)) (nI qb)), (upd z3 (Int32.toNatClampNeg (nI pm)) ng2)) ⟨e_6, v1.trans iz, v2, by omega, fun h hh => (v4 h hh).trans (is0 h hh)⟩ (show zz_cn gz2 mh < zz_cn gz mh from by omega) _ _ _ (hP.sub [0, 1, 2, 3, 4] rfl) (hD.sub [0, 1, 2, 3, 4] (by decide) rfl) hS (lv_sub hl [3, 4, 0] rfl)
