theorem tw_444 : Cond.fieldLink RX8 106 "HandsReturnedModel" "order" "[I" ∈ zz_all := zz_m3 210 rfl rfl
theorem tw_445 : Cond.fieldLink RX8 292 "HandsReturnedModel" "waiting" "I" ∈ zz_all := zz_m3 209 rfl rfl
theorem tw_446 : Cond.code yX8_swaps cX8_swaps 4 none ∈ zz_all := zz_m5 55 rfl rfl
theorem tw_447 : Cond.methodLink RX8 295 yX8_swaps ∈ zz_all := zz_m5 52 rfl rfl
theorem tw_448 : Cond.instanceMethod yX8_swaps ∈ zz_all := zz_m5 54 rfl rfl
theorem tw_449 : Cond.selects RX8 yX8_swaps yX8_swaps ∈ zz_all := zz_ms 61 rfl rfl
theorem zy_b40mr_0 : decode cX8_swaps 0 = .ok (.aload_n 0, 1) ∧ decode cX8_swaps 1 = .ok (.getfield 106, 3) ∧ decode cX8_swaps 4 = .ok (.iload_n 1, 1) ∧ decode cX8_swaps 5 = .ok (.iaload, 1) ∧ decode cX8_swaps 6 = .ok (.istore_n 3, 1) ∧ decode cX8_swaps 7 = .ok (.aload_n 0, 1) ∧ decode cX8_swaps 8 = .ok (.getfield 106, 3) ∧ decode cX8_swaps 11 = .ok (.iload_n 1, 1) := by decide +kernel
theorem dX8_swaps_0 : decode cX8_swaps 0 = .ok (.aload_n 0, 1) := zy_b40mr_0.1
theorem dX8_swaps_1 : decode cX8_swaps 1 = .ok (.getfield 106, 3) := zy_b40mr_0.2.1
theorem dX8_swaps_4 : decode cX8_swaps 4 = .ok (.iload_n 1, 1) := zy_b40mr_0.2.2.1
theorem dX8_swaps_5 : decode cX8_swaps 5 = .ok (.iaload, 1) := zy_b40mr_0.2.2.2.1
theorem dX8_swaps_6 : decode cX8_swaps 6 = .ok (.istore_n 3, 1) := zy_b40mr_0.2.2.2.2.1
theorem dX8_swaps_7 : decode cX8_swaps 7 = .ok (.aload_n 0, 1) := zy_b40mr_0.2.2.2.2.2.1
theorem dX8_swaps_8 : decode cX8_swaps 8 = .ok (.getfield 106, 3) := zy_b40mr_0.2.2.2.2.2.2.1
theorem dX8_swaps_11 : decode cX8_swaps 11 = .ok (.iload_n 1, 1) := zy_b40mr_0.2.2.2.2.2.2.2
theorem zy_b40mr_1 : decode cX8_swaps 12 = .ok (.aload_n 0, 1) ∧ decode cX8_swaps 13 = .ok (.getfield 106, 3) ∧ decode cX8_swaps 16 = .ok (.iload_n 2, 1) ∧ decode cX8_swaps 17 = .ok (.iaload, 1) ∧ decode cX8_swaps 18 = .ok (.iastore, 1) ∧ decode cX8_swaps 19 = .ok (.aload_n 0, 1) ∧ decode cX8_swaps 20 = .ok (.getfield 106, 3) ∧ decode cX8_swaps 23 = .ok (.iload_n 2, 1) := by decide +kernel
theorem dX8_swaps_12 : decode cX8_swaps 12 = .ok (.aload_n 0, 1) := zy_b40mr_1.1
theorem dX8_swaps_13 : decode cX8_swaps 13 = .ok (.getfield 106, 3) := zy_b40mr_1.2.1
theorem dX8_swaps_16 : decode cX8_swaps 16 = .ok (.iload_n 2, 1) := zy_b40mr_1.2.2.1
theorem dX8_swaps_17 : decode cX8_swaps 17 = .ok (.iaload, 1) := zy_b40mr_1.2.2.2.1
theorem dX8_swaps_18 : decode cX8_swaps 18 = .ok (.iastore, 1) := zy_b40mr_1.2.2.2.2.1
theorem dX8_swaps_19 : decode cX8_swaps 19 = .ok (.aload_n 0, 1) := zy_b40mr_1.2.2.2.2.2.1
theorem dX8_swaps_20 : decode cX8_swaps 20 = .ok (.getfield 106, 3) := zy_b40mr_1.2.2.2.2.2.2.1
theorem dX8_swaps_23 : decode cX8_swaps 23 = .ok (.iload_n 2, 1) := zy_b40mr_1.2.2.2.2.2.2.2
theorem zy_b40mr_2 : decode cX8_swaps 24 = .ok (.iload_n 3, 1) ∧ decode cX8_swaps 25 = .ok (.iastore, 1) ∧ decode cX8_swaps 26 = .ok (.return_, 1) := by decide +kernel
theorem dX8_swaps_24 : decode cX8_swaps 24 = .ok (.iload_n 3, 1) := zy_b40mr_2.1
theorem dX8_swaps_25 : decode cX8_swaps 25 = .ok (.iastore, 1) := zy_b40mr_2.2.1
theorem dX8_swaps_26 : decode cX8_swaps 26 = .ok (.return_, 1) := zy_b40mr_2.2.2
theorem zy_b40mr_3 : decode cX8_nextOrder 0 = .ok (.aload_n 0, 1) ∧ decode cX8_nextOrder 1 = .ok (.getfield 292, 3) ∧ decode cX8_nextOrder 4 = .ok (.iconst 2, 1) ∧ decode cX8_nextOrder 5 = .ok (.isub, 1) ∧ decode cX8_nextOrder 6 = .ok (.istore_n 1, 1) ∧ decode cX8_nextOrder 7 = .ok (.iload_n 1, 1) ∧ decode cX8_nextOrder 8 = .ok (.ifCond .lt 26, 3) ∧ decode cX8_nextOrder 11 = .ok (.aload_n 0, 1) := by decide +kernel
theorem dX8_nextOrder_0 : decode cX8_nextOrder 0 = .ok (.aload_n 0, 1) := zy_b40mr_3.1
theorem dX8_nextOrder_1 : decode cX8_nextOrder 1 = .ok (.getfield 292, 3) := zy_b40mr_3.2.1
theorem dX8_nextOrder_4 : decode cX8_nextOrder 4 = .ok (.iconst 2, 1) := zy_b40mr_3.2.2.1
theorem dX8_nextOrder_5 : decode cX8_nextOrder 5 = .ok (.isub, 1) := zy_b40mr_3.2.2.2.1
theorem dX8_nextOrder_6 : decode cX8_nextOrder 6 = .ok (.istore_n 1, 1) := zy_b40mr_3.2.2.2.2.1
theorem dX8_nextOrder_7 : decode cX8_nextOrder 7 = .ok (.iload_n 1, 1) := zy_b40mr_3.2.2.2.2.2.1
theorem dX8_nextOrder_8 : decode cX8_nextOrder 8 = .ok (.ifCond .lt 26, 3) := zy_b40mr_3.2.2.2.2.2.2.1
theorem dX8_nextOrder_11 : decode cX8_nextOrder 11 = .ok (.aload_n 0, 1) := zy_b40mr_3.2.2.2.2.2.2.2
theorem zy_b40mr_4 : decode cX8_nextOrder 12 = .ok (.getfield 106, 3) ∧ decode cX8_nextOrder 15 = .ok (.iload_n 1, 1) ∧ decode cX8_nextOrder 16 = .ok (.iaload, 1) ∧ decode cX8_nextOrder 17 = .ok (.aload_n 0, 1) ∧ decode cX8_nextOrder 18 = .ok (.getfield 106, 3) ∧ decode cX8_nextOrder 21 = .ok (.iload_n 1, 1) ∧ decode cX8_nextOrder 22 = .ok (.iconst 1, 1) ∧ decode cX8_nextOrder 23 = .ok (.iadd, 1) := by decide +kernel
theorem dX8_nextOrder_12 : decode cX8_nextOrder 12 = .ok (.getfield 106, 3) := zy_b40mr_4.1
theorem dX8_nextOrder_15 : decode cX8_nextOrder 15 = .ok (.iload_n 1, 1) := zy_b40mr_4.2.1
theorem dX8_nextOrder_16 : decode cX8_nextOrder 16 = .ok (.iaload, 1) := zy_b40mr_4.2.2.1
theorem dX8_nextOrder_17 : decode cX8_nextOrder 17 = .ok (.aload_n 0, 1) := zy_b40mr_4.2.2.2.1
theorem dX8_nextOrder_18 : decode cX8_nextOrder 18 = .ok (.getfield 106, 3) := zy_b40mr_4.2.2.2.2.1
theorem dX8_nextOrder_21 : decode cX8_nextOrder 21 = .ok (.iload_n 1, 1) := zy_b40mr_4.2.2.2.2.2.1
theorem dX8_nextOrder_22 : decode cX8_nextOrder 22 = .ok (.iconst 1, 1) := zy_b40mr_4.2.2.2.2.2.2.1
theorem dX8_nextOrder_23 : decode cX8_nextOrder 23 = .ok (.iadd, 1) := zy_b40mr_4.2.2.2.2.2.2.2
theorem zy_b40mr_5 : decode cX8_nextOrder 24 = .ok (.iaload, 1) ∧ decode cX8_nextOrder 25 = .ok (.if_icmp .le 9, 3) ∧ decode cX8_nextOrder 28 = .ok (.iinc 1 (-1), 3) ∧ decode cX8_nextOrder 31 = .ok (.goto (-24), 3) ∧ decode cX8_nextOrder 34 = .ok (.iload_n 1, 1) ∧ decode cX8_nextOrder 35 = .ok (.ifCond .ge 5, 3) ∧ decode cX8_nextOrder 38 = .ok (.iconst 0, 1) ∧ decode cX8_nextOrder 39 = .ok (.ireturn, 1) := by decide +kernel
theorem dX8_nextOrder_24 : decode cX8_nextOrder 24 = .ok (.iaload, 1) := zy_b40mr_5.1
theorem dX8_nextOrder_25 : decode cX8_nextOrder 25 = .ok (.if_icmp .le 9, 3) := zy_b40mr_5.2.1
theorem dX8_nextOrder_28 : decode cX8_nextOrder 28 = .ok (.iinc 1 (-1), 3) := zy_b40mr_5.2.2.1
theorem dX8_nextOrder_31 : decode cX8_nextOrder 31 = .ok (.goto (-24), 3) := zy_b40mr_5.2.2.2.1
theorem dX8_nextOrder_34 : decode cX8_nextOrder 34 = .ok (.iload_n 1, 1) := zy_b40mr_5.2.2.2.2.1
theorem dX8_nextOrder_35 : decode cX8_nextOrder 35 = .ok (.ifCond .ge 5, 3) := zy_b40mr_5.2.2.2.2.2.1
theorem dX8_nextOrder_38 : decode cX8_nextOrder 38 = .ok (.iconst 0, 1) := zy_b40mr_5.2.2.2.2.2.2.1
theorem dX8_nextOrder_39 : decode cX8_nextOrder 39 = .ok (.ireturn, 1) := zy_b40mr_5.2.2.2.2.2.2.2
theorem zy_b40mr_6 : decode cX8_nextOrder 40 = .ok (.aload_n 0, 1) ∧ decode cX8_nextOrder 41 = .ok (.getfield 292, 3) ∧ decode cX8_nextOrder 44 = .ok (.iconst 1, 1) ∧ decode cX8_nextOrder 45 = .ok (.isub, 1) ∧ decode cX8_nextOrder 46 = .ok (.istore_n 2, 1) ∧ decode cX8_nextOrder 47 = .ok (.aload_n 0, 1) ∧ decode cX8_nextOrder 48 = .ok (.getfield 106, 3) ∧ decode cX8_nextOrder 51 = .ok (.iload_n 2, 1) := by decide +kernel
theorem dX8_nextOrder_40 : decode cX8_nextOrder 40 = .ok (.aload_n 0, 1) := zy_b40mr_6.1
theorem dX8_nextOrder_41 : decode cX8_nextOrder 41 = .ok (.getfield 292, 3) := zy_b40mr_6.2.1
theorem dX8_nextOrder_44 : decode cX8_nextOrder 44 = .ok (.iconst 1, 1) := zy_b40mr_6.2.2.1
theorem dX8_nextOrder_45 : decode cX8_nextOrder 45 = .ok (.isub, 1) := zy_b40mr_6.2.2.2.1
theorem dX8_nextOrder_46 : decode cX8_nextOrder 46 = .ok (.istore_n 2, 1) := zy_b40mr_6.2.2.2.2.1
theorem dX8_nextOrder_47 : decode cX8_nextOrder 47 = .ok (.aload_n 0, 1) := zy_b40mr_6.2.2.2.2.2.1
theorem dX8_nextOrder_48 : decode cX8_nextOrder 48 = .ok (.getfield 106, 3) := zy_b40mr_6.2.2.2.2.2.2.1
theorem dX8_nextOrder_51 : decode cX8_nextOrder 51 = .ok (.iload_n 2, 1) := zy_b40mr_6.2.2.2.2.2.2.2
theorem zy_b40mr_7 : decode cX8_nextOrder 52 = .ok (.iaload, 1) ∧ decode cX8_nextOrder 53 = .ok (.aload_n 0, 1) ∧ decode cX8_nextOrder 54 = .ok (.getfield 106, 3) ∧ decode cX8_nextOrder 57 = .ok (.iload_n 1, 1) ∧ decode cX8_nextOrder 58 = .ok (.iaload, 1) ∧ decode cX8_nextOrder 59 = .ok (.if_icmp .ge 9, 3) ∧ decode cX8_nextOrder 62 = .ok (.iinc 2 (-1), 3) ∧ decode cX8_nextOrder 65 = .ok (.goto (-18), 3) := by decide +kernel
theorem dX8_nextOrder_52 : decode cX8_nextOrder 52 = .ok (.iaload, 1) := zy_b40mr_7.1
theorem dX8_nextOrder_53 : decode cX8_nextOrder 53 = .ok (.aload_n 0, 1) := zy_b40mr_7.2.1
theorem dX8_nextOrder_54 : decode cX8_nextOrder 54 = .ok (.getfield 106, 3) := zy_b40mr_7.2.2.1
theorem dX8_nextOrder_57 : decode cX8_nextOrder 57 = .ok (.iload_n 1, 1) := zy_b40mr_7.2.2.2.1
theorem dX8_nextOrder_58 : decode cX8_nextOrder 58 = .ok (.iaload, 1) := zy_b40mr_7.2.2.2.2.1
theorem dX8_nextOrder_59 : decode cX8_nextOrder 59 = .ok (.if_icmp .ge 9, 3) := zy_b40mr_7.2.2.2.2.2.1
theorem dX8_nextOrder_62 : decode cX8_nextOrder 62 = .ok (.iinc 2 (-1), 3) := zy_b40mr_7.2.2.2.2.2.2.1
theorem dX8_nextOrder_65 : decode cX8_nextOrder 65 = .ok (.goto (-18), 3) := zy_b40mr_7.2.2.2.2.2.2.2
theorem zy_b40mr_8 : decode cX8_nextOrder 68 = .ok (.aload_n 0, 1) ∧ decode cX8_nextOrder 69 = .ok (.iload_n 1, 1) ∧ decode cX8_nextOrder 70 = .ok (.iload_n 2, 1) ∧ decode cX8_nextOrder 71 = .ok (.invokevirtual 295, 3) ∧ decode cX8_nextOrder 74 = .ok (.iload_n 1, 1) ∧ decode cX8_nextOrder 75 = .ok (.iconst 1, 1) ∧ decode cX8_nextOrder 76 = .ok (.iadd, 1) ∧ decode cX8_nextOrder 77 = .ok (.istore_n 3, 1) := by decide +kernel
theorem dX8_nextOrder_68 : decode cX8_nextOrder 68 = .ok (.aload_n 0, 1) := zy_b40mr_8.1
theorem dX8_nextOrder_69 : decode cX8_nextOrder 69 = .ok (.iload_n 1, 1) := zy_b40mr_8.2.1
theorem dX8_nextOrder_70 : decode cX8_nextOrder 70 = .ok (.iload_n 2, 1) := zy_b40mr_8.2.2.1
theorem dX8_nextOrder_71 : decode cX8_nextOrder 71 = .ok (.invokevirtual 295, 3) := zy_b40mr_8.2.2.2.1
theorem dX8_nextOrder_74 : decode cX8_nextOrder 74 = .ok (.iload_n 1, 1) := zy_b40mr_8.2.2.2.2.1
theorem dX8_nextOrder_75 : decode cX8_nextOrder 75 = .ok (.iconst 1, 1) := zy_b40mr_8.2.2.2.2.2.1
theorem dX8_nextOrder_76 : decode cX8_nextOrder 76 = .ok (.iadd, 1) := zy_b40mr_8.2.2.2.2.2.2.1
theorem dX8_nextOrder_77 : decode cX8_nextOrder 77 = .ok (.istore_n 3, 1) := zy_b40mr_8.2.2.2.2.2.2.2
theorem zy_b40mr_9 : decode cX8_nextOrder 78 = .ok (.aload_n 0, 1) ∧ decode cX8_nextOrder 79 = .ok (.getfield 292, 3) ∧ decode cX8_nextOrder 82 = .ok (.iconst 1, 1) ∧ decode cX8_nextOrder 83 = .ok (.isub, 1) ∧ decode cX8_nextOrder 84 = .ok (.istore 4, 2) ∧ decode cX8_nextOrder 86 = .ok (.iload_n 3, 1) ∧ decode cX8_nextOrder 87 = .ok (.iload 4, 2) ∧ decode cX8_nextOrder 89 = .ok (.if_icmp .ge 19, 3) := by decide +kernel
theorem dX8_nextOrder_78 : decode cX8_nextOrder 78 = .ok (.aload_n 0, 1) := zy_b40mr_9.1
theorem dX8_nextOrder_79 : decode cX8_nextOrder 79 = .ok (.getfield 292, 3) := zy_b40mr_9.2.1
theorem dX8_nextOrder_82 : decode cX8_nextOrder 82 = .ok (.iconst 1, 1) := zy_b40mr_9.2.2.1
theorem dX8_nextOrder_83 : decode cX8_nextOrder 83 = .ok (.isub, 1) := zy_b40mr_9.2.2.2.1
theorem dX8_nextOrder_84 : decode cX8_nextOrder 84 = .ok (.istore 4, 2) := zy_b40mr_9.2.2.2.2.1
theorem dX8_nextOrder_86 : decode cX8_nextOrder 86 = .ok (.iload_n 3, 1) := zy_b40mr_9.2.2.2.2.2.1
theorem dX8_nextOrder_87 : decode cX8_nextOrder 87 = .ok (.iload 4, 2) := zy_b40mr_9.2.2.2.2.2.2.1
theorem dX8_nextOrder_89 : decode cX8_nextOrder 89 = .ok (.if_icmp .ge 19, 3) := zy_b40mr_9.2.2.2.2.2.2.2
theorem zy_b40mr_10 : decode cX8_nextOrder 92 = .ok (.aload_n 0, 1) ∧ decode cX8_nextOrder 93 = .ok (.iload_n 3, 1) ∧ decode cX8_nextOrder 94 = .ok (.iload 4, 2) ∧ decode cX8_nextOrder 96 = .ok (.invokevirtual 295, 3) ∧ decode cX8_nextOrder 99 = .ok (.iinc 3 1, 3) ∧ decode cX8_nextOrder 102 = .ok (.iinc 4 (-1), 3) ∧ decode cX8_nextOrder 105 = .ok (.goto (-19), 3) ∧ decode cX8_nextOrder 108 = .ok (.iconst 1, 1) := by decide +kernel
theorem dX8_nextOrder_92 : decode cX8_nextOrder 92 = .ok (.aload_n 0, 1) := zy_b40mr_10.1
theorem dX8_nextOrder_93 : decode cX8_nextOrder 93 = .ok (.iload_n 3, 1) := zy_b40mr_10.2.1
theorem dX8_nextOrder_94 : decode cX8_nextOrder 94 = .ok (.iload 4, 2) := zy_b40mr_10.2.2.1
theorem dX8_nextOrder_96 : decode cX8_nextOrder 96 = .ok (.invokevirtual 295, 3) := zy_b40mr_10.2.2.2.1
theorem dX8_nextOrder_99 : decode cX8_nextOrder 99 = .ok (.iinc 3 1, 3) := zy_b40mr_10.2.2.2.2.1
theorem dX8_nextOrder_102 : decode cX8_nextOrder 102 = .ok (.iinc 4 (-1), 3) := zy_b40mr_10.2.2.2.2.2.1
theorem dX8_nextOrder_105 : decode cX8_nextOrder 105 = .ok (.goto (-19), 3) := zy_b40mr_10.2.2.2.2.2.2.1
theorem dX8_nextOrder_108 : decode cX8_nextOrder 108 = .ok (.iconst 1, 1) := zy_b40mr_10.2.2.2.2.2.2.2
theorem dX8_nextOrder_109 : decode cX8_nextOrder 109 = .ok (.ireturn, 1) := by decide +kernel
set_option maxHeartbeats 4000000 in
set_option maxRecDepth 100000 in
theorem m_swaps (l : Launch) (dC : Nat → ClassId) (dI : Nat → Nat → Nat) (b : Nat → Nat) (gg : Nat → Int32) (mt : Nat) (mc : Nat) (mh : Nat) (mf : Nat) (md : Nat) (wt : Nat) (pz : Int32) (cI : ClassId) (od : Nat → Int32) (n1 : Nat) (n2 : Nat) (sz : Nat) (hn1 : n1 < 7) (hn2 : n2 < 7) : Met l yX8_swaps (zz_w yX8_swaps cX8_swaps 4 none) ({ frames := 0, cells := 0, slots := 0, locals := 0 }) (va_Pc [.ref (b 0), .int (nI n1), .int (nI n2)] (zz_B (dC, dI) sz [(b 0, .inr (8, [.ref (b 1), .int (nI mt), .int (gg 2), .int (gg 3), .int (gg 4), .int (gg 5), .int (gg 6), .int (gg 7), .int (gg 8), .int (gg 9), .ref (b 11), .ref (b 12), .ref (b 13), .int (nI mc), .int (nI mh), .ref (b 16), .ref (b 17), .ref (b 18), .ref (b 19), .ref (b 20), .ref (b 21), .ref (b 22), .ref (b 23), .ref (b 24), .int (nI mf), .ref (b 26), .ref (b 27), .ref (b 28), .ref (b 29), .ref (b 30), .ref (b 31), .ref (b 32), .int (gg 32), .int (nI md), .ref (b 35), .ref (b 36), .ref (b 37), .ref (b 38), .ref (b 39), .ref (b 40), .int (gg 40), .ref (b 42), .ref (b 43), .ref (b 44), .int (nI wt), .ref (b 46), .ref (b 47), .int pz, .ref (b 49)])), (b 46, .inl (cI, 7, .inl od))] [(cI, .int)])) (va_Qv (fun (o2 : Nat → Int32) => o2 = zz_sw od n1 n2) (fun (u0 : Nat → Int32) (t : State) => va_P (dC, dI) vwCl [(b 0, .inr (8, [.ref (b 1), .int (nI mt), .int (gg 2), .int (gg 3), .int (gg 4), .int (gg 5), .int (gg 6), .int (gg 7), .int (gg 8), .int (gg 9), .ref (b 11), .ref (b 12), .ref (b 13), .int (nI mc), .int (nI mh), .ref (b 16), .ref (b 17), .ref (b 18), .ref (b 19), .ref (b 20), .ref (b 21), .ref (b 22), .ref (b 23), .ref (b 24), .int (nI mf), .ref (b 26), .ref (b 27), .ref (b 28), .ref (b 29), .ref (b 30), .ref (b 31), .ref (b 32), .int (gg 32), .int (nI md), .ref (b 35), .ref (b 36), .ref (b 37), .ref (b 38), .ref (b 39), .ref (b 40), .int (gg 40), .ref (b 42), .ref (b 43), .ref (b 44), .int (nI wt), .ref (b 46), .ref (b 47), .int pz, .ref (b 49)])), (b 46, .inl (cI, 7, .inl u0))] t.heap ∧ va_K (dC, dI) vwCl [(cI, .int)] t ∧ va_D (va_A [(b 0, .inr (8, [.ref (b 1), .int (nI mt), .int (gg 2), .int (gg 3), .int (gg 4), .int (gg 5), .int (gg 6), .int (gg 7), .int (gg 8), .int (gg 9), .ref (b 11), .ref (b 12), .ref (b 13), .int (nI mc), .int (nI mh), .ref (b 16), .ref (b 17), .ref (b 18), .ref (b 19), .ref (b 20), .ref (b 21), .ref (b 22), .ref (b 23), .ref (b 24), .int (nI mf), .ref (b 26), .ref (b 27), .ref (b 28), .ref (b 29), .ref (b 30), .ref (b 31), .ref (b 32), .int (gg 32), .int (nI md), .ref (b 35), .ref (b 36), .ref (b 37), .ref (b 38), .ref (b 39), .ref (b 40), .int (gg 40), .ref (b 42), .ref (b 43), .ref (b 44), .int (nI wt), .ref (b 46), .ref (b 47), .int pz, .ref (b 49)])), (b 46, .inl (cI, 7, .inl od))] sz) [(b 0, .inr (8, [.ref (b 1), .int (nI mt), .int (gg 2), .int (gg 3), .int (gg 4), .int (gg 5), .int (gg 6), .int (gg 7), .int (gg 8), .int (gg 9), .ref (b 11), .ref (b 12), .ref (b 13), .int (nI mc), .int (nI mh), .ref (b 16), .ref (b 17), .ref (b 18), .ref (b 19), .ref (b 20), .ref (b 21), .ref (b 22), .ref (b 23), .ref (b 24), .int (nI mf), .ref (b 26), .ref (b 27), .ref (b 28), .ref (b 29), .ref (b 30), .ref (b 31), .ref (b 32), .int (gg 32), .int (nI md), .ref (b 35), .ref (b 36), .ref (b 37), .ref (b 38), .ref (b 39), .ref (b 40), .int (gg 40), .ref (b 42), .ref (b 43), .ref (b 44), .int (nI wt), .ref (b 46), .ref (b 47), .int pz, .ref (b 49)])), (b 46, .inl (cI, 7, .inl u0))]) (va_A [(b 0, .inr (8, [.ref (b 1), .int (nI mt), .int (gg 2), .int (gg 3), .int (gg 4), .int (gg 5), .int (gg 6), .int (gg 7), .int (gg 8), .int (gg 9), .ref (b 11), .ref (b 12), .ref (b 13), .int (nI mc), .int (nI mh), .ref (b 16), .ref (b 17), .ref (b 18), .ref (b 19), .ref (b 20), .ref (b 21), .ref (b 22), .ref (b 23), .ref (b 24), .int (nI mf), .ref (b 26), .ref (b 27), .ref (b 28), .ref (b 29), .ref (b 30), .ref (b 31), .ref (b 32), .int (gg 32), .int (nI md), .ref (b 35), .ref (b 36), .ref (b 37), .ref (b 38), .ref (b 39), .ref (b 40), .int (gg 40), .ref (b 42), .ref (b 43), .ref (b 44), .int (nI wt), .ref (b 46), .ref (b 47), .int pz, .ref (b 49)])), (b 46, .inl (cI, 7, .inl od))] sz)) 0 0 (va_A [(b 0, .inr (8, [.ref (b 1), .int (nI mt), .int (gg 2), .int (gg 3), .int (gg 4), .int (gg 5), .int (gg 6), .int (gg 7), .int (gg 8), .int (gg 9), .ref (b 11), .ref (b 12), .ref (b 13), .int (nI mc), .int (nI mh), .ref (b 16), .ref (b 17), .ref (b 18), .ref (b 19), .ref (b 20), .ref (b 21), .ref (b 22), .ref (b 23), .ref (b 24), .int (nI mf), .ref (b 26), .ref (b 27), .ref (b 28), .ref (b 29), .ref (b 30), .ref (b 31), .ref (b 32), .int (gg 32), .int (nI md), .ref (b 35), .ref (b 36), .ref (b 37), .ref (b 38), .ref (b 39), .ref (b 40), .int (gg 40), .ref (b 42), .ref (b 43), .ref (b 44), .int (nI wt), .ref (b 46), .ref (b 47), .int pz, .ref (b 49)])), (b 46, .inl (cI, 7, .inl od))] sz) := by
  refine Met.ofW (cc := cX8_swaps) (maxL := 4) (ret := none) (by decide) rfl ?_
  intro p e s m args below meth c s₁ B hml hv
  obtain ⟨rfl, hsz, hP, hK, hD0, hN⟩ := hv
  have hx := B.exec
  have hb := B.bytes
  have hr := B.returns
  have hts := atoms_spec (ws := zz_w yX8_swaps cX8_swaps 4 none) B.pre
  have hw : ∀ w ∈ zz_all, w.before _ s = true := fun w h => hts w (List.mem_cons_of_mem _ h)
  have hown : s.vm.findClass RX8 = some m.cls := findClass_of_methodNamed B.named
  have hlocks := B.notSynchronized
  subst hsz
  have hD := hD0.self (sz := s.heap.size)
  generalize hAe : va_A [(b 0, .inr (8, [.ref (b 1), .int (nI mt), .int (gg 2), .int (gg 3), .int (gg 4), .int (gg 5), .int (gg 6), .int (gg 7), .int (gg 8), .int (gg 9), .ref (b 11), .ref (b 12), .ref (b 13), .int (nI mc), .int (nI mh), .ref (b 16), .ref (b 17), .ref (b 18), .ref (b 19), .ref (b 20), .ref (b 21), .ref (b 22), .ref (b 23), .ref (b 24), .int (nI mf), .ref (b 26), .ref (b 27), .ref (b 28), .ref (b 29), .ref (b 30), .ref (b 31), .ref (b 32), .int (gg 32), .int (nI md), .ref (b 35), .ref (b 36), .ref (b 37), .ref (b 38), .ref (b 39), .ref (b 40), .int (gg 40), .ref (b 42), .ref (b 43), .ref (b 44), .int (nI wt), .ref (b 46), .ref (b 47), .int pz, .ref (b 49)])), (b 46, .inl (cI, 7, .inl od))] s.heap.size = A at hD ⊢
  have hA : ∀ q : Nat, s.heap.size ≤ q → A q := fun q h => by rw [← hAe]; exact Or.inr h
  have hS : va_S A s.heap s.heap [] := va_S.rf
  have hP : va_P (dC, dI) vwCl [(b 0, .inr (8, [.ref (b 1), .int (nI mt), .int (gg 2), .int (gg 3), .int (gg 4), .int (gg 5), .int (gg 6), .int (gg 7), .int (gg 8), .int (gg 9), .ref (b 11), .ref (b 12), .ref (b 13), .int (nI mc), .int (nI mh), .ref (b 16), .ref (b 17), .ref (b 18), .ref (b 19), .ref (b 20), .ref (b 21), .ref (b 22), .ref (b 23), .ref (b 24), .int (nI mf), .ref (b 26), .ref (b 27), .ref (b 28), .ref (b 29), .ref (b 30), .ref (b 31), .ref (b 32), .int (gg 32), .int (nI md), .ref (b 35), .ref (b 36), .ref (b 37), .ref (b 38), .ref (b 39), .ref (b 40), .int (gg 40), .ref (b 42), .ref (b 43), .ref (b 44), .int (nI wt), .ref (b 46), .ref (b 47), .int pz, .ref (b 49)])), (b 46, .inl (cI, 7, .inl od))] s.heap := hP
  have hl := lv_entry ([.ref (b 0), .int (nI n1), .int (nI n2)]) (n := 4) (Nat.le_of_ble_eq_true rfl)
  rw [lg_entry_eq]
  generalize (lg_sl ([.ref (b 0), .int (nI n1), .int (nI n2)]) ++ List.replicate (4 - (lg_sl ([.ref (b 0), .int (nI n1), .int (nI n2)])).length) Slot.unset).toArray = ls at hl ⊢
  have hl : lv_has ls 4 [(0, .ref (b 0)), (1, .int (nI n1)), (2, .int (nI n2))] := hl
  refine lv_aload_n hx hb dX8_swaps_0 rfl (lv_at hl 0 rfl) ?_
  refine va_get (D := (dC, dI)) (ci := 8) (v := .ref (b 46)) (C := RX8) (T := TX8) (N := 49) hx hb hw zz_inX8 hown hK hP 0 rfl rfl 45 (by decide) (hw _ tw_444) (fun _ h9 => h9) rfl dX8_swaps_1 ?_
  refine lv_iload_n hx hb dX8_swaps_4 rfl (lv_at hl 1 rfl) ?_
  refine va_iald hx hb hK hP 1 0 rfl rfl (vp_in_iff.mpr (by rw [zz_toInt n1 (by omega)]; constructor <;> omega)) dX8_swaps_5 ?_
  refine zz_seti (od n1) (congrArg od (zz_cl (by omega))) ?_
  refine lv_istore_n (lv' := [(3, .int (od n1)), (0, .ref (b 0)), (1, .int (nI n1)), (2, .int (nI n2))]) hx hb dX8_swaps_6 rfl hl (by decide) rfl (fun ls hl => ?_)
  refine lv_aload_n hx hb dX8_swaps_7 rfl (lv_at hl 1 rfl) ?_
  refine va_get (D := (dC, dI)) (ci := 8) (v := .ref (b 46)) (C := RX8) (T := TX8) (N := 49) hx hb hw zz_inX8 hown hK hP 0 rfl rfl 45 (by decide) (hw _ tw_444) (fun _ h9 => h9) rfl dX8_swaps_8 ?_
  refine lv_iload_n hx hb dX8_swaps_11 rfl (lv_at hl 2 rfl) ?_
  refine lv_aload_n hx hb dX8_swaps_12 rfl (lv_at hl 1 rfl) ?_
  refine va_get (D := (dC, dI)) (ci := 8) (v := .ref (b 46)) (C := RX8) (T := TX8) (N := 49) hx hb hw zz_inX8 hown hK hP 0 rfl rfl 45 (by decide) (hw _ tw_444) (fun _ h9 => h9) rfl dX8_swaps_13 ?_
  refine lv_iload_n hx hb dX8_swaps_16 rfl (lv_at hl 3 rfl) ?_
  refine va_iald hx hb hK hP 1 0 rfl rfl (vp_in_iff.mpr (by rw [zz_toInt n2 (by omega)]; constructor <;> omega)) dX8_swaps_17 ?_
  refine zz_seti (od n2) (congrArg od (zz_cl (by omega))) ?_
  refine va_iast hx hb hK hP hD hS 1 0 rfl rfl (vp_in_iff.mpr (by rw [zz_toInt n1 (by omega)]; constructor <;> omega)) dX8_swaps_18 (fun H locs hP hD hS => ?_)
  obtain ⟨hP, hD⟩ := zz_ty (D := (dC, dI)) (cl := vwCl) (A := A) (H := H) [(b 0, .inr (8, [.ref (b 1), .int (nI mt), .int (gg 2), .int (gg 3), .int (gg 4), .int (gg 5), .int (gg 6), .int (gg 7), .int (gg 8), .int (gg 9), .ref (b 11), .ref (b 12), .ref (b 13), .int (nI mc), .int (nI mh), .ref (b 16), .ref (b 17), .ref (b 18), .ref (b 19), .ref (b 20), .ref (b 21), .ref (b 22), .ref (b 23), .ref (b 24), .int (nI mf), .ref (b 26), .ref (b 27), .ref (b 28), .ref (b 29), .ref (b 30), .ref (b 31), .ref (b 32), .int (gg 32), .int (nI md), .ref (b 35), .ref (b 36), .ref (b 37), .ref (b 38), .ref (b 39), .ref (b 40), .int (gg 40), .ref (b 42), .ref (b 43), .ref (b 44), .int (nI wt), .ref (b 46), .ref (b 47), .int pz, .ref (b 49)])), (b 46, .inl (cI, 7, .inl (upd od (Int32.toNatClampNeg (nI n1)) (od n2))))] hP hD rfl
  refine lv_aload_n hx hb dX8_swaps_19 rfl (lv_at hl 1 rfl) ?_
  refine va_get (D := (dC, dI)) (ci := 8) (v := .ref (b 46)) (C := RX8) (T := TX8) (N := 49) hx hb hw zz_inX8 hown hK hP 0 rfl rfl 45 (by decide) (hw _ tw_444) (fun _ h9 => h9) rfl dX8_swaps_20 ?_
  refine lv_iload_n hx hb dX8_swaps_23 rfl (lv_at hl 3 rfl) ?_
  refine lv_iload_n hx hb dX8_swaps_24 rfl (lv_at hl 0 rfl) ?_
  refine va_iast hx hb hK hP hD hS 1 0 rfl rfl (vp_in_iff.mpr (by rw [zz_toInt n2 (by omega)]; constructor <;> omega)) dX8_swaps_25 (fun H locs hP hD hS => ?_)
  obtain ⟨hP, hD⟩ := zz_ty (D := (dC, dI)) (cl := vwCl) (A := A) (H := H) [(b 0, .inr (8, [.ref (b 1), .int (nI mt), .int (gg 2), .int (gg 3), .int (gg 4), .int (gg 5), .int (gg 6), .int (gg 7), .int (gg 8), .int (gg 9), .ref (b 11), .ref (b 12), .ref (b 13), .int (nI mc), .int (nI mh), .ref (b 16), .ref (b 17), .ref (b 18), .ref (b 19), .ref (b 20), .ref (b 21), .ref (b 22), .ref (b 23), .ref (b 24), .int (nI mf), .ref (b 26), .ref (b 27), .ref (b 28), .ref (b 29), .ref (b 30), .ref (b 31), .ref (b 32), .int (gg 32), .int (nI md), .ref (b 35), .ref (b 36), .ref (b 37), .ref (b 38), .ref (b 39), .ref (b 40), .int (gg 40), .ref (b 42), .ref (b 43), .ref (b 44), .int (nI wt), .ref (b 46), .ref (b 47), .int pz, .ref (b 49)])), (b 46, .inl (cI, 7, .inl (upd (upd od (Int32.toNatClampNeg (nI n1)) (od n2)) (Int32.toNatClampNeg (nI n2)) (od n1))))] hP hD rfl
  obtain ⟨hP9, hD9⟩ := zz_sub2 (ws' := [(b 0, .inr (8, [.ref (b 1), .int (nI mt), .int (gg 2), .int (gg 3), .int (gg 4), .int (gg 5), .int (gg 6), .int (gg 7), .int (gg 8), .int (gg 9), .ref (b 11), .ref (b 12), .ref (b 13), .int (nI mc), .int (nI mh), .ref (b 16), .ref (b 17), .ref (b 18), .ref (b 19), .ref (b 20), .ref (b 21), .ref (b 22), .ref (b 23), .ref (b 24), .int (nI mf), .ref (b 26), .ref (b 27), .ref (b 28), .ref (b 29), .ref (b 30), .ref (b 31), .ref (b 32), .int (gg 32), .int (nI md), .ref (b 35), .ref (b 36), .ref (b 37), .ref (b 38), .ref (b 39), .ref (b 40), .int (gg 40), .ref (b 42), .ref (b 43), .ref (b 44), .int (nI wt), .ref (b 46), .ref (b 47), .int pz, .ref (b 49)])), (b 46, .inl (cI, 7, .inl (upd (upd od (Int32.toNatClampNeg (nI n1)) (od n2)) (Int32.toNatClampNeg (nI n2)) (od n1))))]) hP hD [0, 1] (by decide) rfl
  have hK9 := hK.sub (tys' := [(cI, .int)]) [0] rfl
  exact W.vret hx hb hr (fun t ht hW => ⟨⟨((upd (upd od (Int32.toNatClampNeg (nI n1)) (od n2)) (Int32.toNatClampNeg (nI n2)) (od n1))), rfl, (zz_sw_eq hn1 hn2), by rw [ht]; exact hP9, va_K.moved hW.alike hK9, hD9⟩, hS.F ht⟩) hS.2.2 dX8_swaps_26
