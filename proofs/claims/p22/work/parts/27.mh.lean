theorem tw_277 : Cond.code yX8_goes cX8_goes 3 none ∈ zz_all := zz_m4 218 rfl rfl
theorem tw_278 : Cond.methodLink RX8 257 yX8_goes ∈ zz_all := zz_m4 215 rfl rfl
theorem tw_279 : Cond.instanceMethod yX8_goes ∈ zz_all := zz_m4 217 rfl rfl
theorem tw_280 : Cond.selects RX8 yX8_goes yX8_goes ∈ zz_all := zz_ms 51 rfl rfl
theorem zy_b27mh_0 : decode cX8_days 0 = .ok (.iload_n 1, 1) ∧ decode cX8_days 1 = .ok (.i2l, 1) ∧ decode cX8_days 2 = .ok (.lconst 1, 1) ∧ decode cX8_days 3 = .ok (.ldc2_w 139, 3) ∧ decode cX8_days 6 = .ok (.invokestatic 118, 3) ∧ decode cX8_days 9 = .ok (.ifCond .eq 15, 3) ∧ decode cX8_days 12 = .ok (.aload_n 0, 1) ∧ decode cX8_days 13 = .ok (.getfield 223, 3) := by decide +kernel
theorem dX8_days_0 : decode cX8_days 0 = .ok (.iload_n 1, 1) := zy_b27mh_0.1
theorem dX8_days_1 : decode cX8_days 1 = .ok (.i2l, 1) := zy_b27mh_0.2.1
theorem dX8_days_2 : decode cX8_days 2 = .ok (.lconst 1, 1) := zy_b27mh_0.2.2.1
theorem dX8_days_3 : decode cX8_days 3 = .ok (.ldc2_w 139, 3) := zy_b27mh_0.2.2.2.1
theorem dX8_days_6 : decode cX8_days 6 = .ok (.invokestatic 118, 3) := zy_b27mh_0.2.2.2.2.1
theorem dX8_days_9 : decode cX8_days 9 = .ok (.ifCond .eq 15, 3) := zy_b27mh_0.2.2.2.2.2.1
theorem dX8_days_12 : decode cX8_days 12 = .ok (.aload_n 0, 1) := zy_b27mh_0.2.2.2.2.2.2.1
theorem dX8_days_13 : decode cX8_days 13 = .ok (.getfield 223, 3) := zy_b27mh_0.2.2.2.2.2.2.2
theorem zy_b27mh_1 : decode cX8_days 16 = .ok (.iload_n 1, 1) ∧ decode cX8_days 17 = .ok (.iadd, 1) ∧ decode cX8_days 18 = .ok (.sipush 400, 3) ∧ decode cX8_days 21 = .ok (.if_icmp .le 5, 3) ∧ decode cX8_days 24 = .ok (.iconst (-1), 1) ∧ decode cX8_days 25 = .ok (.ireturn, 1) ∧ decode cX8_days 26 = .ok (.iconst 0, 1) ∧ decode cX8_days 27 = .ok (.istore_n 2, 1) := by decide +kernel
theorem dX8_days_16 : decode cX8_days 16 = .ok (.iload_n 1, 1) := zy_b27mh_1.1
theorem dX8_days_17 : decode cX8_days 17 = .ok (.iadd, 1) := zy_b27mh_1.2.1
theorem dX8_days_18 : decode cX8_days 18 = .ok (.sipush 400, 3) := zy_b27mh_1.2.2.1
theorem dX8_days_21 : decode cX8_days 21 = .ok (.if_icmp .le 5, 3) := zy_b27mh_1.2.2.2.1
theorem dX8_days_24 : decode cX8_days 24 = .ok (.iconst (-1), 1) := zy_b27mh_1.2.2.2.2.1
theorem dX8_days_25 : decode cX8_days 25 = .ok (.ireturn, 1) := zy_b27mh_1.2.2.2.2.2.1
theorem dX8_days_26 : decode cX8_days 26 = .ok (.iconst 0, 1) := zy_b27mh_1.2.2.2.2.2.2.1
theorem dX8_days_27 : decode cX8_days 27 = .ok (.istore_n 2, 1) := zy_b27mh_1.2.2.2.2.2.2.2
theorem zy_b27mh_2 : decode cX8_days 28 = .ok (.iload_n 2, 1) ∧ decode cX8_days 29 = .ok (.iload_n 1, 1) ∧ decode cX8_days 30 = .ok (.if_icmp .ge 13, 3) ∧ decode cX8_days 33 = .ok (.aload_n 0, 1) ∧ decode cX8_days 34 = .ok (.invokevirtual 257, 3) ∧ decode cX8_days 37 = .ok (.iinc 2 1, 3) ∧ decode cX8_days 40 = .ok (.goto (-12), 3) ∧ decode cX8_days 43 = .ok (.aload_n 0, 1) := by decide +kernel
theorem dX8_days_28 : decode cX8_days 28 = .ok (.iload_n 2, 1) := zy_b27mh_2.1
theorem dX8_days_29 : decode cX8_days 29 = .ok (.iload_n 1, 1) := zy_b27mh_2.2.1
theorem dX8_days_30 : decode cX8_days 30 = .ok (.if_icmp .ge 13, 3) := zy_b27mh_2.2.2.1
theorem dX8_days_33 : decode cX8_days 33 = .ok (.aload_n 0, 1) := zy_b27mh_2.2.2.2.1
theorem dX8_days_34 : decode cX8_days 34 = .ok (.invokevirtual 257, 3) := zy_b27mh_2.2.2.2.2.1
theorem dX8_days_37 : decode cX8_days 37 = .ok (.iinc 2 1, 3) := zy_b27mh_2.2.2.2.2.2.1
theorem dX8_days_40 : decode cX8_days 40 = .ok (.goto (-12), 3) := zy_b27mh_2.2.2.2.2.2.2.1
theorem dX8_days_43 : decode cX8_days 43 = .ok (.aload_n 0, 1) := zy_b27mh_2.2.2.2.2.2.2.2
theorem dX8_days_44 : decode cX8_days 44 = .ok (.getfield 223, 3) := by decide +kernel
theorem dX8_days_47 : decode cX8_days 47 = .ok (.ireturn, 1) := by decide +kernel
theorem zz_addp {c : Nat} {x : Int32} (h : c ≤ 400) (h1 : 0 ≤ x.toInt) (h2 : x.toInt ≤ 1000) : (nI c + x).toInt = (c : Int) + x.toInt := by
  rw [Int32.toInt_add, zz_toInt c (by omega)]
  rw [Int.bmod_eq_of_le] <;> omega
