abbrev zy_zf : Nat → Int32 := fun _ => (0 : Int32)
abbrev zy_e4 : va_E := .inr (4, [.int 0, .int 0, .int 0, .int 0, .int 0, .int 0, .int 0, .int 0, .int 0])
abbrev zy_e3 : va_E := .inr (3, [.int 0, .int 0, .int 0, .int 0, .int 0, .int 0, .int 0])
abbrev zy_e5 : va_E := .inr (3, [.int 0, .int 0, .int 0, .int 0, .int 0, .int (-1), .int (-1)])
abbrev zy_i0 : Value := .int 0
abbrev zy_im : Value := .int (-1)
abbrev zy_t0 : Nat := Int32.toNatClampNeg 0
abbrev zy_t1 : Nat := Int32.toNatClampNeg 1
abbrev zy_t2 : Nat := Int32.toNatClampNeg 2
abbrev zy_t3 : Nat := Int32.toNatClampNeg 3
abbrev zy_t4 : Nat := Int32.toNatClampNeg 4
abbrev zy_t5 : Nat := Int32.toNatClampNeg 5
abbrev zy_t6 : Nat := Int32.toNatClampNeg 6
abbrev zy_t7 : Nat := Int32.toNatClampNeg 7
abbrev zy_t8 : Nat := Int32.toNatClampNeg 8
abbrev zy_t9 : Nat := Int32.toNatClampNeg 9
abbrev zy_t10 : Nat := Int32.toNatClampNeg 10
abbrev zy_t11 : Nat := Int32.toNatClampNeg 11
theorem tw_462 : Cond.methodLink RX4 1 objectInit ∈ zz_all := zz_m1 30 rfl rfl
theorem tw_463 : Cond.instanceMethod objectInit ∈ zz_all := zz_m1 22 rfl rfl
theorem tw_464 : Cond.code objectInit ⟨#[0xb1]⟩ 1 none ∈ zz_all := zz_m1 23 rfl rfl
theorem tw_465 : Cond.methodLink RX3 3 objectInit ∈ zz_all := zz_m1 68 rfl rfl
theorem tw_466 : Cond.fieldLink RX3 9 "HandsReturned$Field" "doneOn" "I" ∈ zz_all := zz_m1 79 rfl rfl
theorem tw_467 : Cond.fieldLink RX3 15 "HandsReturned$Field" "proceeds" "I" ∈ zz_all := zz_m1 81 rfl rfl
theorem tw_468 : Cond.methodLink RX6 3 objectInit ∈ zz_all := zz_m1 103 rfl rfl
theorem tw_469 : Cond.arrayClass .int ∈ zz_all := zz_m1 113 rfl rfl
theorem tw_470 : Cond.methodLink RX0 3 objectInit ∈ zz_all := zz_m1 119 rfl rfl
theorem tw_471 : Cond.methodLink RX1 3 objectInit ∈ zz_all := zz_m1 158 rfl rfl
theorem tw_472 : Cond.methodLink RX2 3 objectInit ∈ zz_all := zz_m1 188 rfl rfl
theorem tw_473 : Cond.methodLink RX5 3 objectInit ∈ zz_all := zz_m1 226 rfl rfl
theorem zy_b90ia_0 : decode cX4_init 0 = .ok (.aload_n 0, 1) ∧ decode cX4_init 1 = .ok (.invokespecial 1, 3) ∧ decode cX4_init 4 = .ok (.return_, 1) := by decide +kernel
theorem dX4_init_0 : decode cX4_init 0 = .ok (.aload_n 0, 1) := zy_b90ia_0.1
theorem dX4_init_1 : decode cX4_init 1 = .ok (.invokespecial 1, 3) := zy_b90ia_0.2.1
theorem dX4_init_4 : decode cX4_init 4 = .ok (.return_, 1) := zy_b90ia_0.2.2
theorem zy_b90ia_1 : decode cX3_init 0 = .ok (.aload_n 0, 1) ∧ decode cX3_init 1 = .ok (.invokespecial 3, 3) ∧ decode cX3_init 4 = .ok (.aload_n 0, 1) ∧ decode cX3_init 5 = .ok (.iconst (-1), 1) ∧ decode cX3_init 6 = .ok (.putfield 9, 3) ∧ decode cX3_init 9 = .ok (.aload_n 0, 1) ∧ decode cX3_init 10 = .ok (.iconst (-1), 1) ∧ decode cX3_init 11 = .ok (.putfield 15, 3) := by decide +kernel
theorem dX3_init_0 : decode cX3_init 0 = .ok (.aload_n 0, 1) := zy_b90ia_1.1
theorem dX3_init_1 : decode cX3_init 1 = .ok (.invokespecial 3, 3) := zy_b90ia_1.2.1
theorem dX3_init_4 : decode cX3_init 4 = .ok (.aload_n 0, 1) := zy_b90ia_1.2.2.1
theorem dX3_init_5 : decode cX3_init 5 = .ok (.iconst (-1), 1) := zy_b90ia_1.2.2.2.1
theorem dX3_init_6 : decode cX3_init 6 = .ok (.putfield 9, 3) := zy_b90ia_1.2.2.2.2.1
theorem dX3_init_9 : decode cX3_init 9 = .ok (.aload_n 0, 1) := zy_b90ia_1.2.2.2.2.2.1
theorem dX3_init_10 : decode cX3_init 10 = .ok (.iconst (-1), 1) := zy_b90ia_1.2.2.2.2.2.2.1
theorem dX3_init_11 : decode cX3_init 11 = .ok (.putfield 15, 3) := zy_b90ia_1.2.2.2.2.2.2.2
theorem dX3_init_14 : decode cX3_init 14 = .ok (.return_, 1) := by decide +kernel
theorem zy_b90ia_2 : decode cX6_init 0 = .ok (.aload_n 0, 1) ∧ decode cX6_init 1 = .ok (.invokespecial 3, 3) ∧ decode cX6_init 4 = .ok (.aload_n 0, 1) ∧ decode cX6_init 5 = .ok (.sipush 200, 3) ∧ decode cX6_init 8 = .ok (.newarray .int, 2) ∧ decode cX6_init 10 = .ok (.putfield 9, 3) ∧ decode cX6_init 13 = .ok (.return_, 1) := by decide +kernel
theorem dX6_init_0 : decode cX6_init 0 = .ok (.aload_n 0, 1) := zy_b90ia_2.1
theorem dX6_init_1 : decode cX6_init 1 = .ok (.invokespecial 3, 3) := zy_b90ia_2.2.1
theorem dX6_init_4 : decode cX6_init 4 = .ok (.aload_n 0, 1) := zy_b90ia_2.2.2.1
theorem dX6_init_5 : decode cX6_init 5 = .ok (.sipush 200, 3) := zy_b90ia_2.2.2.2.1
theorem dX6_init_8 : decode cX6_init 8 = .ok (.newarray .int, 2) := zy_b90ia_2.2.2.2.2.1
theorem dX6_init_10 : decode cX6_init 10 = .ok (.putfield 9, 3) := zy_b90ia_2.2.2.2.2.2.1
theorem dX6_init_13 : decode cX6_init 13 = .ok (.return_, 1) := zy_b90ia_2.2.2.2.2.2.2
theorem zy_b90ia_3 : decode cX0_init 0 = .ok (.aload_n 0, 1) ∧ decode cX0_init 1 = .ok (.invokespecial 3, 3) ∧ decode cX0_init 4 = .ok (.aload_n 0, 1) ∧ decode cX0_init 5 = .ok (.bipush 7, 2) ∧ decode cX0_init 7 = .ok (.newarray .int, 2) ∧ decode cX0_init 9 = .ok (.putfield 9, 3) ∧ decode cX0_init 12 = .ok (.aload_n 0, 1) ∧ decode cX0_init 13 = .ok (.bipush 7, 2) := by decide +kernel
theorem dX0_init_0 : decode cX0_init 0 = .ok (.aload_n 0, 1) := zy_b90ia_3.1
theorem dX0_init_1 : decode cX0_init 1 = .ok (.invokespecial 3, 3) := zy_b90ia_3.2.1
theorem dX0_init_4 : decode cX0_init 4 = .ok (.aload_n 0, 1) := zy_b90ia_3.2.2.1
theorem dX0_init_5 : decode cX0_init 5 = .ok (.bipush 7, 2) := zy_b90ia_3.2.2.2.1
theorem dX0_init_7 : decode cX0_init 7 = .ok (.newarray .int, 2) := zy_b90ia_3.2.2.2.2.1
theorem dX0_init_9 : decode cX0_init 9 = .ok (.putfield 9, 3) := zy_b90ia_3.2.2.2.2.2.1
theorem dX0_init_12 : decode cX0_init 12 = .ok (.aload_n 0, 1) := zy_b90ia_3.2.2.2.2.2.2.1
theorem dX0_init_13 : decode cX0_init 13 = .ok (.bipush 7, 2) := zy_b90ia_3.2.2.2.2.2.2.2
theorem zy_b90ia_4 : decode cX0_init 15 = .ok (.newarray .int, 2) ∧ decode cX0_init 17 = .ok (.putfield 15, 3) ∧ decode cX0_init 20 = .ok (.aload_n 0, 1) ∧ decode cX0_init 21 = .ok (.iconst (-1), 1) ∧ decode cX0_init 22 = .ok (.putfield 18, 3) ∧ decode cX0_init 25 = .ok (.aload_n 0, 1) ∧ decode cX0_init 26 = .ok (.iconst (-1), 1) ∧ decode cX0_init 27 = .ok (.putfield 22, 3) := by decide +kernel
theorem dX0_init_15 : decode cX0_init 15 = .ok (.newarray .int, 2) := zy_b90ia_4.1
theorem dX0_init_17 : decode cX0_init 17 = .ok (.putfield 15, 3) := zy_b90ia_4.2.1
theorem dX0_init_20 : decode cX0_init 20 = .ok (.aload_n 0, 1) := zy_b90ia_4.2.2.1
theorem dX0_init_21 : decode cX0_init 21 = .ok (.iconst (-1), 1) := zy_b90ia_4.2.2.2.1
theorem dX0_init_22 : decode cX0_init 22 = .ok (.putfield 18, 3) := zy_b90ia_4.2.2.2.2.1
theorem dX0_init_25 : decode cX0_init 25 = .ok (.aload_n 0, 1) := zy_b90ia_4.2.2.2.2.2.1
theorem dX0_init_26 : decode cX0_init 26 = .ok (.iconst (-1), 1) := zy_b90ia_4.2.2.2.2.2.2.1
theorem dX0_init_27 : decode cX0_init 27 = .ok (.putfield 22, 3) := zy_b90ia_4.2.2.2.2.2.2.2
theorem zy_b90ia_5 : decode cX0_init 30 = .ok (.getstatic 25, 3) ∧ decode cX0_init 33 = .ok (.iconst 0, 1) ∧ decode cX0_init 34 = .ok (.aload_n 0, 1) ∧ decode cX0_init 35 = .ok (.getfield 9, 3) ∧ decode cX0_init 38 = .ok (.iconst 0, 1) ∧ decode cX0_init 39 = .ok (.bipush 7, 2) ∧ decode cX0_init 41 = .ok (.invokestatic 28, 3) ∧ decode cX0_init 44 = .ok (.return_, 1) := by decide +kernel
theorem dX0_init_30 : decode cX0_init 30 = .ok (.getstatic 25, 3) := zy_b90ia_5.1
theorem dX0_init_33 : decode cX0_init 33 = .ok (.iconst 0, 1) := zy_b90ia_5.2.1
theorem dX0_init_34 : decode cX0_init 34 = .ok (.aload_n 0, 1) := zy_b90ia_5.2.2.1
theorem dX0_init_35 : decode cX0_init 35 = .ok (.getfield 9, 3) := zy_b90ia_5.2.2.2.1
theorem dX0_init_38 : decode cX0_init 38 = .ok (.iconst 0, 1) := zy_b90ia_5.2.2.2.2.1
theorem dX0_init_39 : decode cX0_init 39 = .ok (.bipush 7, 2) := zy_b90ia_5.2.2.2.2.2.1
theorem dX0_init_41 : decode cX0_init 41 = .ok (.invokestatic 28, 3) := zy_b90ia_5.2.2.2.2.2.2.1
theorem dX0_init_44 : decode cX0_init 44 = .ok (.return_, 1) := zy_b90ia_5.2.2.2.2.2.2.2
theorem zy_b90ia_6 : decode cX1_init 0 = .ok (.aload_n 0, 1) ∧ decode cX1_init 1 = .ok (.invokespecial 3, 3) ∧ decode cX1_init 4 = .ok (.aload_n 0, 1) ∧ decode cX1_init 5 = .ok (.sipush 300, 3) ∧ decode cX1_init 8 = .ok (.newarray .int, 2) ∧ decode cX1_init 10 = .ok (.putfield 9, 3) ∧ decode cX1_init 13 = .ok (.aload_n 0, 1) ∧ decode cX1_init 14 = .ok (.sipush 300, 3) := by decide +kernel
theorem dX1_init_0 : decode cX1_init 0 = .ok (.aload_n 0, 1) := zy_b90ia_6.1
theorem dX1_init_1 : decode cX1_init 1 = .ok (.invokespecial 3, 3) := zy_b90ia_6.2.1
theorem dX1_init_4 : decode cX1_init 4 = .ok (.aload_n 0, 1) := zy_b90ia_6.2.2.1
theorem dX1_init_5 : decode cX1_init 5 = .ok (.sipush 300, 3) := zy_b90ia_6.2.2.2.1
theorem dX1_init_8 : decode cX1_init 8 = .ok (.newarray .int, 2) := zy_b90ia_6.2.2.2.2.1
theorem dX1_init_10 : decode cX1_init 10 = .ok (.putfield 9, 3) := zy_b90ia_6.2.2.2.2.2.1
theorem dX1_init_13 : decode cX1_init 13 = .ok (.aload_n 0, 1) := zy_b90ia_6.2.2.2.2.2.2.1
theorem dX1_init_14 : decode cX1_init 14 = .ok (.sipush 300, 3) := zy_b90ia_6.2.2.2.2.2.2.2
theorem zy_b90ia_7 : decode cX1_init 17 = .ok (.newarray .int, 2) ∧ decode cX1_init 19 = .ok (.putfield 15, 3) ∧ decode cX1_init 22 = .ok (.aload_n 0, 1) ∧ decode cX1_init 23 = .ok (.sipush 300, 3) ∧ decode cX1_init 26 = .ok (.newarray .int, 2) ∧ decode cX1_init 28 = .ok (.putfield 18, 3) ∧ decode cX1_init 31 = .ok (.aload_n 0, 1) ∧ decode cX1_init 32 = .ok (.sipush 300, 3) := by decide +kernel
theorem dX1_init_17 : decode cX1_init 17 = .ok (.newarray .int, 2) := zy_b90ia_7.1
theorem dX1_init_19 : decode cX1_init 19 = .ok (.putfield 15, 3) := zy_b90ia_7.2.1
theorem dX1_init_22 : decode cX1_init 22 = .ok (.aload_n 0, 1) := zy_b90ia_7.2.2.1
theorem dX1_init_23 : decode cX1_init 23 = .ok (.sipush 300, 3) := zy_b90ia_7.2.2.2.1
theorem dX1_init_26 : decode cX1_init 26 = .ok (.newarray .int, 2) := zy_b90ia_7.2.2.2.2.1
theorem dX1_init_28 : decode cX1_init 28 = .ok (.putfield 18, 3) := zy_b90ia_7.2.2.2.2.2.1
theorem dX1_init_31 : decode cX1_init 31 = .ok (.aload_n 0, 1) := zy_b90ia_7.2.2.2.2.2.2.1
theorem dX1_init_32 : decode cX1_init 32 = .ok (.sipush 300, 3) := zy_b90ia_7.2.2.2.2.2.2.2
theorem zy_b90ia_8 : decode cX1_init 35 = .ok (.newarray .int, 2) ∧ decode cX1_init 37 = .ok (.putfield 21, 3) ∧ decode cX1_init 40 = .ok (.return_, 1) := by decide +kernel
theorem dX1_init_35 : decode cX1_init 35 = .ok (.newarray .int, 2) := zy_b90ia_8.1
theorem dX1_init_37 : decode cX1_init 37 = .ok (.putfield 21, 3) := zy_b90ia_8.2.1
theorem dX1_init_40 : decode cX1_init 40 = .ok (.return_, 1) := zy_b90ia_8.2.2
theorem zy_b90ia_9 : decode cX2_init 0 = .ok (.aload_n 0, 1) ∧ decode cX2_init 1 = .ok (.invokespecial 3, 3) ∧ decode cX2_init 4 = .ok (.aload_n 0, 1) ∧ decode cX2_init 5 = .ok (.bipush 8, 2) ∧ decode cX2_init 7 = .ok (.newarray .int, 2) ∧ decode cX2_init 9 = .ok (.putfield 9, 3) ∧ decode cX2_init 12 = .ok (.aload_n 0, 1) ∧ decode cX2_init 13 = .ok (.bipush 8, 2) := by decide +kernel
theorem dX2_init_0 : decode cX2_init 0 = .ok (.aload_n 0, 1) := zy_b90ia_9.1
theorem dX2_init_1 : decode cX2_init 1 = .ok (.invokespecial 3, 3) := zy_b90ia_9.2.1
theorem dX2_init_4 : decode cX2_init 4 = .ok (.aload_n 0, 1) := zy_b90ia_9.2.2.1
theorem dX2_init_5 : decode cX2_init 5 = .ok (.bipush 8, 2) := zy_b90ia_9.2.2.2.1
theorem dX2_init_7 : decode cX2_init 7 = .ok (.newarray .int, 2) := zy_b90ia_9.2.2.2.2.1
theorem dX2_init_9 : decode cX2_init 9 = .ok (.putfield 9, 3) := zy_b90ia_9.2.2.2.2.2.1
theorem dX2_init_12 : decode cX2_init 12 = .ok (.aload_n 0, 1) := zy_b90ia_9.2.2.2.2.2.2.1
theorem dX2_init_13 : decode cX2_init 13 = .ok (.bipush 8, 2) := zy_b90ia_9.2.2.2.2.2.2.2
theorem zy_b90ia_10 : decode cX2_init 15 = .ok (.newarray .int, 2) ∧ decode cX2_init 17 = .ok (.putfield 15, 3) ∧ decode cX2_init 20 = .ok (.aload_n 0, 1) ∧ decode cX2_init 21 = .ok (.bipush 8, 2) ∧ decode cX2_init 23 = .ok (.newarray .int, 2) ∧ decode cX2_init 25 = .ok (.putfield 18, 3) ∧ decode cX2_init 28 = .ok (.aload_n 0, 1) ∧ decode cX2_init 29 = .ok (.sipush 256, 3) := by decide +kernel
theorem dX2_init_15 : decode cX2_init 15 = .ok (.newarray .int, 2) := zy_b90ia_10.1
theorem dX2_init_17 : decode cX2_init 17 = .ok (.putfield 15, 3) := zy_b90ia_10.2.1
theorem dX2_init_20 : decode cX2_init 20 = .ok (.aload_n 0, 1) := zy_b90ia_10.2.2.1
theorem dX2_init_21 : decode cX2_init 21 = .ok (.bipush 8, 2) := zy_b90ia_10.2.2.2.1
theorem dX2_init_23 : decode cX2_init 23 = .ok (.newarray .int, 2) := zy_b90ia_10.2.2.2.2.1
theorem dX2_init_25 : decode cX2_init 25 = .ok (.putfield 18, 3) := zy_b90ia_10.2.2.2.2.2.1
theorem dX2_init_28 : decode cX2_init 28 = .ok (.aload_n 0, 1) := zy_b90ia_10.2.2.2.2.2.2.1
theorem dX2_init_29 : decode cX2_init 29 = .ok (.sipush 256, 3) := zy_b90ia_10.2.2.2.2.2.2.2
theorem zy_b90ia_11 : decode cX2_init 32 = .ok (.newarray .int, 2) ∧ decode cX2_init 34 = .ok (.putfield 21, 3) ∧ decode cX2_init 37 = .ok (.aload_n 0, 1) ∧ decode cX2_init 38 = .ok (.sipush 256, 3) ∧ decode cX2_init 41 = .ok (.newarray .int, 2) ∧ decode cX2_init 43 = .ok (.putfield 24, 3) ∧ decode cX2_init 46 = .ok (.aload_n 0, 1) ∧ decode cX2_init 47 = .ok (.bipush 8, 2) := by decide +kernel
theorem dX2_init_32 : decode cX2_init 32 = .ok (.newarray .int, 2) := zy_b90ia_11.1
theorem dX2_init_34 : decode cX2_init 34 = .ok (.putfield 21, 3) := zy_b90ia_11.2.1
theorem dX2_init_37 : decode cX2_init 37 = .ok (.aload_n 0, 1) := zy_b90ia_11.2.2.1
theorem dX2_init_38 : decode cX2_init 38 = .ok (.sipush 256, 3) := zy_b90ia_11.2.2.2.1
theorem dX2_init_41 : decode cX2_init 41 = .ok (.newarray .int, 2) := zy_b90ia_11.2.2.2.2.1
theorem dX2_init_43 : decode cX2_init 43 = .ok (.putfield 24, 3) := zy_b90ia_11.2.2.2.2.2.1
theorem dX2_init_46 : decode cX2_init 46 = .ok (.aload_n 0, 1) := zy_b90ia_11.2.2.2.2.2.2.1
theorem dX2_init_47 : decode cX2_init 47 = .ok (.bipush 8, 2) := zy_b90ia_11.2.2.2.2.2.2.2
theorem zy_b90ia_12 : decode cX2_init 49 = .ok (.newarray .int, 2) ∧ decode cX2_init 51 = .ok (.putfield 27, 3) ∧ decode cX2_init 54 = .ok (.aload_n 0, 1) ∧ decode cX2_init 55 = .ok (.bipush 8, 2) ∧ decode cX2_init 57 = .ok (.newarray .int, 2) ∧ decode cX2_init 59 = .ok (.putfield 30, 3) ∧ decode cX2_init 62 = .ok (.aload_n 0, 1) ∧ decode cX2_init 63 = .ok (.bipush 8, 2) := by decide +kernel
theorem dX2_init_49 : decode cX2_init 49 = .ok (.newarray .int, 2) := zy_b90ia_12.1
theorem dX2_init_51 : decode cX2_init 51 = .ok (.putfield 27, 3) := zy_b90ia_12.2.1
theorem dX2_init_54 : decode cX2_init 54 = .ok (.aload_n 0, 1) := zy_b90ia_12.2.2.1
theorem dX2_init_55 : decode cX2_init 55 = .ok (.bipush 8, 2) := zy_b90ia_12.2.2.2.1
theorem dX2_init_57 : decode cX2_init 57 = .ok (.newarray .int, 2) := zy_b90ia_12.2.2.2.2.1
theorem dX2_init_59 : decode cX2_init 59 = .ok (.putfield 30, 3) := zy_b90ia_12.2.2.2.2.2.1
theorem dX2_init_62 : decode cX2_init 62 = .ok (.aload_n 0, 1) := zy_b90ia_12.2.2.2.2.2.2.1
theorem dX2_init_63 : decode cX2_init 63 = .ok (.bipush 8, 2) := zy_b90ia_12.2.2.2.2.2.2.2
theorem zy_b90ia_13 : decode cX2_init 65 = .ok (.newarray .int, 2) ∧ decode cX2_init 67 = .ok (.putfield 33, 3) ∧ decode cX2_init 70 = .ok (.return_, 1) := by decide +kernel
theorem dX2_init_65 : decode cX2_init 65 = .ok (.newarray .int, 2) := zy_b90ia_13.1
theorem dX2_init_67 : decode cX2_init 67 = .ok (.putfield 33, 3) := zy_b90ia_13.2.1
theorem dX2_init_70 : decode cX2_init 70 = .ok (.return_, 1) := zy_b90ia_13.2.2
theorem zy_b90ia_14 : decode cX5_init 0 = .ok (.aload_n 0, 1) ∧ decode cX5_init 1 = .ok (.invokespecial 3, 3) ∧ decode cX5_init 4 = .ok (.aload_n 0, 1) ∧ decode cX5_init 5 = .ok (.bipush 7, 2) ∧ decode cX5_init 7 = .ok (.newarray .int, 2) ∧ decode cX5_init 9 = .ok (.putfield 9, 3) ∧ decode cX5_init 12 = .ok (.aload_n 0, 1) ∧ decode cX5_init 13 = .ok (.bipush 7, 2) := by decide +kernel
theorem dX5_init_0 : decode cX5_init 0 = .ok (.aload_n 0, 1) := zy_b90ia_14.1
theorem dX5_init_1 : decode cX5_init 1 = .ok (.invokespecial 3, 3) := zy_b90ia_14.2.1
theorem dX5_init_4 : decode cX5_init 4 = .ok (.aload_n 0, 1) := zy_b90ia_14.2.2.1
theorem dX5_init_5 : decode cX5_init 5 = .ok (.bipush 7, 2) := zy_b90ia_14.2.2.2.1
theorem dX5_init_7 : decode cX5_init 7 = .ok (.newarray .int, 2) := zy_b90ia_14.2.2.2.2.1
theorem dX5_init_9 : decode cX5_init 9 = .ok (.putfield 9, 3) := zy_b90ia_14.2.2.2.2.2.1
theorem dX5_init_12 : decode cX5_init 12 = .ok (.aload_n 0, 1) := zy_b90ia_14.2.2.2.2.2.2.1
theorem dX5_init_13 : decode cX5_init 13 = .ok (.bipush 7, 2) := zy_b90ia_14.2.2.2.2.2.2.2
theorem zy_b90ia_15 : decode cX5_init 15 = .ok (.newarray .int, 2) ∧ decode cX5_init 17 = .ok (.putfield 15, 3) ∧ decode cX5_init 20 = .ok (.aload_n 0, 1) ∧ decode cX5_init 21 = .ok (.bipush 7, 2) ∧ decode cX5_init 23 = .ok (.newarray .int, 2) ∧ decode cX5_init 25 = .ok (.putfield 18, 3) ∧ decode cX5_init 28 = .ok (.aload_n 0, 1) ∧ decode cX5_init 29 = .ok (.bipush 7, 2) := by decide +kernel
theorem dX5_init_15 : decode cX5_init 15 = .ok (.newarray .int, 2) := zy_b90ia_15.1
theorem dX5_init_17 : decode cX5_init 17 = .ok (.putfield 15, 3) := zy_b90ia_15.2.1
theorem dX5_init_20 : decode cX5_init 20 = .ok (.aload_n 0, 1) := zy_b90ia_15.2.2.1
theorem dX5_init_21 : decode cX5_init 21 = .ok (.bipush 7, 2) := zy_b90ia_15.2.2.2.1
theorem dX5_init_23 : decode cX5_init 23 = .ok (.newarray .int, 2) := zy_b90ia_15.2.2.2.2.1
theorem dX5_init_25 : decode cX5_init 25 = .ok (.putfield 18, 3) := zy_b90ia_15.2.2.2.2.2.1
theorem dX5_init_28 : decode cX5_init 28 = .ok (.aload_n 0, 1) := zy_b90ia_15.2.2.2.2.2.2.1
theorem dX5_init_29 : decode cX5_init 29 = .ok (.bipush 7, 2) := zy_b90ia_15.2.2.2.2.2.2.2
theorem zy_b90ia_16 : decode cX5_init 31 = .ok (.newarray .int, 2) ∧ decode cX5_init 33 = .ok (.putfield 21, 3) ∧ decode cX5_init 36 = .ok (.aload_n 0, 1) ∧ decode cX5_init 37 = .ok (.bipush 7, 2) ∧ decode cX5_init 39 = .ok (.newarray .int, 2) ∧ decode cX5_init 41 = .ok (.putfield 24, 3) ∧ decode cX5_init 44 = .ok (.aload_n 0, 1) ∧ decode cX5_init 45 = .ok (.sipush 128, 3) := by decide +kernel
theorem dX5_init_31 : decode cX5_init 31 = .ok (.newarray .int, 2) := zy_b90ia_16.1
theorem dX5_init_33 : decode cX5_init 33 = .ok (.putfield 21, 3) := zy_b90ia_16.2.1
theorem dX5_init_36 : decode cX5_init 36 = .ok (.aload_n 0, 1) := zy_b90ia_16.2.2.1
theorem dX5_init_37 : decode cX5_init 37 = .ok (.bipush 7, 2) := zy_b90ia_16.2.2.2.1
theorem dX5_init_39 : decode cX5_init 39 = .ok (.newarray .int, 2) := zy_b90ia_16.2.2.2.2.1
theorem dX5_init_41 : decode cX5_init 41 = .ok (.putfield 24, 3) := zy_b90ia_16.2.2.2.2.2.1
theorem dX5_init_44 : decode cX5_init 44 = .ok (.aload_n 0, 1) := zy_b90ia_16.2.2.2.2.2.2.1
theorem dX5_init_45 : decode cX5_init 45 = .ok (.sipush 128, 3) := zy_b90ia_16.2.2.2.2.2.2.2
theorem zy_b90ia_17 : decode cX5_init 48 = .ok (.newarray .int, 2) ∧ decode cX5_init 50 = .ok (.putfield 27, 3) ∧ decode cX5_init 53 = .ok (.aload_n 0, 1) ∧ decode cX5_init 54 = .ok (.sipush 128, 3) ∧ decode cX5_init 57 = .ok (.newarray .int, 2) ∧ decode cX5_init 59 = .ok (.putfield 30, 3) ∧ decode cX5_init 62 = .ok (.aload_n 0, 1) ∧ decode cX5_init 63 = .ok (.bipush 7, 2) := by decide +kernel
theorem dX5_init_48 : decode cX5_init 48 = .ok (.newarray .int, 2) := zy_b90ia_17.1
theorem dX5_init_50 : decode cX5_init 50 = .ok (.putfield 27, 3) := zy_b90ia_17.2.1
theorem dX5_init_53 : decode cX5_init 53 = .ok (.aload_n 0, 1) := zy_b90ia_17.2.2.1
theorem dX5_init_54 : decode cX5_init 54 = .ok (.sipush 128, 3) := zy_b90ia_17.2.2.2.1
theorem dX5_init_57 : decode cX5_init 57 = .ok (.newarray .int, 2) := zy_b90ia_17.2.2.2.2.1
theorem dX5_init_59 : decode cX5_init 59 = .ok (.putfield 30, 3) := zy_b90ia_17.2.2.2.2.2.1
theorem dX5_init_62 : decode cX5_init 62 = .ok (.aload_n 0, 1) := zy_b90ia_17.2.2.2.2.2.2.1
theorem dX5_init_63 : decode cX5_init 63 = .ok (.bipush 7, 2) := zy_b90ia_17.2.2.2.2.2.2.2
theorem zy_b90ia_18 : decode cX5_init 65 = .ok (.newarray .int, 2) ∧ decode cX5_init 67 = .ok (.putfield 33, 3) ∧ decode cX5_init 70 = .ok (.return_, 1) := by decide +kernel
theorem dX5_init_65 : decode cX5_init 65 = .ok (.newarray .int, 2) := zy_b90ia_18.1
theorem dX5_init_67 : decode cX5_init 67 = .ok (.putfield 33, 3) := zy_b90ia_18.2.1
theorem dX5_init_70 : decode cX5_init 70 = .ok (.return_, 1) := zy_b90ia_18.2.2
set_option maxHeartbeats 4000000 in
set_option maxRecDepth 100000 in
theorem i_House (l : Launch) (dC : Nat → ClassId) (dI : Nat → Nat → Nat) (h0 : Nat) (sz : Nat) : Met l yX4_init (zz_w yX4_init cX4_init 1 none) ({ frames := 1, cells := 0, slots := 0, locals := 12 }) (va_Pc [.ref h0] (zz_B (dC, dI) sz [(h0, .inr (4, [.int 0, .int 0, .int 0, .int 0, .int 0, .int 0, .int 0, .int 0, .int 0]))] [])) (va_Qv (fun (_ : Unit) => True) (fun (_ : Unit) (t : State) => va_P (dC, dI) vwCl [(h0, .inr (4, [.int 0, .int 0, .int 0, .int 0, .int 0, .int 0, .int 0, .int 0, .int 0]))] t.heap ∧ va_K (dC, dI) vwCl [] t ∧ va_D (va_A [(h0, .inr (4, [.int 0, .int 0, .int 0, .int 0, .int 0, .int 0, .int 0, .int 0, .int 0]))] sz) [(h0, .inr (4, [.int 0, .int 0, .int 0, .int 0, .int 0, .int 0, .int 0, .int 0, .int 0]))]) (va_A [(h0, .inr (4, [.int 0, .int 0, .int 0, .int 0, .int 0, .int 0, .int 0, .int 0, .int 0]))] sz)) 0 0 (va_A [(h0, .inr (4, [.int 0, .int 0, .int 0, .int 0, .int 0, .int 0, .int 0, .int 0, .int 0]))] sz) := by
  refine Met.ofW (cc := cX4_init) (maxL := 1) (ret := none) (by decide) rfl ?_
  intro p e s m args below meth c s₁ B hml hv
  obtain ⟨rfl, hsz, hP, hK, hD0, hN⟩ := hv
  have hx := B.exec
  have hb := B.bytes
  have hr := B.returns
  have hts := atoms_spec (ws := zz_w yX4_init cX4_init 1 none) B.pre
  have hw : ∀ w ∈ zz_all, w.before _ s = true := fun w h => hts w (List.mem_cons_of_mem _ h)
  have hown : s.vm.findClass RX4 = some m.cls := findClass_of_methodNamed B.named
  have hlocks := B.notSynchronized
  have hin : meth.name = "<init>" := (name_of_methodNamed B.named B.method).1
  subst hsz
  have hD := hD0.self (sz := s.heap.size)
  generalize hAe : va_A [(h0, .inr (4, [.int 0, .int 0, .int 0, .int 0, .int 0, .int 0, .int 0, .int 0, .int 0]))] s.heap.size = A at hD ⊢
  have hA : ∀ q : Nat, s.heap.size ≤ q → A q := fun q h => by rw [← hAe]; exact Or.inr h
  have hS : va_S A s.heap s.heap [] := va_S.rf
  have hP : va_P (dC, dI) vwCl [(h0, zy_e4)] s.heap := hP
  have hl := lv_entry ([.ref h0]) (n := 1) (Nat.le_of_ble_eq_true rfl)
  rw [lg_entry_eq]
  generalize (lg_sl ([.ref h0]) ++ List.replicate (1 - (lg_sl ([.ref h0])).length) Slot.unset).toArray = ls at hl ⊢
  have hl : lv_has ls 1 [(0, .ref h0)] := hl
  refine lv_aload_n hx hb dX4_init_0 rfl (lv_at hl 0 rfl) ?_
  refine W.objInit hx hb hown (hw _ tw_462) (hw _ tw_463) (hw _ tw_464) rfl (by rw [hml]; exact hl.1) rfl dX4_init_1 (Nat.le_of_ble_eq_true rfl) (Nat.le_of_ble_eq_true rfl) ?_
  refine W.eq (g2 := F0 m 4 ls []) rfl ?_
  obtain ⟨hP9, hD9⟩ := zz_sub2 (ws' := [(h0, zy_e4)]) hP hD [0] (by decide) rfl
  have hK9 := hK.sub (tys' := []) [] rfl
  exact W.vret hx hb hr (fun t ht hW => ⟨⟨(), rfl, trivial, by rw [ht]; exact hP9, va_K.moved hW.alike hK9, hD9⟩, hS.F ht⟩) hS.2.2 dX4_init_4
set_option maxHeartbeats 4000000 in
set_option maxRecDepth 100000 in
theorem i_Field (l : Launch) (dC : Nat → ClassId) (dI : Nat → Nat → Nat) (h0 : Nat) (sz : Nat) : Met l yX3_init (zz_w yX3_init cX3_init 1 none) ({ frames := 1, cells := 0, slots := 0, locals := 12 }) (va_Pc [.ref h0] (zz_B (dC, dI) sz [(h0, .inr (3, [.int 0, .int 0, .int 0, .int 0, .int 0, .int 0, .int 0]))] [])) (va_Qv (fun (_ : Unit) => True) (fun (_ : Unit) (t : State) => va_P (dC, dI) vwCl [(h0, .inr (3, [.int 0, .int 0, .int 0, .int 0, .int 0, .int (-1), .int (-1)]))] t.heap ∧ va_K (dC, dI) vwCl [] t ∧ va_D (va_A [(h0, .inr (3, [.int 0, .int 0, .int 0, .int 0, .int 0, .int 0, .int 0]))] sz) [(h0, .inr (3, [.int 0, .int 0, .int 0, .int 0, .int 0, .int (-1), .int (-1)]))]) (va_A [(h0, .inr (3, [.int 0, .int 0, .int 0, .int 0, .int 0, .int 0, .int 0]))] sz)) 0 0 (va_A [(h0, .inr (3, [.int 0, .int 0, .int 0, .int 0, .int 0, .int 0, .int 0]))] sz) := by
  refine Met.ofW (cc := cX3_init) (maxL := 1) (ret := none) (by decide) rfl ?_
  intro p e s m args below meth c s₁ B hml hv
  obtain ⟨rfl, hsz, hP, hK, hD0, hN⟩ := hv
  have hx := B.exec
  have hb := B.bytes
  have hr := B.returns
  have hts := atoms_spec (ws := zz_w yX3_init cX3_init 1 none) B.pre
  have hw : ∀ w ∈ zz_all, w.before _ s = true := fun w h => hts w (List.mem_cons_of_mem _ h)
  have hown : s.vm.findClass RX3 = some m.cls := findClass_of_methodNamed B.named
  have hlocks := B.notSynchronized
  have hin : meth.name = "<init>" := (name_of_methodNamed B.named B.method).1
  subst hsz
  have hD := hD0.self (sz := s.heap.size)
  generalize hAe : va_A [(h0, .inr (3, [.int 0, .int 0, .int 0, .int 0, .int 0, .int 0, .int 0]))] s.heap.size = A at hD ⊢
  have hA : ∀ q : Nat, s.heap.size ≤ q → A q := fun q h => by rw [← hAe]; exact Or.inr h
  have hS : va_S A s.heap s.heap [] := va_S.rf
  have hP : va_P (dC, dI) vwCl [(h0, zy_e3)] s.heap := hP
  have hl := lv_entry ([.ref h0]) (n := 1) (Nat.le_of_ble_eq_true rfl)
  rw [lg_entry_eq]
  generalize (lg_sl ([.ref h0]) ++ List.replicate (1 - (lg_sl ([.ref h0])).length) Slot.unset).toArray = ls at hl ⊢
  have hl : lv_has ls 1 [(0, .ref h0)] := hl
  refine lv_aload_n hx hb dX3_init_0 rfl (lv_at hl 0 rfl) ?_
  refine W.objInit hx hb hown (hw _ tw_465) (hw _ tw_463) (hw _ tw_464) rfl (by rw [hml]; exact hl.1) rfl dX3_init_1 (Nat.le_of_ble_eq_true rfl) (Nat.le_of_ble_eq_true rfl) ?_
  refine W.eq (g2 := F0 m 4 ls []) rfl ?_
  refine lv_aload_n hx hb dX3_init_4 rfl (lv_at hl 0 rfl) ?_
  refine lv_iconst (v := (-1)) hx hb dX3_init_5 (by decide) ?_
  refine va_put (D := (dC, dI)) (ci := 3) (v := .int (-1)) (ty := .int) (C := RX3) (T := TX3) (N := 7) hx hb hw zz_inX3 tyX3 tyX3_ok nmX3 hown hK hP hD hS 0 rfl rfl 5 (by decide) (hw _ tw_466) (fun _ h9 => h9) rfl (by decide +kernel) rfl rfl (Nat.le_of_ble_eq_true rfl) dX3_init_6 (fun H locs hP hD hS => ?_)
  obtain ⟨hP, hD⟩ := zz_ty (D := (dC, dI)) (cl := vwCl) (A := A) (H := H) [(h0, .inr (3, [zy_i0, zy_i0, zy_i0, zy_i0, zy_i0, zy_im, zy_i0]))] hP hD rfl
  refine lv_aload_n hx hb dX3_init_9 rfl (lv_at hl 0 rfl) ?_
  refine lv_iconst (v := (-1)) hx hb dX3_init_10 (by decide) ?_
  refine va_put (D := (dC, dI)) (ci := 3) (v := .int (-1)) (ty := .int) (C := RX3) (T := TX3) (N := 7) hx hb hw zz_inX3 tyX3 tyX3_ok nmX3 hown hK hP hD hS 0 rfl rfl 6 (by decide) (hw _ tw_467) (fun _ h9 => h9) rfl (by decide +kernel) rfl rfl (Nat.le_of_ble_eq_true rfl) dX3_init_11 (fun H locs hP hD hS => ?_)
  obtain ⟨hP, hD⟩ := zz_ty (D := (dC, dI)) (cl := vwCl) (A := A) (H := H) [(h0, zy_e5)] hP hD rfl
  obtain ⟨hP9, hD9⟩ := zz_sub2 (ws' := [(h0, zy_e5)]) hP hD [0] (by decide) rfl
  have hK9 := hK.sub (tys' := []) [] rfl
  exact W.vret hx hb hr (fun t ht hW => ⟨⟨(), rfl, trivial, by rw [ht]; exact hP9, va_K.moved hW.alike hK9, hD9⟩, hS.F ht⟩) hS.2.2 dX3_init_14
set_option maxHeartbeats 4000000 in
set_option maxRecDepth 100000 in
theorem i_Tape (l : Launch) (dC : Nat → ClassId) (dI : Nat → Nat → Nat) (h0 : Nat) (cI : ClassId) (sz : Nat) : Met l yX6_init (zz_w yX6_init cX6_init 1 none) ({ frames := 1, cells := 1, slots := 200, locals := 12 }) (va_Pc [.ref h0] (zz_B (dC, dI) sz [(h0, .inr (6, [.null, .int 0]))] [(cI, .int)])) (va_Qv (fun (_ : Nat) => True) (fun (u0 : Nat) (t : State) => va_P (dC, dI) vwCl [(h0, .inr (6, [.ref u0, .int 0])), (u0, .inl (cI, 200, .inl (fun _ => (0 : Int32))))] t.heap ∧ va_K (dC, dI) vwCl [(cI, .int)] t ∧ va_D (va_A [(h0, .inr (6, [.null, .int 0]))] sz) [(h0, .inr (6, [.ref u0, .int 0])), (u0, .inl (cI, 200, .inl (fun _ => (0 : Int32))))]) (va_A [(h0, .inr (6, [.null, .int 0]))] sz)) 1 200 (va_A [(h0, .inr (6, [.null, .int 0]))] sz) := by
  refine Met.ofW (cc := cX6_init) (maxL := 1) (ret := none) (by decide) rfl ?_
  intro p e s m args below meth c s₁ B hml hv
  obtain ⟨rfl, hsz, hP, hK, hD0, hN⟩ := hv
  have hx := B.exec
  have hb := B.bytes
  have hr := B.returns
  have hts := atoms_spec (ws := zz_w yX6_init cX6_init 1 none) B.pre
  have hw : ∀ w ∈ zz_all, w.before _ s = true := fun w h => hts w (List.mem_cons_of_mem _ h)
  have hown : s.vm.findClass RX6 = some m.cls := findClass_of_methodNamed B.named
  have hlocks := B.notSynchronized
  have hin : meth.name = "<init>" := (name_of_methodNamed B.named B.method).1
  subst hsz
  have hD := hD0.self (sz := s.heap.size)
  generalize hAe : va_A [(h0, .inr (6, [.null, .int 0]))] s.heap.size = A at hD ⊢
  have hA : ∀ q : Nat, s.heap.size ≤ q → A q := fun q h => by rw [← hAe]; exact Or.inr h
  have hS : va_S A s.heap s.heap [] := va_S.rf
  have hP : va_P (dC, dI) vwCl [(h0, .inr (6, [.null, zy_i0]))] s.heap := hP
  have hl := lv_entry ([.ref h0]) (n := 1) (Nat.le_of_ble_eq_true rfl)
  rw [lg_entry_eq]
  generalize (lg_sl ([.ref h0]) ++ List.replicate (1 - (lg_sl ([.ref h0])).length) Slot.unset).toArray = ls at hl ⊢
  have hl : lv_has ls 1 [(0, .ref h0)] := hl
  refine lv_aload_n hx hb dX6_init_0 rfl (lv_at hl 0 rfl) ?_
  refine W.objInit hx hb hown (hw _ tw_468) (hw _ tw_463) (hw _ tw_464) rfl (by rw [hml]; exact hl.1) rfl dX6_init_1 (Nat.le_of_ble_eq_true rfl) (Nat.le_of_ble_eq_true rfl) ?_
  refine W.eq (g2 := F0 m 4 ls []) rfl ?_
  refine lv_aload_n hx hb dX6_init_4 rfl (lv_at hl 0 rfl) ?_
  refine lv_sipush (v := 200) hx hb dX6_init_5 (by decide) ?_
  refine va_newa (atype := .int) (ty := .int) (N' := 200) (a0 := (200, .inl (fun _ => (0 : Int32)))) hx hb (hw _ tw_469) rfl hK hP hD hS hA (fun _ => rfl) (by decide) (by decide) (by decide) (Nat.le_of_ble_eq_true rfl) (Nat.le_of_ble_eq_true rfl) dX6_init_8 (fun q_1 cA_2 H hK hP hD hS => ?_)
  have eA : cA_2 = cI := zz_cA hK 0 1 rfl rfl (fun C h => by cases h)
  rw [eA] at hP hD hK
  have hK := hK.sub (tys' := [(cI, .int)]) [0] rfl
  obtain ⟨hP, hD⟩ := zz_ty (D := (dC, dI)) (cl := vwCl) (A := A) (H := H) [(h0, .inr (6, [.null, zy_i0])), (q_1, .inl (cI, 200, .inl zy_zf))] hP hD rfl
  have hK : va_K (dC, dI) vwCl [(cI, .int)] s := hK
  refine W.widen (k := 1) (n := 200) (by omega) (by omega) ?_
  refine va_putF (D := (dC, dI)) (ci := 6) (v := .ref q_1) (ty := .array .int) (C := RX6) (T := TX6) (N := 2) hx hb hw zz_inX6 tyX6 tyX6_ok nmX6 hown hK hP hD hS 0 rfl rfl 0 (by decide) (hw _ tw_96) (fun _ h9 => h9) rfl hin rfl (by decide +kernel) rfl rfl (Nat.le_of_ble_eq_true rfl) dX6_init_10 (fun H locs hP hD hS => ?_)
  obtain ⟨hP, hD⟩ := zz_ty (D := (dC, dI)) (cl := vwCl) (A := A) (H := H) [(h0, .inr (6, [.ref q_1, zy_i0])), (q_1, .inl (cI, 200, .inl zy_zf))] hP hD rfl
  obtain ⟨hP9, hD9⟩ := zz_sub2 (ws' := [(h0, .inr (6, [.ref q_1, zy_i0])), (q_1, .inl (cI, 200, .inl zy_zf))]) hP hD [0, 1] (by decide) rfl
  have hK9 := hK.sub (tys' := [(cI, .int)]) [0] rfl
  refine W.widen (k := 1) (n := 200) (by omega) (by omega) ?_
  exact W.vret hx hb hr (fun t ht hW => ⟨⟨(q_1), rfl, trivial, by rw [ht]; exact hP9, va_K.moved hW.alike hK9, hD9⟩, hS.F ht⟩) hS.2.2 dX6_init_13
set_option maxHeartbeats 4000000 in
set_option maxRecDepth 100000 in
theorem i_Custom (l : Launch) (dC : Nat → ClassId) (dI : Nat → Nat → Nat) (h0 : Nat) (cI : ClassId) (b0 : Nat) (sz : Nat) : Met l yX0_init (zz_w yX0_init cX0_init 1 none) ({ frames := 1, cells := 2, slots := 14, locals := 40 }) (va_Pc [.ref h0] (zz_BU (dC, dI) sz b0 [(h0, .inr (0, [.null, .null, .int 0, .int 0, .int 0, .int 0, .int 0, .int 0]))] [(cI, .int)])) (va_Qv (fun (_ : Nat × Nat) => True) (fun (u : Nat × Nat) (t : State) => match u with | (u0, u1) => va_P (dC, dI) vwCl [(h0, .inr (0, [.ref u0, .ref u1, .int (-1), .int (-1), .int 0, .int 0, .int 0, .int 0])), (u0, .inl (cI, 7, .inl (va_cpy zz_un (fun _ => (0 : Int32)) (Int32.toNatClampNeg 0) (Int32.toNatClampNeg 0) (Int32.toNatClampNeg 7)))), (u1, .inl (cI, 7, .inl (fun _ => (0 : Int32))))] t.heap ∧ va_K (dC, dI) vwCl [(cI, .int)] t ∧ va_D (va_A [(h0, .inr (0, [.null, .null, .int 0, .int 0, .int 0, .int 0, .int 0, .int 0]))] sz) [(h0, .inr (0, [.ref u0, .ref u1, .int (-1), .int (-1), .int 0, .int 0, .int 0, .int 0])), (u0, .inl (cI, 7, .inl (va_cpy zz_un (fun _ => (0 : Int32)) (Int32.toNatClampNeg 0) (Int32.toNatClampNeg 0) (Int32.toNatClampNeg 7)))), (u1, .inl (cI, 7, .inl (fun _ => (0 : Int32))))]) (va_A [(h0, .inr (0, [.null, .null, .int 0, .int 0, .int 0, .int 0, .int 0, .int 0]))] sz)) 2 14 (va_A [(h0, .inr (0, [.null, .null, .int 0, .int 0, .int 0, .int 0, .int 0, .int 0]))] sz) := by
  refine Met.ofW (cc := cX0_init) (maxL := 1) (ret := none) (by decide) rfl ?_
  intro p e s m args below meth c s₁ B hml hv
  obtain ⟨rfl, ⟨hsz, hP, hK, hD0, hN⟩, hU⟩ := hv
  have hx := B.exec
  have hb := B.bytes
  have hr := B.returns
  have hts := atoms_spec (ws := zz_w yX0_init cX0_init 1 none) B.pre
  have hw : ∀ w ∈ zz_all, w.before _ s = true := fun w h => hts w (List.mem_cons_of_mem _ h)
  have hown : s.vm.findClass RX0 = some m.cls := findClass_of_methodNamed B.named
  have hlocks := B.notSynchronized
  have hin : meth.name = "<init>" := (name_of_methodNamed B.named B.method).1
  subst hsz
  have hD := hD0.self (sz := s.heap.size)
  generalize hAe : va_A [(h0, .inr (0, [.null, .null, .int 0, .int 0, .int 0, .int 0, .int 0, .int 0]))] s.heap.size = A at hD hU ⊢
  have hA : ∀ q : Nat, s.heap.size ≤ q → A q := fun q h => by rw [← hAe]; exact Or.inr h
  have hS : va_S A s.heap s.heap [] := va_S.rf
  have hP : va_P (dC, dI) vwCl [(h0, .inr (0, [.null, .null, zy_i0, zy_i0, zy_i0, zy_i0, zy_i0, zy_i0]))] s.heap := hP
  have hl := lv_entry ([.ref h0]) (n := 1) (Nat.le_of_ble_eq_true rfl)
  rw [lg_entry_eq]
  generalize (lg_sl ([.ref h0]) ++ List.replicate (1 - (lg_sl ([.ref h0])).length) Slot.unset).toArray = ls at hl ⊢
  have hl : lv_has ls 1 [(0, .ref h0)] := hl
  refine lv_aload_n hx hb dX0_init_0 rfl (lv_at hl 0 rfl) ?_
  refine W.objInit hx hb hown (hw _ tw_470) (hw _ tw_463) (hw _ tw_464) rfl (by rw [hml]; exact hl.1) rfl dX0_init_1 (Nat.le_of_ble_eq_true rfl) (Nat.le_of_ble_eq_true rfl) ?_
  refine W.eq (g2 := F0 m 4 ls []) rfl ?_
  refine lv_aload_n hx hb dX0_init_4 rfl (lv_at hl 0 rfl) ?_
  refine lv_bipush (v := 7) hx hb dX0_init_5 (by decide) ?_
  refine va_newa (atype := .int) (ty := .int) (N' := 7) (a0 := (7, .inl (fun _ => (0 : Int32)))) hx hb (hw _ tw_469) rfl hK hP hD hS hA (fun _ => rfl) (by decide) (by decide) (by decide) (Nat.le_of_ble_eq_true rfl) (Nat.le_of_ble_eq_true rfl) dX0_init_7 (fun q_1 cA_2 H hK hP hD hS => ?_)
  have eA : cA_2 = cI := zz_cA hK 0 1 rfl rfl (fun C h => by cases h)
  rw [eA] at hP hD hK
  have hK := hK.sub (tys' := [(cI, .int)]) [0] rfl
  obtain ⟨hP, hD⟩ := zz_ty (D := (dC, dI)) (cl := vwCl) (A := A) (H := H) [(h0, .inr (0, [.null, .null, zy_i0, zy_i0, zy_i0, zy_i0, zy_i0, zy_i0])), (q_1, .inl (cI, 7, .inl zy_zf))] hP hD rfl
  have hK : va_K (dC, dI) vwCl [(cI, .int)] s := hK
  refine W.widen (k := 1) (n := 7) (by omega) (by omega) ?_
  refine va_putF (D := (dC, dI)) (ci := 0) (v := .ref q_1) (ty := .array .int) (C := RX0) (T := TX0) (N := 8) hx hb hw zz_inX0 tyX0 tyX0_ok nmX0 hown hK hP hD hS 0 rfl rfl 0 (by decide) (hw _ tw_400) (fun _ h9 => h9) rfl hin rfl (by decide +kernel) rfl rfl (Nat.le_of_ble_eq_true rfl) dX0_init_9 (fun H locs hP hD hS => ?_)
  obtain ⟨hP, hD⟩ := zz_ty (D := (dC, dI)) (cl := vwCl) (A := A) (H := H) [(h0, .inr (0, [.ref q_1, .null, zy_i0, zy_i0, zy_i0, zy_i0, zy_i0, zy_i0])), (q_1, .inl (cI, 7, .inl zy_zf))] hP hD rfl
  refine lv_aload_n hx hb dX0_init_12 rfl (lv_at hl 0 rfl) ?_
  refine lv_bipush (v := 7) hx hb dX0_init_13 (by decide) ?_
  refine va_newa (atype := .int) (ty := .int) (N' := 7) (a0 := (7, .inl (fun _ => (0 : Int32)))) hx hb (hw _ tw_469) rfl hK hP hD hS hA (fun _ => rfl) (by decide) (by decide) (by decide) (Nat.le_of_ble_eq_true rfl) (Nat.le_of_ble_eq_true rfl) dX0_init_15 (fun q_3 cA_4 H hK hP hD hS => ?_)
  have eA : cA_4 = cI := zz_cA hK 0 1 rfl rfl (fun C h => by cases h)
  rw [eA] at hP hD hK
  have hK := hK.sub (tys' := [(cI, .int)]) [0] rfl
  obtain ⟨hP, hD⟩ := zz_ty (D := (dC, dI)) (cl := vwCl) (A := A) (H := H) [(h0, .inr (0, [.ref q_1, .null, zy_i0, zy_i0, zy_i0, zy_i0, zy_i0, zy_i0])), (q_1, .inl (cI, 7, .inl zy_zf)), (q_3, .inl (cI, 7, .inl zy_zf))] hP hD rfl
  have hK : va_K (dC, dI) vwCl [(cI, .int)] s := hK
  refine W.widen (k := 2) (n := 14) (by omega) (by omega) ?_
  refine va_putF (D := (dC, dI)) (ci := 0) (v := .ref q_3) (ty := .array .int) (C := RX0) (T := TX0) (N := 8) hx hb hw zz_inX0 tyX0 tyX0_ok nmX0 hown hK hP hD hS 0 rfl rfl 1 (by decide) (hw _ tw_384) (fun _ h9 => h9) rfl hin rfl (by decide +kernel) rfl rfl (Nat.le_of_ble_eq_true rfl) dX0_init_17 (fun H locs hP hD hS => ?_)
  obtain ⟨hP, hD⟩ := zz_ty (D := (dC, dI)) (cl := vwCl) (A := A) (H := H) [(h0, .inr (0, [.ref q_1, .ref q_3, zy_i0, zy_i0, zy_i0, zy_i0, zy_i0, zy_i0])), (q_1, .inl (cI, 7, .inl zy_zf)), (q_3, .inl (cI, 7, .inl zy_zf))] hP hD rfl
  refine lv_aload_n hx hb dX0_init_20 rfl (lv_at hl 0 rfl) ?_
  refine lv_iconst (v := (-1)) hx hb dX0_init_21 (by decide) ?_
  refine va_put (D := (dC, dI)) (ci := 0) (v := .int (-1)) (ty := .int) (C := RX0) (T := TX0) (N := 8) hx hb hw zz_inX0 tyX0 tyX0_ok nmX0 hown hK hP hD hS 0 rfl rfl 2 (by decide) (hw _ tw_394) (fun _ h9 => h9) rfl (by decide +kernel) rfl rfl (Nat.le_of_ble_eq_true rfl) dX0_init_22 (fun H locs hP hD hS => ?_)
  obtain ⟨hP, hD⟩ := zz_ty (D := (dC, dI)) (cl := vwCl) (A := A) (H := H) [(h0, .inr (0, [.ref q_1, .ref q_3, zy_im, zy_i0, zy_i0, zy_i0, zy_i0, zy_i0])), (q_1, .inl (cI, 7, .inl zy_zf)), (q_3, .inl (cI, 7, .inl zy_zf))] hP hD rfl
  refine lv_aload_n hx hb dX0_init_25 rfl (lv_at hl 0 rfl) ?_
  refine lv_iconst (v := (-1)) hx hb dX0_init_26 (by decide) ?_
  refine va_put (D := (dC, dI)) (ci := 0) (v := .int (-1)) (ty := .int) (C := RX0) (T := TX0) (N := 8) hx hb hw zz_inX0 tyX0 tyX0_ok nmX0 hown hK hP hD hS 0 rfl rfl 3 (by decide) (hw _ tw_395) (fun _ h9 => h9) rfl (by decide +kernel) rfl rfl (Nat.le_of_ble_eq_true rfl) dX0_init_27 (fun H locs hP hD hS => ?_)
  obtain ⟨hP, hD⟩ := zz_ty (D := (dC, dI)) (cl := vwCl) (A := A) (H := H) [(h0, .inr (0, [.ref q_1, .ref q_3, zy_im, zy_im, zy_i0, zy_i0, zy_i0, zy_i0])), (q_1, .inl (cI, 7, .inl zy_zf)), (q_3, .inl (cI, 7, .inl zy_zf))] hP hD rfl
  refine va_getsN hx hb hU.1 hS hown (hN.use zz_n25) (fun _ h9 => h9) dX0_init_30 ?_
  refine lv_iconst (v := 0) hx hb dX0_init_33 (by decide) ?_
  refine lv_aload_n hx hb dX0_init_34 rfl (lv_at hl 0 rfl) ?_
  refine va_get (D := (dC, dI)) (ci := 0) (v := .ref q_1) (C := RX0) (T := TX0) (N := 8) hx hb hw zz_inX0 hown hK hP 0 rfl rfl 0 (by decide) (hw _ tw_400) (fun _ h9 => h9) rfl dX0_init_35 ?_
  refine lv_iconst (v := 0) hx hb dX0_init_38 (by decide) ?_
  refine lv_bipush (v := 7) hx hb dX0_init_39 (by decide) ?_
  refine va_copyx hx hb (by rw [hml]; exact hl.1.symm) hown (hw _ tw_396) (hw _ tw_397) (hw _ tw_398) (hw _ tw_399) hK hP hD hS hU.2.1 hU.2.2.1 hU.2.2.2 1 0 rfl rfl (by decide) (by decide) (by decide) (by decide) (by decide) (Nat.le_of_ble_eq_true rfl) (Nat.le_of_ble_eq_true rfl) dX0_init_41 (fun H locs hP hD hS => ?_)
  obtain ⟨hP, hD⟩ := zz_ty (D := (dC, dI)) (cl := vwCl) (A := A) (H := H) [(h0, .inr (0, [.ref q_1, .ref q_3, zy_im, zy_im, zy_i0, zy_i0, zy_i0, zy_i0])), (q_1, .inl (cI, 7, .inl (va_cpy zz_un zy_zf (Int32.toNatClampNeg 0) (Int32.toNatClampNeg 0) (Int32.toNatClampNeg 7)))), (q_3, .inl (cI, 7, .inl zy_zf))] hP hD rfl
  obtain ⟨hP9, hD9⟩ := zz_sub2 (ws' := [(h0, .inr (0, [.ref q_1, .ref q_3, zy_im, zy_im, zy_i0, zy_i0, zy_i0, zy_i0])), (q_1, .inl (cI, 7, .inl (va_cpy zz_un zy_zf (Int32.toNatClampNeg 0) (Int32.toNatClampNeg 0) (Int32.toNatClampNeg 7)))), (q_3, .inl (cI, 7, .inl zy_zf))]) hP hD [0, 1, 2] (by decide) rfl
  have hK9 := hK.sub (tys' := [(cI, .int)]) [0] rfl
  refine W.widen (k := 2) (n := 14) (by omega) (by omega) ?_
  exact W.vret hx hb hr (fun t ht hW => ⟨⟨(q_1, q_3), rfl, trivial, by rw [ht]; exact hP9, va_K.moved hW.alike hK9, hD9⟩, hS.F ht⟩) hS.2.2 dX0_init_44
set_option maxHeartbeats 4000000 in
set_option maxRecDepth 100000 in
theorem i_Debts (l : Launch) (dC : Nat → ClassId) (dI : Nat → Nat → Nat) (h0 : Nat) (cI : ClassId) (sz : Nat) : Met l yX1_init (zz_w yX1_init cX1_init 1 none) ({ frames := 1, cells := 4, slots := 1200, locals := 12 }) (va_Pc [.ref h0] (zz_B (dC, dI) sz [(h0, .inr (1, [.null, .null, .null, .null, .int 0]))] [(cI, .int)])) (va_Qv (fun (_ : Nat × Nat × Nat × Nat) => True) (fun (u : Nat × Nat × Nat × Nat) (t : State) => match u with | (u0, u1, u2, u3) => va_P (dC, dI) vwCl [(h0, .inr (1, [.ref u0, .ref u1, .ref u2, .ref u3, .int 0])), (u0, .inl (cI, 300, .inl (fun _ => (0 : Int32)))), (u1, .inl (cI, 300, .inl (fun _ => (0 : Int32)))), (u2, .inl (cI, 300, .inl (fun _ => (0 : Int32)))), (u3, .inl (cI, 300, .inl (fun _ => (0 : Int32))))] t.heap ∧ va_K (dC, dI) vwCl [(cI, .int)] t ∧ va_D (va_A [(h0, .inr (1, [.null, .null, .null, .null, .int 0]))] sz) [(h0, .inr (1, [.ref u0, .ref u1, .ref u2, .ref u3, .int 0])), (u0, .inl (cI, 300, .inl (fun _ => (0 : Int32)))), (u1, .inl (cI, 300, .inl (fun _ => (0 : Int32)))), (u2, .inl (cI, 300, .inl (fun _ => (0 : Int32)))), (u3, .inl (cI, 300, .inl (fun _ => (0 : Int32))))]) (va_A [(h0, .inr (1, [.null, .null, .null, .null, .int 0]))] sz)) 4 1200 (va_A [(h0, .inr (1, [.null, .null, .null, .null, .int 0]))] sz) := by
  refine Met.ofW (cc := cX1_init) (maxL := 1) (ret := none) (by decide) rfl ?_
  intro p e s m args below meth c s₁ B hml hv
  obtain ⟨rfl, hsz, hP, hK, hD0, hN⟩ := hv
  have hx := B.exec
  have hb := B.bytes
  have hr := B.returns
  have hts := atoms_spec (ws := zz_w yX1_init cX1_init 1 none) B.pre
  have hw : ∀ w ∈ zz_all, w.before _ s = true := fun w h => hts w (List.mem_cons_of_mem _ h)
  have hown : s.vm.findClass RX1 = some m.cls := findClass_of_methodNamed B.named
  have hlocks := B.notSynchronized
  have hin : meth.name = "<init>" := (name_of_methodNamed B.named B.method).1
  subst hsz
  have hD := hD0.self (sz := s.heap.size)
  generalize hAe : va_A [(h0, .inr (1, [.null, .null, .null, .null, .int 0]))] s.heap.size = A at hD ⊢
  have hA : ∀ q : Nat, s.heap.size ≤ q → A q := fun q h => by rw [← hAe]; exact Or.inr h
  have hS : va_S A s.heap s.heap [] := va_S.rf
  have hP : va_P (dC, dI) vwCl [(h0, .inr (1, [.null, .null, .null, .null, zy_i0]))] s.heap := hP
  have hl := lv_entry ([.ref h0]) (n := 1) (Nat.le_of_ble_eq_true rfl)
  rw [lg_entry_eq]
  generalize (lg_sl ([.ref h0]) ++ List.replicate (1 - (lg_sl ([.ref h0])).length) Slot.unset).toArray = ls at hl ⊢
  have hl : lv_has ls 1 [(0, .ref h0)] := hl
  refine lv_aload_n hx hb dX1_init_0 rfl (lv_at hl 0 rfl) ?_
  refine W.objInit hx hb hown (hw _ tw_471) (hw _ tw_463) (hw _ tw_464) rfl (by rw [hml]; exact hl.1) rfl dX1_init_1 (Nat.le_of_ble_eq_true rfl) (Nat.le_of_ble_eq_true rfl) ?_
  refine W.eq (g2 := F0 m 4 ls []) rfl ?_
  refine lv_aload_n hx hb dX1_init_4 rfl (lv_at hl 0 rfl) ?_
  refine lv_sipush (v := 300) hx hb dX1_init_5 (by decide) ?_
  refine va_newa (atype := .int) (ty := .int) (N' := 300) (a0 := (300, .inl (fun _ => (0 : Int32)))) hx hb (hw _ tw_469) rfl hK hP hD hS hA (fun _ => rfl) (by decide) (by decide) (by decide) (Nat.le_of_ble_eq_true rfl) (Nat.le_of_ble_eq_true rfl) dX1_init_8 (fun q_1 cA_2 H hK hP hD hS => ?_)
  have eA : cA_2 = cI := zz_cA hK 0 1 rfl rfl (fun C h => by cases h)
  rw [eA] at hP hD hK
  have hK := hK.sub (tys' := [(cI, .int)]) [0] rfl
  obtain ⟨hP, hD⟩ := zz_ty (D := (dC, dI)) (cl := vwCl) (A := A) (H := H) [(h0, .inr (1, [.null, .null, .null, .null, zy_i0])), (q_1, .inl (cI, 300, .inl zy_zf))] hP hD rfl
  have hK : va_K (dC, dI) vwCl [(cI, .int)] s := hK
  refine W.widen (k := 1) (n := 300) (by omega) (by omega) ?_
  refine va_putF (D := (dC, dI)) (ci := 1) (v := .ref q_1) (ty := .array .int) (C := RX1) (T := TX1) (N := 5) hx hb hw zz_inX1 tyX1 tyX1_ok nmX1 hown hK hP hD hS 0 rfl rfl 0 (by decide) (hw _ tw_12) (fun _ h9 => h9) rfl hin rfl (by decide +kernel) rfl rfl (Nat.le_of_ble_eq_true rfl) dX1_init_10 (fun H locs hP hD hS => ?_)
  obtain ⟨hP, hD⟩ := zz_ty (D := (dC, dI)) (cl := vwCl) (A := A) (H := H) [(h0, .inr (1, [.ref q_1, .null, .null, .null, zy_i0])), (q_1, .inl (cI, 300, .inl zy_zf))] hP hD rfl
  refine lv_aload_n hx hb dX1_init_13 rfl (lv_at hl 0 rfl) ?_
  refine lv_sipush (v := 300) hx hb dX1_init_14 (by decide) ?_
  refine va_newa (atype := .int) (ty := .int) (N' := 300) (a0 := (300, .inl (fun _ => (0 : Int32)))) hx hb (hw _ tw_469) rfl hK hP hD hS hA (fun _ => rfl) (by decide) (by decide) (by decide) (Nat.le_of_ble_eq_true rfl) (Nat.le_of_ble_eq_true rfl) dX1_init_17 (fun q_3 cA_4 H hK hP hD hS => ?_)
  have eA : cA_4 = cI := zz_cA hK 0 1 rfl rfl (fun C h => by cases h)
  rw [eA] at hP hD hK
  have hK := hK.sub (tys' := [(cI, .int)]) [0] rfl
  obtain ⟨hP, hD⟩ := zz_ty (D := (dC, dI)) (cl := vwCl) (A := A) (H := H) [(h0, .inr (1, [.ref q_1, .null, .null, .null, zy_i0])), (q_1, .inl (cI, 300, .inl zy_zf)), (q_3, .inl (cI, 300, .inl zy_zf))] hP hD rfl
  have hK : va_K (dC, dI) vwCl [(cI, .int)] s := hK
  refine W.widen (k := 2) (n := 600) (by omega) (by omega) ?_
  refine va_putF (D := (dC, dI)) (ci := 1) (v := .ref q_3) (ty := .array .int) (C := RX1) (T := TX1) (N := 5) hx hb hw zz_inX1 tyX1 tyX1_ok nmX1 hown hK hP hD hS 0 rfl rfl 1 (by decide) (hw _ tw_13) (fun _ h9 => h9) rfl hin rfl (by decide +kernel) rfl rfl (Nat.le_of_ble_eq_true rfl) dX1_init_19 (fun H locs hP hD hS => ?_)
  obtain ⟨hP, hD⟩ := zz_ty (D := (dC, dI)) (cl := vwCl) (A := A) (H := H) [(h0, .inr (1, [.ref q_1, .ref q_3, .null, .null, zy_i0])), (q_1, .inl (cI, 300, .inl zy_zf)), (q_3, .inl (cI, 300, .inl zy_zf))] hP hD rfl
  refine lv_aload_n hx hb dX1_init_22 rfl (lv_at hl 0 rfl) ?_
  refine lv_sipush (v := 300) hx hb dX1_init_23 (by decide) ?_
  refine va_newa (atype := .int) (ty := .int) (N' := 300) (a0 := (300, .inl (fun _ => (0 : Int32)))) hx hb (hw _ tw_469) rfl hK hP hD hS hA (fun _ => rfl) (by decide) (by decide) (by decide) (Nat.le_of_ble_eq_true rfl) (Nat.le_of_ble_eq_true rfl) dX1_init_26 (fun q_5 cA_6 H hK hP hD hS => ?_)
  have eA : cA_6 = cI := zz_cA hK 0 1 rfl rfl (fun C h => by cases h)
  rw [eA] at hP hD hK
  have hK := hK.sub (tys' := [(cI, .int)]) [0] rfl
  obtain ⟨hP, hD⟩ := zz_ty (D := (dC, dI)) (cl := vwCl) (A := A) (H := H) [(h0, .inr (1, [.ref q_1, .ref q_3, .null, .null, zy_i0])), (q_1, .inl (cI, 300, .inl zy_zf)), (q_3, .inl (cI, 300, .inl zy_zf)), (q_5, .inl (cI, 300, .inl zy_zf))] hP hD rfl
  have hK : va_K (dC, dI) vwCl [(cI, .int)] s := hK
  refine W.widen (k := 3) (n := 900) (by omega) (by omega) ?_
  refine va_putF (D := (dC, dI)) (ci := 1) (v := .ref q_5) (ty := .array .int) (C := RX1) (T := TX1) (N := 5) hx hb hw zz_inX1 tyX1 tyX1_ok nmX1 hown hK hP hD hS 0 rfl rfl 2 (by decide) (hw _ tw_21) (fun _ h9 => h9) rfl hin rfl (by decide +kernel) rfl rfl (Nat.le_of_ble_eq_true rfl) dX1_init_28 (fun H locs hP hD hS => ?_)
  obtain ⟨hP, hD⟩ := zz_ty (D := (dC, dI)) (cl := vwCl) (A := A) (H := H) [(h0, .inr (1, [.ref q_1, .ref q_3, .ref q_5, .null, zy_i0])), (q_1, .inl (cI, 300, .inl zy_zf)), (q_3, .inl (cI, 300, .inl zy_zf)), (q_5, .inl (cI, 300, .inl zy_zf))] hP hD rfl
  refine lv_aload_n hx hb dX1_init_31 rfl (lv_at hl 0 rfl) ?_
  refine lv_sipush (v := 300) hx hb dX1_init_32 (by decide) ?_
  refine va_newa (atype := .int) (ty := .int) (N' := 300) (a0 := (300, .inl (fun _ => (0 : Int32)))) hx hb (hw _ tw_469) rfl hK hP hD hS hA (fun _ => rfl) (by decide) (by decide) (by decide) (Nat.le_of_ble_eq_true rfl) (Nat.le_of_ble_eq_true rfl) dX1_init_35 (fun q_7 cA_8 H hK hP hD hS => ?_)
  have eA : cA_8 = cI := zz_cA hK 0 1 rfl rfl (fun C h => by cases h)
  rw [eA] at hP hD hK
  have hK := hK.sub (tys' := [(cI, .int)]) [0] rfl
  obtain ⟨hP, hD⟩ := zz_ty (D := (dC, dI)) (cl := vwCl) (A := A) (H := H) [(h0, .inr (1, [.ref q_1, .ref q_3, .ref q_5, .null, zy_i0])), (q_1, .inl (cI, 300, .inl zy_zf)), (q_3, .inl (cI, 300, .inl zy_zf)), (q_5, .inl (cI, 300, .inl zy_zf)), (q_7, .inl (cI, 300, .inl zy_zf))] hP hD rfl
  have hK : va_K (dC, dI) vwCl [(cI, .int)] s := hK
  refine W.widen (k := 4) (n := 1200) (by omega) (by omega) ?_
  refine va_putF (D := (dC, dI)) (ci := 1) (v := .ref q_7) (ty := .array .int) (C := RX1) (T := TX1) (N := 5) hx hb hw zz_inX1 tyX1 tyX1_ok nmX1 hown hK hP hD hS 0 rfl rfl 3 (by decide) (hw _ tw_20) (fun _ h9 => h9) rfl hin rfl (by decide +kernel) rfl rfl (Nat.le_of_ble_eq_true rfl) dX1_init_37 (fun H locs hP hD hS => ?_)
  obtain ⟨hP, hD⟩ := zz_ty (D := (dC, dI)) (cl := vwCl) (A := A) (H := H) [(h0, .inr (1, [.ref q_1, .ref q_3, .ref q_5, .ref q_7, zy_i0])), (q_1, .inl (cI, 300, .inl zy_zf)), (q_3, .inl (cI, 300, .inl zy_zf)), (q_5, .inl (cI, 300, .inl zy_zf)), (q_7, .inl (cI, 300, .inl zy_zf))] hP hD rfl
  obtain ⟨hP9, hD9⟩ := zz_sub2 (ws' := [(h0, .inr (1, [.ref q_1, .ref q_3, .ref q_5, .ref q_7, zy_i0])), (q_1, .inl (cI, 300, .inl zy_zf)), (q_3, .inl (cI, 300, .inl zy_zf)), (q_5, .inl (cI, 300, .inl zy_zf)), (q_7, .inl (cI, 300, .inl zy_zf))]) hP hD [0, 1, 2, 3, 4] (by decide) rfl
  have hK9 := hK.sub (tys' := [(cI, .int)]) [0] rfl
  refine W.widen (k := 4) (n := 1200) (by omega) (by omega) ?_
  exact W.vret hx hb hr (fun t ht hW => ⟨⟨(q_1, q_3, q_5, q_7), rfl, trivial, by rw [ht]; exact hP9, va_K.moved hW.alike hK9, hD9⟩, hS.F ht⟩) hS.2.2 dX1_init_40
set_option maxHeartbeats 4000000 in
set_option maxRecDepth 100000 in
theorem i_Evening (l : Launch) (dC : Nat → ClassId) (dI : Nat → Nat → Nat) (h0 : Nat) (cI : ClassId) (sz : Nat) : Met l yX2_init (zz_w yX2_init cX2_init 1 none) ({ frames := 1, cells := 8, slots := 560, locals := 12 }) (va_Pc [.ref h0] (zz_B (dC, dI) sz [(h0, .inr (2, [.null, .null, .null, .null, .null, .null, .null, .null, .int 0]))] [(cI, .int)])) (va_Qv (fun (_ : Nat × Nat × Nat × Nat × Nat × Nat × Nat × Nat) => True) (fun (u : Nat × Nat × Nat × Nat × Nat × Nat × Nat × Nat) (t : State) => match u with | (u0, u1, u2, u3, u4, u5, u6, u7) => va_P (dC, dI) vwCl [(h0, .inr (2, [.ref u0, .ref u1, .ref u2, .ref u3, .ref u4, .ref u5, .ref u6, .ref u7, .int 0])), (u0, .inl (cI, 8, .inl (fun _ => (0 : Int32)))), (u1, .inl (cI, 8, .inl (fun _ => (0 : Int32)))), (u2, .inl (cI, 8, .inl (fun _ => (0 : Int32)))), (u3, .inl (cI, 256, .inl (fun _ => (0 : Int32)))), (u4, .inl (cI, 256, .inl (fun _ => (0 : Int32)))), (u5, .inl (cI, 8, .inl (fun _ => (0 : Int32)))), (u6, .inl (cI, 8, .inl (fun _ => (0 : Int32)))), (u7, .inl (cI, 8, .inl (fun _ => (0 : Int32))))] t.heap ∧ va_K (dC, dI) vwCl [(cI, .int)] t ∧ va_D (va_A [(h0, .inr (2, [.null, .null, .null, .null, .null, .null, .null, .null, .int 0]))] sz) [(h0, .inr (2, [.ref u0, .ref u1, .ref u2, .ref u3, .ref u4, .ref u5, .ref u6, .ref u7, .int 0])), (u0, .inl (cI, 8, .inl (fun _ => (0 : Int32)))), (u1, .inl (cI, 8, .inl (fun _ => (0 : Int32)))), (u2, .inl (cI, 8, .inl (fun _ => (0 : Int32)))), (u3, .inl (cI, 256, .inl (fun _ => (0 : Int32)))), (u4, .inl (cI, 256, .inl (fun _ => (0 : Int32)))), (u5, .inl (cI, 8, .inl (fun _ => (0 : Int32)))), (u6, .inl (cI, 8, .inl (fun _ => (0 : Int32)))), (u7, .inl (cI, 8, .inl (fun _ => (0 : Int32))))]) (va_A [(h0, .inr (2, [.null, .null, .null, .null, .null, .null, .null, .null, .int 0]))] sz)) 8 560 (va_A [(h0, .inr (2, [.null, .null, .null, .null, .null, .null, .null, .null, .int 0]))] sz) := by
  refine Met.ofW (cc := cX2_init) (maxL := 1) (ret := none) (by decide) rfl ?_
  intro p e s m args below meth c s₁ B hml hv
  obtain ⟨rfl, hsz, hP, hK, hD0, hN⟩ := hv
  have hx := B.exec
  have hb := B.bytes
  have hr := B.returns
  have hts := atoms_spec (ws := zz_w yX2_init cX2_init 1 none) B.pre
  have hw : ∀ w ∈ zz_all, w.before _ s = true := fun w h => hts w (List.mem_cons_of_mem _ h)
  have hown : s.vm.findClass RX2 = some m.cls := findClass_of_methodNamed B.named
  have hlocks := B.notSynchronized
  have hin : meth.name = "<init>" := (name_of_methodNamed B.named B.method).1
  subst hsz
  have hD := hD0.self (sz := s.heap.size)
  generalize hAe : va_A [(h0, .inr (2, [.null, .null, .null, .null, .null, .null, .null, .null, .int 0]))] s.heap.size = A at hD ⊢
  have hA : ∀ q : Nat, s.heap.size ≤ q → A q := fun q h => by rw [← hAe]; exact Or.inr h
  have hS : va_S A s.heap s.heap [] := va_S.rf
  have hP : va_P (dC, dI) vwCl [(h0, .inr (2, [.null, .null, .null, .null, .null, .null, .null, .null, zy_i0]))] s.heap := hP
  have hl := lv_entry ([.ref h0]) (n := 1) (Nat.le_of_ble_eq_true rfl)
  rw [lg_entry_eq]
  generalize (lg_sl ([.ref h0]) ++ List.replicate (1 - (lg_sl ([.ref h0])).length) Slot.unset).toArray = ls at hl ⊢
  have hl : lv_has ls 1 [(0, .ref h0)] := hl
  refine lv_aload_n hx hb dX2_init_0 rfl (lv_at hl 0 rfl) ?_
  refine W.objInit hx hb hown (hw _ tw_472) (hw _ tw_463) (hw _ tw_464) rfl (by rw [hml]; exact hl.1) rfl dX2_init_1 (Nat.le_of_ble_eq_true rfl) (Nat.le_of_ble_eq_true rfl) ?_
  refine W.eq (g2 := F0 m 4 ls []) rfl ?_
  refine lv_aload_n hx hb dX2_init_4 rfl (lv_at hl 0 rfl) ?_
  refine lv_bipush (v := 8) hx hb dX2_init_5 (by decide) ?_
  refine va_newa (atype := .int) (ty := .int) (N' := 8) (a0 := (8, .inl (fun _ => (0 : Int32)))) hx hb (hw _ tw_469) rfl hK hP hD hS hA (fun _ => rfl) (by decide) (by decide) (by decide) (Nat.le_of_ble_eq_true rfl) (Nat.le_of_ble_eq_true rfl) dX2_init_7 (fun q_1 cA_2 H hK hP hD hS => ?_)
  have eA : cA_2 = cI := zz_cA hK 0 1 rfl rfl (fun C h => by cases h)
  rw [eA] at hP hD hK
  have hK := hK.sub (tys' := [(cI, .int)]) [0] rfl
  obtain ⟨hP, hD⟩ := zz_ty (D := (dC, dI)) (cl := vwCl) (A := A) (H := H) [(h0, .inr (2, [.null, .null, .null, .null, .null, .null, .null, .null, zy_i0])), (q_1, .inl (cI, 8, .inl zy_zf))] hP hD rfl
  have hK : va_K (dC, dI) vwCl [(cI, .int)] s := hK
  refine W.widen (k := 1) (n := 8) (by omega) (by omega) ?_
  refine va_putF (D := (dC, dI)) (ci := 2) (v := .ref q_1) (ty := .array .int) (C := RX2) (T := TX2) (N := 9) hx hb hw zz_inX2 tyX2 tyX2_ok nmX2 hown hK hP hD hS 0 rfl rfl 0 (by decide) (hw _ tw_115) (fun _ h9 => h9) rfl hin rfl (by decide +kernel) rfl rfl (Nat.le_of_ble_eq_true rfl) dX2_init_9 (fun H locs hP hD hS => ?_)
  obtain ⟨hP, hD⟩ := zz_ty (D := (dC, dI)) (cl := vwCl) (A := A) (H := H) [(h0, .inr (2, [.ref q_1, .null, .null, .null, .null, .null, .null, .null, zy_i0])), (q_1, .inl (cI, 8, .inl zy_zf))] hP hD rfl
  refine lv_aload_n hx hb dX2_init_12 rfl (lv_at hl 0 rfl) ?_
  refine lv_bipush (v := 8) hx hb dX2_init_13 (by decide) ?_
  refine va_newa (atype := .int) (ty := .int) (N' := 8) (a0 := (8, .inl (fun _ => (0 : Int32)))) hx hb (hw _ tw_469) rfl hK hP hD hS hA (fun _ => rfl) (by decide) (by decide) (by decide) (Nat.le_of_ble_eq_true rfl) (Nat.le_of_ble_eq_true rfl) dX2_init_15 (fun q_3 cA_4 H hK hP hD hS => ?_)
  have eA : cA_4 = cI := zz_cA hK 0 1 rfl rfl (fun C h => by cases h)
  rw [eA] at hP hD hK
  have hK := hK.sub (tys' := [(cI, .int)]) [0] rfl
  obtain ⟨hP, hD⟩ := zz_ty (D := (dC, dI)) (cl := vwCl) (A := A) (H := H) [(h0, .inr (2, [.ref q_1, .null, .null, .null, .null, .null, .null, .null, zy_i0])), (q_1, .inl (cI, 8, .inl zy_zf)), (q_3, .inl (cI, 8, .inl zy_zf))] hP hD rfl
  have hK : va_K (dC, dI) vwCl [(cI, .int)] s := hK
  refine W.widen (k := 2) (n := 16) (by omega) (by omega) ?_
  refine va_putF (D := (dC, dI)) (ci := 2) (v := .ref q_3) (ty := .array .int) (C := RX2) (T := TX2) (N := 9) hx hb hw zz_inX2 tyX2 tyX2_ok nmX2 hown hK hP hD hS 0 rfl rfl 1 (by decide) (hw _ tw_129) (fun _ h9 => h9) rfl hin rfl (by decide +kernel) rfl rfl (Nat.le_of_ble_eq_true rfl) dX2_init_17 (fun H locs hP hD hS => ?_)
  obtain ⟨hP, hD⟩ := zz_ty (D := (dC, dI)) (cl := vwCl) (A := A) (H := H) [(h0, .inr (2, [.ref q_1, .ref q_3, .null, .null, .null, .null, .null, .null, zy_i0])), (q_1, .inl (cI, 8, .inl zy_zf)), (q_3, .inl (cI, 8, .inl zy_zf))] hP hD rfl
  refine lv_aload_n hx hb dX2_init_20 rfl (lv_at hl 0 rfl) ?_
  refine lv_bipush (v := 8) hx hb dX2_init_21 (by decide) ?_
  refine va_newa (atype := .int) (ty := .int) (N' := 8) (a0 := (8, .inl (fun _ => (0 : Int32)))) hx hb (hw _ tw_469) rfl hK hP hD hS hA (fun _ => rfl) (by decide) (by decide) (by decide) (Nat.le_of_ble_eq_true rfl) (Nat.le_of_ble_eq_true rfl) dX2_init_23 (fun q_5 cA_6 H hK hP hD hS => ?_)
  have eA : cA_6 = cI := zz_cA hK 0 1 rfl rfl (fun C h => by cases h)
  rw [eA] at hP hD hK
  have hK := hK.sub (tys' := [(cI, .int)]) [0] rfl
  obtain ⟨hP, hD⟩ := zz_ty (D := (dC, dI)) (cl := vwCl) (A := A) (H := H) [(h0, .inr (2, [.ref q_1, .ref q_3, .null, .null, .null, .null, .null, .null, zy_i0])), (q_1, .inl (cI, 8, .inl zy_zf)), (q_3, .inl (cI, 8, .inl zy_zf)), (q_5, .inl (cI, 8, .inl zy_zf))] hP hD rfl
  have hK : va_K (dC, dI) vwCl [(cI, .int)] s := hK
  refine W.widen (k := 3) (n := 24) (by omega) (by omega) ?_
  refine va_putF (D := (dC, dI)) (ci := 2) (v := .ref q_5) (ty := .array .int) (C := RX2) (T := TX2) (N := 9) hx hb hw zz_inX2 tyX2 tyX2_ok nmX2 hown hK hP hD hS 0 rfl rfl 2 (by decide) (hw _ tw_102) (fun _ h9 => h9) rfl hin rfl (by decide +kernel) rfl rfl (Nat.le_of_ble_eq_true rfl) dX2_init_25 (fun H locs hP hD hS => ?_)
  obtain ⟨hP, hD⟩ := zz_ty (D := (dC, dI)) (cl := vwCl) (A := A) (H := H) [(h0, .inr (2, [.ref q_1, .ref q_3, .ref q_5, .null, .null, .null, .null, .null, zy_i0])), (q_1, .inl (cI, 8, .inl zy_zf)), (q_3, .inl (cI, 8, .inl zy_zf)), (q_5, .inl (cI, 8, .inl zy_zf))] hP hD rfl
  refine lv_aload_n hx hb dX2_init_28 rfl (lv_at hl 0 rfl) ?_
  refine lv_sipush (v := 256) hx hb dX2_init_29 (by decide) ?_
  refine va_newa (atype := .int) (ty := .int) (N' := 256) (a0 := (256, .inl (fun _ => (0 : Int32)))) hx hb (hw _ tw_469) rfl hK hP hD hS hA (fun _ => rfl) (by decide) (by decide) (by decide) (Nat.le_of_ble_eq_true rfl) (Nat.le_of_ble_eq_true rfl) dX2_init_32 (fun q_7 cA_8 H hK hP hD hS => ?_)
  have eA : cA_8 = cI := zz_cA hK 0 1 rfl rfl (fun C h => by cases h)
  rw [eA] at hP hD hK
  have hK := hK.sub (tys' := [(cI, .int)]) [0] rfl
  obtain ⟨hP, hD⟩ := zz_ty (D := (dC, dI)) (cl := vwCl) (A := A) (H := H) [(h0, .inr (2, [.ref q_1, .ref q_3, .ref q_5, .null, .null, .null, .null, .null, zy_i0])), (q_1, .inl (cI, 8, .inl zy_zf)), (q_3, .inl (cI, 8, .inl zy_zf)), (q_5, .inl (cI, 8, .inl zy_zf)), (q_7, .inl (cI, 256, .inl zy_zf))] hP hD rfl
  have hK : va_K (dC, dI) vwCl [(cI, .int)] s := hK
  refine W.widen (k := 4) (n := 280) (by omega) (by omega) ?_
  refine va_putF (D := (dC, dI)) (ci := 2) (v := .ref q_7) (ty := .array .int) (C := RX2) (T := TX2) (N := 9) hx hb hw zz_inX2 tyX2 tyX2_ok nmX2 hown hK hP hD hS 0 rfl rfl 3 (by decide) (hw _ tw_103) (fun _ h9 => h9) rfl hin rfl (by decide +kernel) rfl rfl (Nat.le_of_ble_eq_true rfl) dX2_init_34 (fun H locs hP hD hS => ?_)
  obtain ⟨hP, hD⟩ := zz_ty (D := (dC, dI)) (cl := vwCl) (A := A) (H := H) [(h0, .inr (2, [.ref q_1, .ref q_3, .ref q_5, .ref q_7, .null, .null, .null, .null, zy_i0])), (q_1, .inl (cI, 8, .inl zy_zf)), (q_3, .inl (cI, 8, .inl zy_zf)), (q_5, .inl (cI, 8, .inl zy_zf)), (q_7, .inl (cI, 256, .inl zy_zf))] hP hD rfl
  refine lv_aload_n hx hb dX2_init_37 rfl (lv_at hl 0 rfl) ?_
  refine lv_sipush (v := 256) hx hb dX2_init_38 (by decide) ?_
  refine va_newa (atype := .int) (ty := .int) (N' := 256) (a0 := (256, .inl (fun _ => (0 : Int32)))) hx hb (hw _ tw_469) rfl hK hP hD hS hA (fun _ => rfl) (by decide) (by decide) (by decide) (Nat.le_of_ble_eq_true rfl) (Nat.le_of_ble_eq_true rfl) dX2_init_41 (fun q_9 cA_10 H hK hP hD hS => ?_)
  have eA : cA_10 = cI := zz_cA hK 0 1 rfl rfl (fun C h => by cases h)
  rw [eA] at hP hD hK
  have hK := hK.sub (tys' := [(cI, .int)]) [0] rfl
  obtain ⟨hP, hD⟩ := zz_ty (D := (dC, dI)) (cl := vwCl) (A := A) (H := H) [(h0, .inr (2, [.ref q_1, .ref q_3, .ref q_5, .ref q_7, .null, .null, .null, .null, zy_i0])), (q_1, .inl (cI, 8, .inl zy_zf)), (q_3, .inl (cI, 8, .inl zy_zf)), (q_5, .inl (cI, 8, .inl zy_zf)), (q_7, .inl (cI, 256, .inl zy_zf)), (q_9, .inl (cI, 256, .inl zy_zf))] hP hD rfl
  have hK : va_K (dC, dI) vwCl [(cI, .int)] s := hK
  refine W.widen (k := 5) (n := 536) (by omega) (by omega) ?_
  refine va_putF (D := (dC, dI)) (ci := 2) (v := .ref q_9) (ty := .array .int) (C := RX2) (T := TX2) (N := 9) hx hb hw zz_inX2 tyX2 tyX2_ok nmX2 hown hK hP hD hS 0 rfl rfl 4 (by decide) (hw _ tw_104) (fun _ h9 => h9) rfl hin rfl (by decide +kernel) rfl rfl (Nat.le_of_ble_eq_true rfl) dX2_init_43 (fun H locs hP hD hS => ?_)
  obtain ⟨hP, hD⟩ := zz_ty (D := (dC, dI)) (cl := vwCl) (A := A) (H := H) [(h0, .inr (2, [.ref q_1, .ref q_3, .ref q_5, .ref q_7, .ref q_9, .null, .null, .null, zy_i0])), (q_1, .inl (cI, 8, .inl zy_zf)), (q_3, .inl (cI, 8, .inl zy_zf)), (q_5, .inl (cI, 8, .inl zy_zf)), (q_7, .inl (cI, 256, .inl zy_zf)), (q_9, .inl (cI, 256, .inl zy_zf))] hP hD rfl
  refine lv_aload_n hx hb dX2_init_46 rfl (lv_at hl 0 rfl) ?_
  refine lv_bipush (v := 8) hx hb dX2_init_47 (by decide) ?_
  refine va_newa (atype := .int) (ty := .int) (N' := 8) (a0 := (8, .inl (fun _ => (0 : Int32)))) hx hb (hw _ tw_469) rfl hK hP hD hS hA (fun _ => rfl) (by decide) (by decide) (by decide) (Nat.le_of_ble_eq_true rfl) (Nat.le_of_ble_eq_true rfl) dX2_init_49 (fun q_11 cA_12 H hK hP hD hS => ?_)
  have eA : cA_12 = cI := zz_cA hK 0 1 rfl rfl (fun C h => by cases h)
  rw [eA] at hP hD hK
  have hK := hK.sub (tys' := [(cI, .int)]) [0] rfl
  obtain ⟨hP, hD⟩ := zz_ty (D := (dC, dI)) (cl := vwCl) (A := A) (H := H) [(h0, .inr (2, [.ref q_1, .ref q_3, .ref q_5, .ref q_7, .ref q_9, .null, .null, .null, zy_i0])), (q_1, .inl (cI, 8, .inl zy_zf)), (q_3, .inl (cI, 8, .inl zy_zf)), (q_5, .inl (cI, 8, .inl zy_zf)), (q_7, .inl (cI, 256, .inl zy_zf)), (q_9, .inl (cI, 256, .inl zy_zf)), (q_11, .inl (cI, 8, .inl zy_zf))] hP hD rfl
  have hK : va_K (dC, dI) vwCl [(cI, .int)] s := hK
  refine W.widen (k := 6) (n := 544) (by omega) (by omega) ?_
  refine va_putF (D := (dC, dI)) (ci := 2) (v := .ref q_11) (ty := .array .int) (C := RX2) (T := TX2) (N := 9) hx hb hw zz_inX2 tyX2 tyX2_ok nmX2 hown hK hP hD hS 0 rfl rfl 5 (by decide) (hw _ tw_112) (fun _ h9 => h9) rfl hin rfl (by decide +kernel) rfl rfl (Nat.le_of_ble_eq_true rfl) dX2_init_51 (fun H locs hP hD hS => ?_)
  obtain ⟨hP, hD⟩ := zz_ty (D := (dC, dI)) (cl := vwCl) (A := A) (H := H) [(h0, .inr (2, [.ref q_1, .ref q_3, .ref q_5, .ref q_7, .ref q_9, .ref q_11, .null, .null, zy_i0])), (q_1, .inl (cI, 8, .inl zy_zf)), (q_3, .inl (cI, 8, .inl zy_zf)), (q_5, .inl (cI, 8, .inl zy_zf)), (q_7, .inl (cI, 256, .inl zy_zf)), (q_9, .inl (cI, 256, .inl zy_zf)), (q_11, .inl (cI, 8, .inl zy_zf))] hP hD rfl
  refine lv_aload_n hx hb dX2_init_54 rfl (lv_at hl 0 rfl) ?_
  refine lv_bipush (v := 8) hx hb dX2_init_55 (by decide) ?_
  refine va_newa (atype := .int) (ty := .int) (N' := 8) (a0 := (8, .inl (fun _ => (0 : Int32)))) hx hb (hw _ tw_469) rfl hK hP hD hS hA (fun _ => rfl) (by decide) (by decide) (by decide) (Nat.le_of_ble_eq_true rfl) (Nat.le_of_ble_eq_true rfl) dX2_init_57 (fun q_13 cA_14 H hK hP hD hS => ?_)
  have eA : cA_14 = cI := zz_cA hK 0 1 rfl rfl (fun C h => by cases h)
  rw [eA] at hP hD hK
  have hK := hK.sub (tys' := [(cI, .int)]) [0] rfl
  obtain ⟨hP, hD⟩ := zz_ty (D := (dC, dI)) (cl := vwCl) (A := A) (H := H) [(h0, .inr (2, [.ref q_1, .ref q_3, .ref q_5, .ref q_7, .ref q_9, .ref q_11, .null, .null, zy_i0])), (q_1, .inl (cI, 8, .inl zy_zf)), (q_3, .inl (cI, 8, .inl zy_zf)), (q_5, .inl (cI, 8, .inl zy_zf)), (q_7, .inl (cI, 256, .inl zy_zf)), (q_9, .inl (cI, 256, .inl zy_zf)), (q_11, .inl (cI, 8, .inl zy_zf)), (q_13, .inl (cI, 8, .inl zy_zf))] hP hD rfl
  have hK : va_K (dC, dI) vwCl [(cI, .int)] s := hK
  refine W.widen (k := 7) (n := 552) (by omega) (by omega) ?_
  refine va_putF (D := (dC, dI)) (ci := 2) (v := .ref q_13) (ty := .array .int) (C := RX2) (T := TX2) (N := 9) hx hb hw zz_inX2 tyX2 tyX2_ok nmX2 hown hK hP hD hS 0 rfl rfl 6 (by decide) (hw _ tw_113) (fun _ h9 => h9) rfl hin rfl (by decide +kernel) rfl rfl (Nat.le_of_ble_eq_true rfl) dX2_init_59 (fun H locs hP hD hS => ?_)
  obtain ⟨hP, hD⟩ := zz_ty (D := (dC, dI)) (cl := vwCl) (A := A) (H := H) [(h0, .inr (2, [.ref q_1, .ref q_3, .ref q_5, .ref q_7, .ref q_9, .ref q_11, .ref q_13, .null, zy_i0])), (q_1, .inl (cI, 8, .inl zy_zf)), (q_3, .inl (cI, 8, .inl zy_zf)), (q_5, .inl (cI, 8, .inl zy_zf)), (q_7, .inl (cI, 256, .inl zy_zf)), (q_9, .inl (cI, 256, .inl zy_zf)), (q_11, .inl (cI, 8, .inl zy_zf)), (q_13, .inl (cI, 8, .inl zy_zf))] hP hD rfl
  refine lv_aload_n hx hb dX2_init_62 rfl (lv_at hl 0 rfl) ?_
  refine lv_bipush (v := 8) hx hb dX2_init_63 (by decide) ?_
  refine va_newa (atype := .int) (ty := .int) (N' := 8) (a0 := (8, .inl (fun _ => (0 : Int32)))) hx hb (hw _ tw_469) rfl hK hP hD hS hA (fun _ => rfl) (by decide) (by decide) (by decide) (Nat.le_of_ble_eq_true rfl) (Nat.le_of_ble_eq_true rfl) dX2_init_65 (fun q_15 cA_16 H hK hP hD hS => ?_)
  have eA : cA_16 = cI := zz_cA hK 0 1 rfl rfl (fun C h => by cases h)
  rw [eA] at hP hD hK
  have hK := hK.sub (tys' := [(cI, .int)]) [0] rfl
  obtain ⟨hP, hD⟩ := zz_ty (D := (dC, dI)) (cl := vwCl) (A := A) (H := H) [(h0, .inr (2, [.ref q_1, .ref q_3, .ref q_5, .ref q_7, .ref q_9, .ref q_11, .ref q_13, .null, zy_i0])), (q_1, .inl (cI, 8, .inl zy_zf)), (q_3, .inl (cI, 8, .inl zy_zf)), (q_5, .inl (cI, 8, .inl zy_zf)), (q_7, .inl (cI, 256, .inl zy_zf)), (q_9, .inl (cI, 256, .inl zy_zf)), (q_11, .inl (cI, 8, .inl zy_zf)), (q_13, .inl (cI, 8, .inl zy_zf)), (q_15, .inl (cI, 8, .inl zy_zf))] hP hD rfl
  have hK : va_K (dC, dI) vwCl [(cI, .int)] s := hK
  refine W.widen (k := 8) (n := 560) (by omega) (by omega) ?_
  refine va_putF (D := (dC, dI)) (ci := 2) (v := .ref q_15) (ty := .array .int) (C := RX2) (T := TX2) (N := 9) hx hb hw zz_inX2 tyX2 tyX2_ok nmX2 hown hK hP hD hS 0 rfl rfl 7 (by decide) (hw _ tw_114) (fun _ h9 => h9) rfl hin rfl (by decide +kernel) rfl rfl (Nat.le_of_ble_eq_true rfl) dX2_init_67 (fun H locs hP hD hS => ?_)
  obtain ⟨hP, hD⟩ := zz_ty (D := (dC, dI)) (cl := vwCl) (A := A) (H := H) [(h0, .inr (2, [.ref q_1, .ref q_3, .ref q_5, .ref q_7, .ref q_9, .ref q_11, .ref q_13, .ref q_15, zy_i0])), (q_1, .inl (cI, 8, .inl zy_zf)), (q_3, .inl (cI, 8, .inl zy_zf)), (q_5, .inl (cI, 8, .inl zy_zf)), (q_7, .inl (cI, 256, .inl zy_zf)), (q_9, .inl (cI, 256, .inl zy_zf)), (q_11, .inl (cI, 8, .inl zy_zf)), (q_13, .inl (cI, 8, .inl zy_zf)), (q_15, .inl (cI, 8, .inl zy_zf))] hP hD rfl
  obtain ⟨hP9, hD9⟩ := zz_sub2 (ws' := [(h0, .inr (2, [.ref q_1, .ref q_3, .ref q_5, .ref q_7, .ref q_9, .ref q_11, .ref q_13, .ref q_15, zy_i0])), (q_1, .inl (cI, 8, .inl zy_zf)), (q_3, .inl (cI, 8, .inl zy_zf)), (q_5, .inl (cI, 8, .inl zy_zf)), (q_7, .inl (cI, 256, .inl zy_zf)), (q_9, .inl (cI, 256, .inl zy_zf)), (q_11, .inl (cI, 8, .inl zy_zf)), (q_13, .inl (cI, 8, .inl zy_zf)), (q_15, .inl (cI, 8, .inl zy_zf))]) hP hD [0, 1, 2, 3, 4, 5, 6, 7, 8] (by decide) rfl
  have hK9 := hK.sub (tys' := [(cI, .int)]) [0] rfl
  refine W.widen (k := 8) (n := 560) (by omega) (by omega) ?_
  exact W.vret hx hb hr (fun t ht hW => ⟨⟨(q_1, q_3, q_5, q_7, q_9, q_11, q_13, q_15), rfl, trivial, by rw [ht]; exact hP9, va_K.moved hW.alike hK9, hD9⟩, hS.F ht⟩) hS.2.2 dX2_init_70
set_option maxHeartbeats 4000000 in
set_option maxRecDepth 100000 in
theorem i_Plan (l : Launch) (dC : Nat → ClassId) (dI : Nat → Nat → Nat) (h0 : Nat) (cI : ClassId) (sz : Nat) : Met l yX5_init (zz_w yX5_init cX5_init 1 none) ({ frames := 1, cells := 8, slots := 298, locals := 12 }) (va_Pc [.ref h0] (zz_B (dC, dI) sz [(h0, .inr (5, [.null, .null, .null, .null, .null, .null, .null, .null, .int 0, .int 0, .int 0, .int 0]))] [(cI, .int)])) (va_Qv (fun (_ : Nat × Nat × Nat × Nat × Nat × Nat × Nat × Nat) => True) (fun (u : Nat × Nat × Nat × Nat × Nat × Nat × Nat × Nat) (t : State) => match u with | (u0, u1, u2, u3, u4, u5, u6, u7) => va_P (dC, dI) vwCl [(h0, .inr (5, [.ref u0, .ref u1, .ref u2, .ref u3, .ref u4, .ref u5, .ref u6, .ref u7, .int 0, .int 0, .int 0, .int 0])), (u0, .inl (cI, 7, .inl (fun _ => (0 : Int32)))), (u1, .inl (cI, 7, .inl (fun _ => (0 : Int32)))), (u2, .inl (cI, 7, .inl (fun _ => (0 : Int32)))), (u3, .inl (cI, 7, .inl (fun _ => (0 : Int32)))), (u4, .inl (cI, 7, .inl (fun _ => (0 : Int32)))), (u5, .inl (cI, 128, .inl (fun _ => (0 : Int32)))), (u6, .inl (cI, 128, .inl (fun _ => (0 : Int32)))), (u7, .inl (cI, 7, .inl (fun _ => (0 : Int32))))] t.heap ∧ va_K (dC, dI) vwCl [(cI, .int)] t ∧ va_D (va_A [(h0, .inr (5, [.null, .null, .null, .null, .null, .null, .null, .null, .int 0, .int 0, .int 0, .int 0]))] sz) [(h0, .inr (5, [.ref u0, .ref u1, .ref u2, .ref u3, .ref u4, .ref u5, .ref u6, .ref u7, .int 0, .int 0, .int 0, .int 0])), (u0, .inl (cI, 7, .inl (fun _ => (0 : Int32)))), (u1, .inl (cI, 7, .inl (fun _ => (0 : Int32)))), (u2, .inl (cI, 7, .inl (fun _ => (0 : Int32)))), (u3, .inl (cI, 7, .inl (fun _ => (0 : Int32)))), (u4, .inl (cI, 7, .inl (fun _ => (0 : Int32)))), (u5, .inl (cI, 128, .inl (fun _ => (0 : Int32)))), (u6, .inl (cI, 128, .inl (fun _ => (0 : Int32)))), (u7, .inl (cI, 7, .inl (fun _ => (0 : Int32))))]) (va_A [(h0, .inr (5, [.null, .null, .null, .null, .null, .null, .null, .null, .int 0, .int 0, .int 0, .int 0]))] sz)) 8 298 (va_A [(h0, .inr (5, [.null, .null, .null, .null, .null, .null, .null, .null, .int 0, .int 0, .int 0, .int 0]))] sz) := by
  refine Met.ofW (cc := cX5_init) (maxL := 1) (ret := none) (by decide) rfl ?_
  intro p e s m args below meth c s₁ B hml hv
  obtain ⟨rfl, hsz, hP, hK, hD0, hN⟩ := hv
  have hx := B.exec
  have hb := B.bytes
  have hr := B.returns
  have hts := atoms_spec (ws := zz_w yX5_init cX5_init 1 none) B.pre
  have hw : ∀ w ∈ zz_all, w.before _ s = true := fun w h => hts w (List.mem_cons_of_mem _ h)
  have hown : s.vm.findClass RX5 = some m.cls := findClass_of_methodNamed B.named
  have hlocks := B.notSynchronized
  have hin : meth.name = "<init>" := (name_of_methodNamed B.named B.method).1
  subst hsz
  have hD := hD0.self (sz := s.heap.size)
  generalize hAe : va_A [(h0, .inr (5, [.null, .null, .null, .null, .null, .null, .null, .null, .int 0, .int 0, .int 0, .int 0]))] s.heap.size = A at hD ⊢
  have hA : ∀ q : Nat, s.heap.size ≤ q → A q := fun q h => by rw [← hAe]; exact Or.inr h
  have hS : va_S A s.heap s.heap [] := va_S.rf
  have hP : va_P (dC, dI) vwCl [(h0, .inr (5, [.null, .null, .null, .null, .null, .null, .null, .null, zy_i0, zy_i0, zy_i0, zy_i0]))] s.heap := hP
  have hl := lv_entry ([.ref h0]) (n := 1) (Nat.le_of_ble_eq_true rfl)
  rw [lg_entry_eq]
  generalize (lg_sl ([.ref h0]) ++ List.replicate (1 - (lg_sl ([.ref h0])).length) Slot.unset).toArray = ls at hl ⊢
  have hl : lv_has ls 1 [(0, .ref h0)] := hl
  refine lv_aload_n hx hb dX5_init_0 rfl (lv_at hl 0 rfl) ?_
  refine W.objInit hx hb hown (hw _ tw_473) (hw _ tw_463) (hw _ tw_464) rfl (by rw [hml]; exact hl.1) rfl dX5_init_1 (Nat.le_of_ble_eq_true rfl) (Nat.le_of_ble_eq_true rfl) ?_
  refine W.eq (g2 := F0 m 4 ls []) rfl ?_
  refine lv_aload_n hx hb dX5_init_4 rfl (lv_at hl 0 rfl) ?_
  refine lv_bipush (v := 7) hx hb dX5_init_5 (by decide) ?_
  refine va_newa (atype := .int) (ty := .int) (N' := 7) (a0 := (7, .inl (fun _ => (0 : Int32)))) hx hb (hw _ tw_469) rfl hK hP hD hS hA (fun _ => rfl) (by decide) (by decide) (by decide) (Nat.le_of_ble_eq_true rfl) (Nat.le_of_ble_eq_true rfl) dX5_init_7 (fun q_1 cA_2 H hK hP hD hS => ?_)
  have eA : cA_2 = cI := zz_cA hK 0 1 rfl rfl (fun C h => by cases h)
  rw [eA] at hP hD hK
  have hK := hK.sub (tys' := [(cI, .int)]) [0] rfl
  obtain ⟨hP, hD⟩ := zz_ty (D := (dC, dI)) (cl := vwCl) (A := A) (H := H) [(h0, .inr (5, [.null, .null, .null, .null, .null, .null, .null, .null, zy_i0, zy_i0, zy_i0, zy_i0])), (q_1, .inl (cI, 7, .inl zy_zf))] hP hD rfl
  have hK : va_K (dC, dI) vwCl [(cI, .int)] s := hK
  refine W.widen (k := 1) (n := 7) (by omega) (by omega) ?_
  refine va_putF (D := (dC, dI)) (ci := 5) (v := .ref q_1) (ty := .array .int) (C := RX5) (T := TX5) (N := 12) hx hb hw zz_inX5 tyX5 tyX5_ok nmX5 hown hK hP hD hS 0 rfl rfl 0 (by decide) (hw _ tw_146) (fun _ h9 => h9) rfl hin rfl (by decide +kernel) rfl rfl (Nat.le_of_ble_eq_true rfl) dX5_init_9 (fun H locs hP hD hS => ?_)
  obtain ⟨hP, hD⟩ := zz_ty (D := (dC, dI)) (cl := vwCl) (A := A) (H := H) [(h0, .inr (5, [.ref q_1, .null, .null, .null, .null, .null, .null, .null, zy_i0, zy_i0, zy_i0, zy_i0])), (q_1, .inl (cI, 7, .inl zy_zf))] hP hD rfl
  refine lv_aload_n hx hb dX5_init_12 rfl (lv_at hl 0 rfl) ?_
  refine lv_bipush (v := 7) hx hb dX5_init_13 (by decide) ?_
  refine va_newa (atype := .int) (ty := .int) (N' := 7) (a0 := (7, .inl (fun _ => (0 : Int32)))) hx hb (hw _ tw_469) rfl hK hP hD hS hA (fun _ => rfl) (by decide) (by decide) (by decide) (Nat.le_of_ble_eq_true rfl) (Nat.le_of_ble_eq_true rfl) dX5_init_15 (fun q_3 cA_4 H hK hP hD hS => ?_)
  have eA : cA_4 = cI := zz_cA hK 0 1 rfl rfl (fun C h => by cases h)
  rw [eA] at hP hD hK
  have hK := hK.sub (tys' := [(cI, .int)]) [0] rfl
  obtain ⟨hP, hD⟩ := zz_ty (D := (dC, dI)) (cl := vwCl) (A := A) (H := H) [(h0, .inr (5, [.ref q_1, .null, .null, .null, .null, .null, .null, .null, zy_i0, zy_i0, zy_i0, zy_i0])), (q_1, .inl (cI, 7, .inl zy_zf)), (q_3, .inl (cI, 7, .inl zy_zf))] hP hD rfl
  have hK : va_K (dC, dI) vwCl [(cI, .int)] s := hK
  refine W.widen (k := 2) (n := 14) (by omega) (by omega) ?_
  refine va_putF (D := (dC, dI)) (ci := 5) (v := .ref q_3) (ty := .array .int) (C := RX5) (T := TX5) (N := 12) hx hb hw zz_inX5 tyX5 tyX5_ok nmX5 hown hK hP hD hS 0 rfl rfl 1 (by decide) (hw _ tw_147) (fun _ h9 => h9) rfl hin rfl (by decide +kernel) rfl rfl (Nat.le_of_ble_eq_true rfl) dX5_init_17 (fun H locs hP hD hS => ?_)
  obtain ⟨hP, hD⟩ := zz_ty (D := (dC, dI)) (cl := vwCl) (A := A) (H := H) [(h0, .inr (5, [.ref q_1, .ref q_3, .null, .null, .null, .null, .null, .null, zy_i0, zy_i0, zy_i0, zy_i0])), (q_1, .inl (cI, 7, .inl zy_zf)), (q_3, .inl (cI, 7, .inl zy_zf))] hP hD rfl
  refine lv_aload_n hx hb dX5_init_20 rfl (lv_at hl 0 rfl) ?_
  refine lv_bipush (v := 7) hx hb dX5_init_21 (by decide) ?_
  refine va_newa (atype := .int) (ty := .int) (N' := 7) (a0 := (7, .inl (fun _ => (0 : Int32)))) hx hb (hw _ tw_469) rfl hK hP hD hS hA (fun _ => rfl) (by decide) (by decide) (by decide) (Nat.le_of_ble_eq_true rfl) (Nat.le_of_ble_eq_true rfl) dX5_init_23 (fun q_5 cA_6 H hK hP hD hS => ?_)
  have eA : cA_6 = cI := zz_cA hK 0 1 rfl rfl (fun C h => by cases h)
  rw [eA] at hP hD hK
  have hK := hK.sub (tys' := [(cI, .int)]) [0] rfl
  obtain ⟨hP, hD⟩ := zz_ty (D := (dC, dI)) (cl := vwCl) (A := A) (H := H) [(h0, .inr (5, [.ref q_1, .ref q_3, .null, .null, .null, .null, .null, .null, zy_i0, zy_i0, zy_i0, zy_i0])), (q_1, .inl (cI, 7, .inl zy_zf)), (q_3, .inl (cI, 7, .inl zy_zf)), (q_5, .inl (cI, 7, .inl zy_zf))] hP hD rfl
  have hK : va_K (dC, dI) vwCl [(cI, .int)] s := hK
  refine W.widen (k := 3) (n := 21) (by omega) (by omega) ?_
  refine va_putF (D := (dC, dI)) (ci := 5) (v := .ref q_5) (ty := .array .int) (C := RX5) (T := TX5) (N := 12) hx hb hw zz_inX5 tyX5 tyX5_ok nmX5 hown hK hP hD hS 0 rfl rfl 2 (by decide) (hw _ tw_148) (fun _ h9 => h9) rfl hin rfl (by decide +kernel) rfl rfl (Nat.le_of_ble_eq_true rfl) dX5_init_25 (fun H locs hP hD hS => ?_)
  obtain ⟨hP, hD⟩ := zz_ty (D := (dC, dI)) (cl := vwCl) (A := A) (H := H) [(h0, .inr (5, [.ref q_1, .ref q_3, .ref q_5, .null, .null, .null, .null, .null, zy_i0, zy_i0, zy_i0, zy_i0])), (q_1, .inl (cI, 7, .inl zy_zf)), (q_3, .inl (cI, 7, .inl zy_zf)), (q_5, .inl (cI, 7, .inl zy_zf))] hP hD rfl
  refine lv_aload_n hx hb dX5_init_28 rfl (lv_at hl 0 rfl) ?_
  refine lv_bipush (v := 7) hx hb dX5_init_29 (by decide) ?_
  refine va_newa (atype := .int) (ty := .int) (N' := 7) (a0 := (7, .inl (fun _ => (0 : Int32)))) hx hb (hw _ tw_469) rfl hK hP hD hS hA (fun _ => rfl) (by decide) (by decide) (by decide) (Nat.le_of_ble_eq_true rfl) (Nat.le_of_ble_eq_true rfl) dX5_init_31 (fun q_7 cA_8 H hK hP hD hS => ?_)
  have eA : cA_8 = cI := zz_cA hK 0 1 rfl rfl (fun C h => by cases h)
  rw [eA] at hP hD hK
  have hK := hK.sub (tys' := [(cI, .int)]) [0] rfl
  obtain ⟨hP, hD⟩ := zz_ty (D := (dC, dI)) (cl := vwCl) (A := A) (H := H) [(h0, .inr (5, [.ref q_1, .ref q_3, .ref q_5, .null, .null, .null, .null, .null, zy_i0, zy_i0, zy_i0, zy_i0])), (q_1, .inl (cI, 7, .inl zy_zf)), (q_3, .inl (cI, 7, .inl zy_zf)), (q_5, .inl (cI, 7, .inl zy_zf)), (q_7, .inl (cI, 7, .inl zy_zf))] hP hD rfl
  have hK : va_K (dC, dI) vwCl [(cI, .int)] s := hK
  refine W.widen (k := 4) (n := 28) (by omega) (by omega) ?_
  refine va_putF (D := (dC, dI)) (ci := 5) (v := .ref q_7) (ty := .array .int) (C := RX5) (T := TX5) (N := 12) hx hb hw zz_inX5 tyX5 tyX5_ok nmX5 hown hK hP hD hS 0 rfl rfl 3 (by decide) (hw _ tw_149) (fun _ h9 => h9) rfl hin rfl (by decide +kernel) rfl rfl (Nat.le_of_ble_eq_true rfl) dX5_init_33 (fun H locs hP hD hS => ?_)
  obtain ⟨hP, hD⟩ := zz_ty (D := (dC, dI)) (cl := vwCl) (A := A) (H := H) [(h0, .inr (5, [.ref q_1, .ref q_3, .ref q_5, .ref q_7, .null, .null, .null, .null, zy_i0, zy_i0, zy_i0, zy_i0])), (q_1, .inl (cI, 7, .inl zy_zf)), (q_3, .inl (cI, 7, .inl zy_zf)), (q_5, .inl (cI, 7, .inl zy_zf)), (q_7, .inl (cI, 7, .inl zy_zf))] hP hD rfl
  refine lv_aload_n hx hb dX5_init_36 rfl (lv_at hl 0 rfl) ?_
  refine lv_bipush (v := 7) hx hb dX5_init_37 (by decide) ?_
  refine va_newa (atype := .int) (ty := .int) (N' := 7) (a0 := (7, .inl (fun _ => (0 : Int32)))) hx hb (hw _ tw_469) rfl hK hP hD hS hA (fun _ => rfl) (by decide) (by decide) (by decide) (Nat.le_of_ble_eq_true rfl) (Nat.le_of_ble_eq_true rfl) dX5_init_39 (fun q_9 cA_10 H hK hP hD hS => ?_)
  have eA : cA_10 = cI := zz_cA hK 0 1 rfl rfl (fun C h => by cases h)
  rw [eA] at hP hD hK
  have hK := hK.sub (tys' := [(cI, .int)]) [0] rfl
  obtain ⟨hP, hD⟩ := zz_ty (D := (dC, dI)) (cl := vwCl) (A := A) (H := H) [(h0, .inr (5, [.ref q_1, .ref q_3, .ref q_5, .ref q_7, .null, .null, .null, .null, zy_i0, zy_i0, zy_i0, zy_i0])), (q_1, .inl (cI, 7, .inl zy_zf)), (q_3, .inl (cI, 7, .inl zy_zf)), (q_5, .inl (cI, 7, .inl zy_zf)), (q_7, .inl (cI, 7, .inl zy_zf)), (q_9, .inl (cI, 7, .inl zy_zf))] hP hD rfl
  have hK : va_K (dC, dI) vwCl [(cI, .int)] s := hK
  refine W.widen (k := 5) (n := 35) (by omega) (by omega) ?_
  refine va_putF (D := (dC, dI)) (ci := 5) (v := .ref q_9) (ty := .array .int) (C := RX5) (T := TX5) (N := 12) hx hb hw zz_inX5 tyX5 tyX5_ok nmX5 hown hK hP hD hS 0 rfl rfl 4 (by decide) (hw _ tw_150) (fun _ h9 => h9) rfl hin rfl (by decide +kernel) rfl rfl (Nat.le_of_ble_eq_true rfl) dX5_init_41 (fun H locs hP hD hS => ?_)
  obtain ⟨hP, hD⟩ := zz_ty (D := (dC, dI)) (cl := vwCl) (A := A) (H := H) [(h0, .inr (5, [.ref q_1, .ref q_3, .ref q_5, .ref q_7, .ref q_9, .null, .null, .null, zy_i0, zy_i0, zy_i0, zy_i0])), (q_1, .inl (cI, 7, .inl zy_zf)), (q_3, .inl (cI, 7, .inl zy_zf)), (q_5, .inl (cI, 7, .inl zy_zf)), (q_7, .inl (cI, 7, .inl zy_zf)), (q_9, .inl (cI, 7, .inl zy_zf))] hP hD rfl
  refine lv_aload_n hx hb dX5_init_44 rfl (lv_at hl 0 rfl) ?_
  refine lv_sipush (v := 128) hx hb dX5_init_45 (by decide) ?_
  refine va_newa (atype := .int) (ty := .int) (N' := 128) (a0 := (128, .inl (fun _ => (0 : Int32)))) hx hb (hw _ tw_469) rfl hK hP hD hS hA (fun _ => rfl) (by decide) (by decide) (by decide) (Nat.le_of_ble_eq_true rfl) (Nat.le_of_ble_eq_true rfl) dX5_init_48 (fun q_11 cA_12 H hK hP hD hS => ?_)
  have eA : cA_12 = cI := zz_cA hK 0 1 rfl rfl (fun C h => by cases h)
  rw [eA] at hP hD hK
  have hK := hK.sub (tys' := [(cI, .int)]) [0] rfl
  obtain ⟨hP, hD⟩ := zz_ty (D := (dC, dI)) (cl := vwCl) (A := A) (H := H) [(h0, .inr (5, [.ref q_1, .ref q_3, .ref q_5, .ref q_7, .ref q_9, .null, .null, .null, zy_i0, zy_i0, zy_i0, zy_i0])), (q_1, .inl (cI, 7, .inl zy_zf)), (q_3, .inl (cI, 7, .inl zy_zf)), (q_5, .inl (cI, 7, .inl zy_zf)), (q_7, .inl (cI, 7, .inl zy_zf)), (q_9, .inl (cI, 7, .inl zy_zf)), (q_11, .inl (cI, 128, .inl zy_zf))] hP hD rfl
  have hK : va_K (dC, dI) vwCl [(cI, .int)] s := hK
  refine W.widen (k := 6) (n := 163) (by omega) (by omega) ?_
  refine va_putF (D := (dC, dI)) (ci := 5) (v := .ref q_11) (ty := .array .int) (C := RX5) (T := TX5) (N := 12) hx hb hw zz_inX5 tyX5 tyX5_ok nmX5 hown hK hP hD hS 0 rfl rfl 5 (by decide) (hw _ tw_156) (fun _ h9 => h9) rfl hin rfl (by decide +kernel) rfl rfl (Nat.le_of_ble_eq_true rfl) dX5_init_50 (fun H locs hP hD hS => ?_)
  obtain ⟨hP, hD⟩ := zz_ty (D := (dC, dI)) (cl := vwCl) (A := A) (H := H) [(h0, .inr (5, [.ref q_1, .ref q_3, .ref q_5, .ref q_7, .ref q_9, .ref q_11, .null, .null, zy_i0, zy_i0, zy_i0, zy_i0])), (q_1, .inl (cI, 7, .inl zy_zf)), (q_3, .inl (cI, 7, .inl zy_zf)), (q_5, .inl (cI, 7, .inl zy_zf)), (q_7, .inl (cI, 7, .inl zy_zf)), (q_9, .inl (cI, 7, .inl zy_zf)), (q_11, .inl (cI, 128, .inl zy_zf))] hP hD rfl
  refine lv_aload_n hx hb dX5_init_53 rfl (lv_at hl 0 rfl) ?_
  refine lv_sipush (v := 128) hx hb dX5_init_54 (by decide) ?_
  refine va_newa (atype := .int) (ty := .int) (N' := 128) (a0 := (128, .inl (fun _ => (0 : Int32)))) hx hb (hw _ tw_469) rfl hK hP hD hS hA (fun _ => rfl) (by decide) (by decide) (by decide) (Nat.le_of_ble_eq_true rfl) (Nat.le_of_ble_eq_true rfl) dX5_init_57 (fun q_13 cA_14 H hK hP hD hS => ?_)
  have eA : cA_14 = cI := zz_cA hK 0 1 rfl rfl (fun C h => by cases h)
  rw [eA] at hP hD hK
  have hK := hK.sub (tys' := [(cI, .int)]) [0] rfl
  obtain ⟨hP, hD⟩ := zz_ty (D := (dC, dI)) (cl := vwCl) (A := A) (H := H) [(h0, .inr (5, [.ref q_1, .ref q_3, .ref q_5, .ref q_7, .ref q_9, .ref q_11, .null, .null, zy_i0, zy_i0, zy_i0, zy_i0])), (q_1, .inl (cI, 7, .inl zy_zf)), (q_3, .inl (cI, 7, .inl zy_zf)), (q_5, .inl (cI, 7, .inl zy_zf)), (q_7, .inl (cI, 7, .inl zy_zf)), (q_9, .inl (cI, 7, .inl zy_zf)), (q_11, .inl (cI, 128, .inl zy_zf)), (q_13, .inl (cI, 128, .inl zy_zf))] hP hD rfl
  have hK : va_K (dC, dI) vwCl [(cI, .int)] s := hK
  refine W.widen (k := 7) (n := 291) (by omega) (by omega) ?_
  refine va_putF (D := (dC, dI)) (ci := 5) (v := .ref q_13) (ty := .array .int) (C := RX5) (T := TX5) (N := 12) hx hb hw zz_inX5 tyX5 tyX5_ok nmX5 hown hK hP hD hS 0 rfl rfl 6 (by decide) (hw _ tw_157) (fun _ h9 => h9) rfl hin rfl (by decide +kernel) rfl rfl (Nat.le_of_ble_eq_true rfl) dX5_init_59 (fun H locs hP hD hS => ?_)
  obtain ⟨hP, hD⟩ := zz_ty (D := (dC, dI)) (cl := vwCl) (A := A) (H := H) [(h0, .inr (5, [.ref q_1, .ref q_3, .ref q_5, .ref q_7, .ref q_9, .ref q_11, .ref q_13, .null, zy_i0, zy_i0, zy_i0, zy_i0])), (q_1, .inl (cI, 7, .inl zy_zf)), (q_3, .inl (cI, 7, .inl zy_zf)), (q_5, .inl (cI, 7, .inl zy_zf)), (q_7, .inl (cI, 7, .inl zy_zf)), (q_9, .inl (cI, 7, .inl zy_zf)), (q_11, .inl (cI, 128, .inl zy_zf)), (q_13, .inl (cI, 128, .inl zy_zf))] hP hD rfl
  refine lv_aload_n hx hb dX5_init_62 rfl (lv_at hl 0 rfl) ?_
  refine lv_bipush (v := 7) hx hb dX5_init_63 (by decide) ?_
  refine va_newa (atype := .int) (ty := .int) (N' := 7) (a0 := (7, .inl (fun _ => (0 : Int32)))) hx hb (hw _ tw_469) rfl hK hP hD hS hA (fun _ => rfl) (by decide) (by decide) (by decide) (Nat.le_of_ble_eq_true rfl) (Nat.le_of_ble_eq_true rfl) dX5_init_65 (fun q_15 cA_16 H hK hP hD hS => ?_)
  have eA : cA_16 = cI := zz_cA hK 0 1 rfl rfl (fun C h => by cases h)
  rw [eA] at hP hD hK
  have hK := hK.sub (tys' := [(cI, .int)]) [0] rfl
  obtain ⟨hP, hD⟩ := zz_ty (D := (dC, dI)) (cl := vwCl) (A := A) (H := H) [(h0, .inr (5, [.ref q_1, .ref q_3, .ref q_5, .ref q_7, .ref q_9, .ref q_11, .ref q_13, .null, zy_i0, zy_i0, zy_i0, zy_i0])), (q_1, .inl (cI, 7, .inl zy_zf)), (q_3, .inl (cI, 7, .inl zy_zf)), (q_5, .inl (cI, 7, .inl zy_zf)), (q_7, .inl (cI, 7, .inl zy_zf)), (q_9, .inl (cI, 7, .inl zy_zf)), (q_11, .inl (cI, 128, .inl zy_zf)), (q_13, .inl (cI, 128, .inl zy_zf)), (q_15, .inl (cI, 7, .inl zy_zf))] hP hD rfl
  have hK : va_K (dC, dI) vwCl [(cI, .int)] s := hK
  refine W.widen (k := 8) (n := 298) (by omega) (by omega) ?_
  refine va_putF (D := (dC, dI)) (ci := 5) (v := .ref q_15) (ty := .array .int) (C := RX5) (T := TX5) (N := 12) hx hb hw zz_inX5 tyX5 tyX5_ok nmX5 hown hK hP hD hS 0 rfl rfl 7 (by decide) (hw _ tw_163) (fun _ h9 => h9) rfl hin rfl (by decide +kernel) rfl rfl (Nat.le_of_ble_eq_true rfl) dX5_init_67 (fun H locs hP hD hS => ?_)
  obtain ⟨hP, hD⟩ := zz_ty (D := (dC, dI)) (cl := vwCl) (A := A) (H := H) [(h0, .inr (5, [.ref q_1, .ref q_3, .ref q_5, .ref q_7, .ref q_9, .ref q_11, .ref q_13, .ref q_15, zy_i0, zy_i0, zy_i0, zy_i0])), (q_1, .inl (cI, 7, .inl zy_zf)), (q_3, .inl (cI, 7, .inl zy_zf)), (q_5, .inl (cI, 7, .inl zy_zf)), (q_7, .inl (cI, 7, .inl zy_zf)), (q_9, .inl (cI, 7, .inl zy_zf)), (q_11, .inl (cI, 128, .inl zy_zf)), (q_13, .inl (cI, 128, .inl zy_zf)), (q_15, .inl (cI, 7, .inl zy_zf))] hP hD rfl
  obtain ⟨hP9, hD9⟩ := zz_sub2 (ws' := [(h0, .inr (5, [.ref q_1, .ref q_3, .ref q_5, .ref q_7, .ref q_9, .ref q_11, .ref q_13, .ref q_15, zy_i0, zy_i0, zy_i0, zy_i0])), (q_1, .inl (cI, 7, .inl zy_zf)), (q_3, .inl (cI, 7, .inl zy_zf)), (q_5, .inl (cI, 7, .inl zy_zf)), (q_7, .inl (cI, 7, .inl zy_zf)), (q_9, .inl (cI, 7, .inl zy_zf)), (q_11, .inl (cI, 128, .inl zy_zf)), (q_13, .inl (cI, 128, .inl zy_zf)), (q_15, .inl (cI, 7, .inl zy_zf))]) hP hD [0, 1, 2, 3, 4, 5, 6, 7, 8] (by decide) rfl
  have hK9 := hK.sub (tys' := [(cI, .int)]) [0] rfl
  refine W.widen (k := 8) (n := 298) (by omega) (by omega) ?_
  exact W.vret hx hb hr (fun t ht hW => ⟨⟨(q_1, q_3, q_5, q_7, q_9, q_11, q_13, q_15), rfl, trivial, by rw [ht]; exact hP9, va_K.moved hW.alike hK9, hD9⟩, hS.F ht⟩) hS.2.2 dX5_init_70
