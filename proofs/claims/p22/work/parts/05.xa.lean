theorem tw_0 : Cond.fieldLink RX7 62 "HandsReturned" "houseCount" "I" ∈ zz_all := zz_m2 34 rfl rfl
theorem tw_1 : Cond.code yX7_within cX7_within 3 (some .boolean) ∈ zz_all := zz_m2 77 rfl rfl
theorem tw_2 : Cond.initialized RX7 ∈ zz_all := zz_m1 1 rfl rfl
theorem tw_3 : Cond.methodLink RX7 80 yX7_within ∈ zz_all := zz_m2 75 rfl rfl
theorem tw_4 : Cond.static yX7_within ∈ zz_all := zz_m2 76 rfl rfl
theorem tw_5 : Cond.fieldLink RX7 11 "HandsReturned" "houses" "[LHandsReturned$House;" ∈ zz_all := zz_m2 26 rfl rfl
theorem tw_6 : Cond.fieldLink RX7 77 "HandsReturned" "fieldCount" "I" ∈ zz_all := zz_m2 35 rfl rfl
theorem tw_7 : Cond.fieldLink RX7 18 "HandsReturned" "fields" "[LHandsReturned$Field;" ∈ zz_all := zz_m2 27 rfl rfl
theorem tw_8 : Cond.code yX7_houseAt cX7_houseAt 2 (some (.object "HandsReturned$House")) ∈ zz_all := zz_m2 74 rfl rfl
theorem tw_9 : Cond.methodLink RX7 73 yX7_houseAt ∈ zz_all := zz_m2 71 rfl rfl
theorem tw_10 : Cond.instanceMethod yX7_houseAt ∈ zz_all := zz_m2 73 rfl rfl
theorem tw_11 : Cond.selects RX7 yX7_houseAt yX7_houseAt ∈ zz_all := zz_ms 0 rfl rfl
theorem zy_b05xa_0 : decode cX7_within 0 = .ok (.iload_n 0, 1) ∧ decode cX7_within 1 = .ok (.iload_n 1, 1) ∧ decode cX7_within 2 = .ok (.if_icmp .lt 12, 3) ∧ decode cX7_within 5 = .ok (.iload_n 0, 1) ∧ decode cX7_within 6 = .ok (.iload_n 2, 1) ∧ decode cX7_within 7 = .ok (.if_icmp .gt 7, 3) ∧ decode cX7_within 10 = .ok (.iconst 1, 1) ∧ decode cX7_within 11 = .ok (.goto 4, 3) := by decide +kernel
theorem dX7_within_0 : decode cX7_within 0 = .ok (.iload_n 0, 1) := zy_b05xa_0.1
theorem dX7_within_1 : decode cX7_within 1 = .ok (.iload_n 1, 1) := zy_b05xa_0.2.1
theorem dX7_within_2 : decode cX7_within 2 = .ok (.if_icmp .lt 12, 3) := zy_b05xa_0.2.2.1
theorem dX7_within_5 : decode cX7_within 5 = .ok (.iload_n 0, 1) := zy_b05xa_0.2.2.2.1
theorem dX7_within_6 : decode cX7_within 6 = .ok (.iload_n 2, 1) := zy_b05xa_0.2.2.2.2.1
theorem dX7_within_7 : decode cX7_within 7 = .ok (.if_icmp .gt 7, 3) := zy_b05xa_0.2.2.2.2.2.1
theorem dX7_within_10 : decode cX7_within 10 = .ok (.iconst 1, 1) := zy_b05xa_0.2.2.2.2.2.2.1
theorem dX7_within_11 : decode cX7_within 11 = .ok (.goto 4, 3) := zy_b05xa_0.2.2.2.2.2.2.2
theorem dX7_within_14 : decode cX7_within 14 = .ok (.iconst 0, 1) := by decide +kernel
theorem dX7_within_15 : decode cX7_within 15 = .ok (.ireturn, 1) := by decide +kernel
theorem zy_b05xa_1 : decode cX8_in 0 = .ok (.lload_n 0, 1) ∧ decode cX8_in 1 = .ok (.lload_n 2, 1) ∧ decode cX8_in 2 = .ok (.lcmp, 1) ∧ decode cX8_in 3 = .ok (.ifCond .lt 14, 3) ∧ decode cX8_in 6 = .ok (.lload_n 0, 1) ∧ decode cX8_in 7 = .ok (.lload 4, 2) ∧ decode cX8_in 9 = .ok (.lcmp, 1) ∧ decode cX8_in 10 = .ok (.ifCond .gt 7, 3) := by decide +kernel
theorem dX8_in_0 : decode cX8_in 0 = .ok (.lload_n 0, 1) := zy_b05xa_1.1
theorem dX8_in_1 : decode cX8_in 1 = .ok (.lload_n 2, 1) := zy_b05xa_1.2.1
theorem dX8_in_2 : decode cX8_in 2 = .ok (.lcmp, 1) := zy_b05xa_1.2.2.1
theorem dX8_in_3 : decode cX8_in 3 = .ok (.ifCond .lt 14, 3) := zy_b05xa_1.2.2.2.1
theorem dX8_in_6 : decode cX8_in 6 = .ok (.lload_n 0, 1) := zy_b05xa_1.2.2.2.2.1
theorem dX8_in_7 : decode cX8_in 7 = .ok (.lload 4, 2) := zy_b05xa_1.2.2.2.2.2.1
theorem dX8_in_9 : decode cX8_in 9 = .ok (.lcmp, 1) := zy_b05xa_1.2.2.2.2.2.2.1
theorem dX8_in_10 : decode cX8_in 10 = .ok (.ifCond .gt 7, 3) := zy_b05xa_1.2.2.2.2.2.2.2
theorem zy_b05xa_2 : decode cX8_in 13 = .ok (.iconst 1, 1) ∧ decode cX8_in 14 = .ok (.goto 4, 3) ∧ decode cX8_in 17 = .ok (.iconst 0, 1) ∧ decode cX8_in 18 = .ok (.ireturn, 1) := by decide +kernel
theorem dX8_in_13 : decode cX8_in 13 = .ok (.iconst 1, 1) := zy_b05xa_2.1
theorem dX8_in_14 : decode cX8_in 14 = .ok (.goto 4, 3) := zy_b05xa_2.2.1
theorem dX8_in_17 : decode cX8_in 17 = .ok (.iconst 0, 1) := zy_b05xa_2.2.2.1
theorem dX8_in_18 : decode cX8_in 18 = .ok (.ireturn, 1) := zy_b05xa_2.2.2.2
theorem zy_b05xa_3 : decode cX7_houseAt 0 = .ok (.iload_n 1, 1) ∧ decode cX7_houseAt 1 = .ok (.iconst 0, 1) ∧ decode cX7_houseAt 2 = .ok (.aload_n 0, 1) ∧ decode cX7_houseAt 3 = .ok (.getfield 62, 3) ∧ decode cX7_houseAt 6 = .ok (.iconst 1, 1) ∧ decode cX7_houseAt 7 = .ok (.isub, 1) ∧ decode cX7_houseAt 8 = .ok (.invokestatic 80, 3) ∧ decode cX7_houseAt 11 = .ok (.ifCond .eq 12, 3) := by decide +kernel
theorem dX7_houseAt_0 : decode cX7_houseAt 0 = .ok (.iload_n 1, 1) := zy_b05xa_3.1
theorem dX7_houseAt_1 : decode cX7_houseAt 1 = .ok (.iconst 0, 1) := zy_b05xa_3.2.1
theorem dX7_houseAt_2 : decode cX7_houseAt 2 = .ok (.aload_n 0, 1) := zy_b05xa_3.2.2.1
theorem dX7_houseAt_3 : decode cX7_houseAt 3 = .ok (.getfield 62, 3) := zy_b05xa_3.2.2.2.1
theorem dX7_houseAt_6 : decode cX7_houseAt 6 = .ok (.iconst 1, 1) := zy_b05xa_3.2.2.2.2.1
theorem dX7_houseAt_7 : decode cX7_houseAt 7 = .ok (.isub, 1) := zy_b05xa_3.2.2.2.2.2.1
theorem dX7_houseAt_8 : decode cX7_houseAt 8 = .ok (.invokestatic 80, 3) := zy_b05xa_3.2.2.2.2.2.2.1
theorem dX7_houseAt_11 : decode cX7_houseAt 11 = .ok (.ifCond .eq 12, 3) := zy_b05xa_3.2.2.2.2.2.2.2
theorem zy_b05xa_4 : decode cX7_houseAt 14 = .ok (.aload_n 0, 1) ∧ decode cX7_houseAt 15 = .ok (.getfield 11, 3) ∧ decode cX7_houseAt 18 = .ok (.iload_n 1, 1) ∧ decode cX7_houseAt 19 = .ok (.aaload, 1) ∧ decode cX7_houseAt 20 = .ok (.goto 4, 3) ∧ decode cX7_houseAt 23 = .ok (.aconst_null, 1) ∧ decode cX7_houseAt 24 = .ok (.areturn, 1) := by decide +kernel
theorem dX7_houseAt_14 : decode cX7_houseAt 14 = .ok (.aload_n 0, 1) := zy_b05xa_4.1
theorem dX7_houseAt_15 : decode cX7_houseAt 15 = .ok (.getfield 11, 3) := zy_b05xa_4.2.1
theorem dX7_houseAt_18 : decode cX7_houseAt 18 = .ok (.iload_n 1, 1) := zy_b05xa_4.2.2.1
theorem dX7_houseAt_19 : decode cX7_houseAt 19 = .ok (.aaload, 1) := zy_b05xa_4.2.2.2.1
theorem dX7_houseAt_20 : decode cX7_houseAt 20 = .ok (.goto 4, 3) := zy_b05xa_4.2.2.2.2.1
theorem dX7_houseAt_23 : decode cX7_houseAt 23 = .ok (.aconst_null, 1) := zy_b05xa_4.2.2.2.2.2.1
theorem dX7_houseAt_24 : decode cX7_houseAt 24 = .ok (.areturn, 1) := zy_b05xa_4.2.2.2.2.2.2
theorem zy_b05xa_5 : decode cX7_fieldAt 0 = .ok (.iload_n 1, 1) ∧ decode cX7_fieldAt 1 = .ok (.iconst 0, 1) ∧ decode cX7_fieldAt 2 = .ok (.aload_n 0, 1) ∧ decode cX7_fieldAt 3 = .ok (.getfield 77, 3) ∧ decode cX7_fieldAt 6 = .ok (.iconst 1, 1) ∧ decode cX7_fieldAt 7 = .ok (.isub, 1) ∧ decode cX7_fieldAt 8 = .ok (.invokestatic 80, 3) ∧ decode cX7_fieldAt 11 = .ok (.ifCond .eq 12, 3) := by decide +kernel
theorem dX7_fieldAt_0 : decode cX7_fieldAt 0 = .ok (.iload_n 1, 1) := zy_b05xa_5.1
theorem dX7_fieldAt_1 : decode cX7_fieldAt 1 = .ok (.iconst 0, 1) := zy_b05xa_5.2.1
theorem dX7_fieldAt_2 : decode cX7_fieldAt 2 = .ok (.aload_n 0, 1) := zy_b05xa_5.2.2.1
theorem dX7_fieldAt_3 : decode cX7_fieldAt 3 = .ok (.getfield 77, 3) := zy_b05xa_5.2.2.2.1
theorem dX7_fieldAt_6 : decode cX7_fieldAt 6 = .ok (.iconst 1, 1) := zy_b05xa_5.2.2.2.2.1
theorem dX7_fieldAt_7 : decode cX7_fieldAt 7 = .ok (.isub, 1) := zy_b05xa_5.2.2.2.2.2.1
theorem dX7_fieldAt_8 : decode cX7_fieldAt 8 = .ok (.invokestatic 80, 3) := zy_b05xa_5.2.2.2.2.2.2.1
theorem dX7_fieldAt_11 : decode cX7_fieldAt 11 = .ok (.ifCond .eq 12, 3) := zy_b05xa_5.2.2.2.2.2.2.2
theorem zy_b05xa_6 : decode cX7_fieldAt 14 = .ok (.aload_n 0, 1) ∧ decode cX7_fieldAt 15 = .ok (.getfield 18, 3) ∧ decode cX7_fieldAt 18 = .ok (.iload_n 1, 1) ∧ decode cX7_fieldAt 19 = .ok (.aaload, 1) ∧ decode cX7_fieldAt 20 = .ok (.goto 4, 3) ∧ decode cX7_fieldAt 23 = .ok (.aconst_null, 1) ∧ decode cX7_fieldAt 24 = .ok (.areturn, 1) := by decide +kernel
theorem dX7_fieldAt_14 : decode cX7_fieldAt 14 = .ok (.aload_n 0, 1) := zy_b05xa_6.1
theorem dX7_fieldAt_15 : decode cX7_fieldAt 15 = .ok (.getfield 18, 3) := zy_b05xa_6.2.1
theorem dX7_fieldAt_18 : decode cX7_fieldAt 18 = .ok (.iload_n 1, 1) := zy_b05xa_6.2.2.1
theorem dX7_fieldAt_19 : decode cX7_fieldAt 19 = .ok (.aaload, 1) := zy_b05xa_6.2.2.2.1
theorem dX7_fieldAt_20 : decode cX7_fieldAt 20 = .ok (.goto 4, 3) := zy_b05xa_6.2.2.2.2.1
theorem dX7_fieldAt_23 : decode cX7_fieldAt 23 = .ok (.aconst_null, 1) := zy_b05xa_6.2.2.2.2.2.1
theorem dX7_fieldAt_24 : decode cX7_fieldAt 24 = .ok (.areturn, 1) := zy_b05xa_6.2.2.2.2.2.2
theorem zy_b05xa_7 : decode cX7_house 0 = .ok (.iload_n 1, 1) ∧ decode cX7_house 1 = .ok (.iconst 1, 1) ∧ decode cX7_house 2 = .ok (.if_icmp .lt 18, 3) ∧ decode cX7_house 5 = .ok (.iload_n 1, 1) ∧ decode cX7_house 6 = .ok (.bipush 9, 2) ∧ decode cX7_house 8 = .ok (.if_icmp .gt 12, 3) ∧ decode cX7_house 11 = .ok (.aload_n 0, 1) ∧ decode cX7_house 12 = .ok (.getfield 62, 3) := by decide +kernel
theorem dX7_house_0 : decode cX7_house 0 = .ok (.iload_n 1, 1) := zy_b05xa_7.1
theorem dX7_house_1 : decode cX7_house 1 = .ok (.iconst 1, 1) := zy_b05xa_7.2.1
theorem dX7_house_2 : decode cX7_house 2 = .ok (.if_icmp .lt 18, 3) := zy_b05xa_7.2.2.1
theorem dX7_house_5 : decode cX7_house 5 = .ok (.iload_n 1, 1) := zy_b05xa_7.2.2.2.1
theorem dX7_house_6 : decode cX7_house 6 = .ok (.bipush 9, 2) := zy_b05xa_7.2.2.2.2.1
theorem dX7_house_8 : decode cX7_house 8 = .ok (.if_icmp .gt 12, 3) := zy_b05xa_7.2.2.2.2.2.1
theorem dX7_house_11 : decode cX7_house 11 = .ok (.aload_n 0, 1) := zy_b05xa_7.2.2.2.2.2.2.1
theorem dX7_house_12 : decode cX7_house 12 = .ok (.getfield 62, 3) := zy_b05xa_7.2.2.2.2.2.2.2
theorem zy_b05xa_8 : decode cX7_house 15 = .ok (.bipush 8, 2) ∧ decode cX7_house 17 = .ok (.if_icmp .lt 5, 3) ∧ decode cX7_house 20 = .ok (.iconst (-1), 1) ∧ decode cX7_house 21 = .ok (.ireturn, 1) ∧ decode cX7_house 22 = .ok (.aload_n 0, 1) ∧ decode cX7_house 23 = .ok (.getfield 11, 3) ∧ decode cX7_house 26 = .ok (.aload_n 0, 1) ∧ decode cX7_house 27 = .ok (.getfield 62, 3) := by decide +kernel
theorem dX7_house_15 : decode cX7_house 15 = .ok (.bipush 8, 2) := zy_b05xa_8.1
theorem dX7_house_17 : decode cX7_house 17 = .ok (.if_icmp .lt 5, 3) := zy_b05xa_8.2.1
theorem dX7_house_20 : decode cX7_house 20 = .ok (.iconst (-1), 1) := zy_b05xa_8.2.2.1
theorem dX7_house_21 : decode cX7_house 21 = .ok (.ireturn, 1) := zy_b05xa_8.2.2.2.1
theorem dX7_house_22 : decode cX7_house 22 = .ok (.aload_n 0, 1) := zy_b05xa_8.2.2.2.2.1
theorem dX7_house_23 : decode cX7_house 23 = .ok (.getfield 11, 3) := zy_b05xa_8.2.2.2.2.2.1
theorem dX7_house_26 : decode cX7_house 26 = .ok (.aload_n 0, 1) := zy_b05xa_8.2.2.2.2.2.2.1
theorem dX7_house_27 : decode cX7_house 27 = .ok (.getfield 62, 3) := zy_b05xa_8.2.2.2.2.2.2.2
theorem zy_b05xa_9 : decode cX7_house 30 = .ok (.aaload, 1) ∧ decode cX7_house 31 = .ok (.astore_n 3, 1) ∧ decode cX7_house 32 = .ok (.aload_n 3, 1) ∧ decode cX7_house 33 = .ok (.iload_n 1, 1) ∧ decode cX7_house 34 = .ok (.putfield 66, 3) ∧ decode cX7_house 37 = .ok (.aload_n 3, 1) ∧ decode cX7_house 38 = .ok (.iload_n 2, 1) ∧ decode cX7_house 39 = .ok (.putfield 69, 3) := by decide +kernel
theorem dX7_house_30 : decode cX7_house 30 = .ok (.aaload, 1) := zy_b05xa_9.1
theorem dX7_house_31 : decode cX7_house 31 = .ok (.astore_n 3, 1) := zy_b05xa_9.2.1
theorem dX7_house_32 : decode cX7_house 32 = .ok (.aload_n 3, 1) := zy_b05xa_9.2.2.1
theorem dX7_house_33 : decode cX7_house 33 = .ok (.iload_n 1, 1) := zy_b05xa_9.2.2.2.1
theorem dX7_house_34 : decode cX7_house 34 = .ok (.putfield 66, 3) := zy_b05xa_9.2.2.2.2.1
theorem dX7_house_37 : decode cX7_house 37 = .ok (.aload_n 3, 1) := zy_b05xa_9.2.2.2.2.2.1
theorem dX7_house_38 : decode cX7_house 38 = .ok (.iload_n 2, 1) := zy_b05xa_9.2.2.2.2.2.2.1
theorem dX7_house_39 : decode cX7_house 39 = .ok (.putfield 69, 3) := zy_b05xa_9.2.2.2.2.2.2.2
theorem zy_b05xa_10 : decode cX7_house 42 = .ok (.aload_n 0, 1) ∧ decode cX7_house 43 = .ok (.dup, 1) ∧ decode cX7_house 44 = .ok (.getfield 62, 3) ∧ decode cX7_house 47 = .ok (.iconst 1, 1) ∧ decode cX7_house 48 = .ok (.iadd, 1) ∧ decode cX7_house 49 = .ok (.putfield 62, 3) ∧ decode cX7_house 52 = .ok (.aload_n 0, 1) ∧ decode cX7_house 53 = .ok (.getfield 62, 3) := by decide +kernel
theorem dX7_house_42 : decode cX7_house 42 = .ok (.aload_n 0, 1) := zy_b05xa_10.1
theorem dX7_house_43 : decode cX7_house 43 = .ok (.dup, 1) := zy_b05xa_10.2.1
theorem dX7_house_44 : decode cX7_house 44 = .ok (.getfield 62, 3) := zy_b05xa_10.2.2.1
theorem dX7_house_47 : decode cX7_house 47 = .ok (.iconst 1, 1) := zy_b05xa_10.2.2.2.1
theorem dX7_house_48 : decode cX7_house 48 = .ok (.iadd, 1) := zy_b05xa_10.2.2.2.2.1
theorem dX7_house_49 : decode cX7_house 49 = .ok (.putfield 62, 3) := zy_b05xa_10.2.2.2.2.2.1
theorem dX7_house_52 : decode cX7_house 52 = .ok (.aload_n 0, 1) := zy_b05xa_10.2.2.2.2.2.2.1
theorem dX7_house_53 : decode cX7_house 53 = .ok (.getfield 62, 3) := zy_b05xa_10.2.2.2.2.2.2.2
theorem zy_b05xa_11 : decode cX7_house 56 = .ok (.iconst 1, 1) ∧ decode cX7_house 57 = .ok (.isub, 1) ∧ decode cX7_house 58 = .ok (.ireturn, 1) := by decide +kernel
theorem dX7_house_56 : decode cX7_house 56 = .ok (.iconst 1, 1) := zy_b05xa_11.1
theorem dX7_house_57 : decode cX7_house 57 = .ok (.isub, 1) := zy_b05xa_11.2.1
theorem dX7_house_58 : decode cX7_house 58 = .ok (.ireturn, 1) := zy_b05xa_11.2.2
theorem zy_b05xa_12 : decode cX7_ill 0 = .ok (.aload_n 0, 1) ∧ decode cX7_ill 1 = .ok (.iload_n 1, 1) ∧ decode cX7_ill 2 = .ok (.invokevirtual 73, 3) ∧ decode cX7_ill 5 = .ok (.astore_n 3, 1) ∧ decode cX7_ill 6 = .ok (.aload_n 3, 1) ∧ decode cX7_ill 7 = .ok (.ifnull 14, 3) ∧ decode cX7_ill 10 = .ok (.iload_n 2, 1) ∧ decode cX7_ill 11 = .ok (.iconst 0, 1) := by decide +kernel
theorem dX7_ill_0 : decode cX7_ill 0 = .ok (.aload_n 0, 1) := zy_b05xa_12.1
theorem dX7_ill_1 : decode cX7_ill 1 = .ok (.iload_n 1, 1) := zy_b05xa_12.2.1
theorem dX7_ill_2 : decode cX7_ill 2 = .ok (.invokevirtual 73, 3) := zy_b05xa_12.2.2.1
theorem dX7_ill_5 : decode cX7_ill 5 = .ok (.astore_n 3, 1) := zy_b05xa_12.2.2.2.1
theorem dX7_ill_6 : decode cX7_ill 6 = .ok (.aload_n 3, 1) := zy_b05xa_12.2.2.2.2.1
theorem dX7_ill_7 : decode cX7_ill 7 = .ok (.ifnull 14, 3) := zy_b05xa_12.2.2.2.2.2.1
theorem dX7_ill_10 : decode cX7_ill 10 = .ok (.iload_n 2, 1) := zy_b05xa_12.2.2.2.2.2.2.1
theorem dX7_ill_11 : decode cX7_ill 11 = .ok (.iconst 0, 1) := zy_b05xa_12.2.2.2.2.2.2.2
theorem zy_b05xa_13 : decode cX7_ill 12 = .ok (.sipush 400, 3) ∧ decode cX7_ill 15 = .ok (.invokestatic 80, 3) ∧ decode cX7_ill 18 = .ok (.ifCond .ne 5, 3) ∧ decode cX7_ill 21 = .ok (.iconst 0, 1) ∧ decode cX7_ill 22 = .ok (.ireturn, 1) ∧ decode cX7_ill 23 = .ok (.aload_n 3, 1) ∧ decode cX7_ill 24 = .ok (.iload_n 2, 1) ∧ decode cX7_ill 25 = .ok (.putfield 119, 3) := by decide +kernel
theorem dX7_ill_12 : decode cX7_ill 12 = .ok (.sipush 400, 3) := zy_b05xa_13.1
theorem dX7_ill_15 : decode cX7_ill 15 = .ok (.invokestatic 80, 3) := zy_b05xa_13.2.1
theorem dX7_ill_18 : decode cX7_ill 18 = .ok (.ifCond .ne 5, 3) := zy_b05xa_13.2.2.1
theorem dX7_ill_21 : decode cX7_ill 21 = .ok (.iconst 0, 1) := zy_b05xa_13.2.2.2.1
theorem dX7_ill_22 : decode cX7_ill 22 = .ok (.ireturn, 1) := zy_b05xa_13.2.2.2.2.1
theorem dX7_ill_23 : decode cX7_ill 23 = .ok (.aload_n 3, 1) := zy_b05xa_13.2.2.2.2.2.1
theorem dX7_ill_24 : decode cX7_ill 24 = .ok (.iload_n 2, 1) := zy_b05xa_13.2.2.2.2.2.2.1
theorem dX7_ill_25 : decode cX7_ill 25 = .ok (.putfield 119, 3) := zy_b05xa_13.2.2.2.2.2.2.2
theorem dX7_ill_28 : decode cX7_ill 28 = .ok (.iconst 1, 1) := by decide +kernel
theorem dX7_ill_29 : decode cX7_ill 29 = .ok (.ireturn, 1) := by decide +kernel
set_option maxHeartbeats 4000000 in
set_option maxRecDepth 100000 in
theorem k_within (l : Launch) (dC : Nat → ClassId) (dI : Nat → Nat → Nat) (p0 : Int32) (p1 : Int32) (p2 : Int32) (sz : Nat) : Met l yX7_within (zz_w yX7_within cX7_within 3 (some .boolean)) ({ frames := 0, cells := 0, slots := 0, locals := 0 }) (va_Pc [.int p0, .int p1, .int p2] (zz_B (dC, dI) sz [] [])) (va_Qi (fun (r : Int32) (_ : Unit) => r = zz_in p0 p1 p2) (fun _ _ => True) (va_A [] sz)) 0 0 (va_A [] sz) := by
  refine Met.ofW (cc := cX7_within) (maxL := 3) (ret := (some .boolean)) (by decide) rfl ?_
  intro p e s m args below meth c s₁ B hml hv
  obtain ⟨rfl, hsz, hP, hK, hD0, hN⟩ := hv
  have hx := B.exec
  have hb := B.bytes
  have hr := B.returns
  have hts := atoms_spec (ws := zz_w yX7_within cX7_within 3 (some .boolean)) B.pre
  have hw : ∀ w ∈ zz_all, w.before _ s = true := fun w h => hts w (List.mem_cons_of_mem _ h)
  have hown : s.vm.findClass RX7 = some m.cls := findClass_of_methodNamed B.named
  have hlocks := B.notSynchronized
  subst hsz
  have hD := hD0
  generalize hAe : va_A [] s.heap.size = A
  have hA : ∀ q : Nat, s.heap.size ≤ q → A q := fun q h => by rw [← hAe]; exact Or.inr h
  have hS : va_S A s.heap s.heap [] := va_S.rf
  have hP : va_P (dC, dI) vwCl [] s.heap := hP
  have hl := lv_entry ([.int p0, .int p1, .int p2]) (n := 3) (Nat.le_of_ble_eq_true rfl)
  rw [lg_entry_eq]
  generalize (lg_sl ([.int p0, .int p1, .int p2]) ++ List.replicate (3 - (lg_sl ([.int p0, .int p1, .int p2])).length) Slot.unset).toArray = ls at hl ⊢
  have hl : lv_has ls 3 [(0, .int p0), (1, .int p1), (2, .int p2)] := hl
  refine lv_iload_n hx hb dX7_within_0 rfl (lv_at hl 0 rfl) ?_
  refine lv_iload_n hx hb dX7_within_1 rfl (lv_at hl 1 rfl) ?_
  refine lv_icmp_lt (tgt := 14) hx hb dX7_within_2 (by decide) (fun c_1 => ?_) (fun c_1 => ?_)
  · have zc_1 := c_1
    rw [Int32.lt_iff_toInt_lt] at zc_1
    refine lv_iconst (v := 0) hx hb dX7_within_14 (by decide) ?_
    exact W.zret (v := 0) hx hb hr (rfl) (fun t ht hW => ⟨⟨0, (), rfl, (by skip; first | exact (zz_in1 (Int32.le_iff_toInt_le.mpr (by omega)) (Int32.le_iff_toInt_le.mpr (by omega))).symm | exact (zz_inN (by rw [Int32.le_iff_toInt_le, Int32.le_iff_toInt_le]; omega)).symm), trivial⟩, hS.F ht⟩) hS.2.2 dX7_within_15
  · have zc_1 := c_1
    rw [Int32.lt_iff_toInt_lt] at zc_1
    refine lv_iload_n hx hb dX7_within_5 rfl (lv_at hl 0 rfl) ?_
    refine lv_iload_n hx hb dX7_within_6 rfl (lv_at hl 2 rfl) ?_
    refine lv_icmp_gt (tgt := 14) hx hb dX7_within_7 (by decide) (fun c_2 => ?_) (fun c_2 => ?_)
    · have zc_2 := c_2
      rw [Int32.lt_iff_toInt_lt] at zc_2
      refine lv_iconst (v := 0) hx hb dX7_within_14 (by decide) ?_
      exact W.zret (v := 0) hx hb hr (rfl) (fun t ht hW => ⟨⟨0, (), rfl, (by skip; first | exact (zz_in1 (Int32.le_iff_toInt_le.mpr (by omega)) (Int32.le_iff_toInt_le.mpr (by omega))).symm | exact (zz_inN (by rw [Int32.le_iff_toInt_le, Int32.le_iff_toInt_le]; omega)).symm), trivial⟩, hS.F ht⟩) hS.2.2 dX7_within_15
    · have zc_2 := c_2
      rw [Int32.lt_iff_toInt_lt] at zc_2
      refine lv_iconst (v := 1) hx hb dX7_within_10 (by decide) ?_
      refine lv_goto (tgt := 15) hx hb dX7_within_11 (by decide) ?_
      exact W.zret (v := 1) hx hb hr (rfl) (fun t ht hW => ⟨⟨1, (), rfl, (by skip; first | exact (zz_in1 (Int32.le_iff_toInt_le.mpr (by omega)) (Int32.le_iff_toInt_le.mpr (by omega))).symm | exact (zz_inN (by rw [Int32.le_iff_toInt_le, Int32.le_iff_toInt_le]; omega)).symm), trivial⟩, hS.F ht⟩) hS.2.2 dX7_within_15
set_option maxHeartbeats 4000000 in
set_option maxRecDepth 100000 in
theorem k_in (l : Launch) (dC : Nat → ClassId) (dI : Nat → Nat → Nat) (p0 : Int32) (p1 : Int32) (p2 : Int32) (sz : Nat) : Met l yX8_in (zz_w yX8_in cX8_in 6 (some .boolean)) ({ frames := 0, cells := 0, slots := 0, locals := 0 }) (va_Pc [.long (Int32.toInt64 p0), .long (Int32.toInt64 p1), .long (Int32.toInt64 p2)] (zz_B (dC, dI) sz [] [])) (va_Qi (fun (r : Int32) (_ : Unit) => r = zz_in p0 p1 p2) (fun _ _ => True) (va_A [] sz)) 0 0 (va_A [] sz) := by
  refine Met.ofW (cc := cX8_in) (maxL := 6) (ret := (some .boolean)) (by decide) rfl ?_
  intro p e s m args below meth c s₁ B hml hv
  obtain ⟨rfl, hsz, hP, hK, hD0, hN⟩ := hv
  have hx := B.exec
  have hb := B.bytes
  have hr := B.returns
  have hts := atoms_spec (ws := zz_w yX8_in cX8_in 6 (some .boolean)) B.pre
  have hw : ∀ w ∈ zz_all, w.before _ s = true := fun w h => hts w (List.mem_cons_of_mem _ h)
  have hown : s.vm.findClass RX8 = some m.cls := findClass_of_methodNamed B.named
  have hlocks := B.notSynchronized
  subst hsz
  have hD := hD0
  generalize hAe : va_A [] s.heap.size = A
  have hA : ∀ q : Nat, s.heap.size ≤ q → A q := fun q h => by rw [← hAe]; exact Or.inr h
  have hS : va_S A s.heap s.heap [] := va_S.rf
  have hP : va_P (dC, dI) vwCl [] s.heap := hP
  have hl := lv_entry ([.long (Int32.toInt64 p0), .long (Int32.toInt64 p1), .long (Int32.toInt64 p2)]) (n := 6) (Nat.le_of_ble_eq_true rfl)
  rw [lg_entry_eq]
  generalize (lg_sl ([.long (Int32.toInt64 p0), .long (Int32.toInt64 p1), .long (Int32.toInt64 p2)]) ++ List.replicate (6 - (lg_sl ([.long (Int32.toInt64 p0), .long (Int32.toInt64 p1), .long (Int32.toInt64 p2)])).length) Slot.unset).toArray = ls at hl ⊢
  have hl : lv_has ls 6 [(0, .long (Int32.toInt64 p0)), (2, .long (Int32.toInt64 p1)), (4, .long (Int32.toInt64 p2))] := hl
  refine lv_lload_n hx hb dX8_in_0 rfl (lv_at hl 0 rfl) ?_
  refine lv_lload_n hx hb dX8_in_1 rfl (lv_at hl 1 rfl) ?_
  refine W.lcmp hx hb dX8_in_2 ?_
  refine lv_if_lt (tgt := 17) hx hb dX8_in_3 (by decide) (fun c_1 => ?_) (fun c_1 => ?_)
  · have zc_1 := c_1
    rw [zz_cmp_neg, Int32.le_iff_toInt_le] at zc_1
    refine lv_iconst (v := 0) hx hb dX8_in_17 (by decide) ?_
    exact W.zret (v := 0) hx hb hr (rfl) (fun t ht hW => ⟨⟨0, (), rfl, (by skip; first | exact (zz_in1 (Int32.le_iff_toInt_le.mpr (by omega)) (Int32.le_iff_toInt_le.mpr (by omega))).symm | exact (zz_inN (by rw [Int32.le_iff_toInt_le, Int32.le_iff_toInt_le]; omega)).symm), trivial⟩, hS.F ht⟩) hS.2.2 dX8_in_18
  · have zc_1 := c_1
    rw [zz_cmp_neg, Int32.le_iff_toInt_le] at zc_1
    refine lv_lload_n hx hb dX8_in_6 rfl (lv_at hl 0 rfl) ?_
    refine lv_lload hx hb dX8_in_7 (lv_at hl 2 rfl) ?_
    refine W.lcmp hx hb dX8_in_9 ?_
    refine lv_if_gt (tgt := 17) hx hb dX8_in_10 (by decide) (fun c_2 => ?_) (fun c_2 => ?_)
    · have zc_2 := c_2
      rw [zz_cmp_pos, Int32.le_iff_toInt_le] at zc_2
      refine lv_iconst (v := 0) hx hb dX8_in_17 (by decide) ?_
      exact W.zret (v := 0) hx hb hr (rfl) (fun t ht hW => ⟨⟨0, (), rfl, (by skip; first | exact (zz_in1 (Int32.le_iff_toInt_le.mpr (by omega)) (Int32.le_iff_toInt_le.mpr (by omega))).symm | exact (zz_inN (by rw [Int32.le_iff_toInt_le, Int32.le_iff_toInt_le]; omega)).symm), trivial⟩, hS.F ht⟩) hS.2.2 dX8_in_18
    · have zc_2 := c_2
      rw [zz_cmp_pos, Int32.le_iff_toInt_le] at zc_2
      refine lv_iconst (v := 1) hx hb dX8_in_13 (by decide) ?_
      refine lv_goto (tgt := 18) hx hb dX8_in_14 (by decide) ?_
      exact W.zret (v := 1) hx hb hr (rfl) (fun t ht hW => ⟨⟨1, (), rfl, (by skip; first | exact (zz_in1 (Int32.le_iff_toInt_le.mpr (by omega)) (Int32.le_iff_toInt_le.mpr (by omega))).symm | exact (zz_inN (by rw [Int32.le_iff_toInt_le, Int32.le_iff_toInt_le]; omega)).symm), trivial⟩, hS.F ht⟩) hS.2.2 dX8_in_18
theorem zz_lt {x : Int32} {c k : Nat} (h : 0 ≤ x.toInt ∧ x.toInt < (c : Int)) (hc : c ≤ k) (_ : k < 2147483648) : x.toNatClampNeg < k := by
  have := zz_clN h.1
  omega
set_option maxHeartbeats 4000000 in
set_option maxRecDepth 100000 in
theorem k_houseAt (l : Launch) (dC : Nat → ClassId) (dI : Nat → Nat → Nat) (a : Nat → Nat) (nh : Nat) (nf : Nat) (clk : Int32) (hi : Int32) (cH : ClassId) (fH : Nat → Option Nat) (p0 : Int32) (sz : Nat) (hc8 : nh ≤ 8) (hf12 : nf ≤ 12) (hfH : ∀ k, k < 8 → fH k = some (a (2 + k))) : Met l yX7_houseAt (zz_w yX7_houseAt cX7_houseAt 2 (some (.object "HandsReturned$House"))) ({ frames := 1, cells := 0, slots := 0, locals := 22 }) (va_Pc [.ref (a 0), .int p0] (zz_B (dC, dI) sz [(a 0, .inr (7, [.ref (a 1), .ref (a 10), .ref (a 23), .ref (a 24), .ref (a 26), .ref (a 29), .ref (a 34), .ref (a 43), .int (nI nh), .int (nI nf), .int clk, .int hi])), (a 1, .inl (cH, 8, .inr (.inr (.inr (.inr fH)))))] [(cH, .object RX4)])) (va_Qq (fun (r : Option Nat) (_ : Unit) => (r = none ∧ ¬ (0 ≤ p0.toInt ∧ p0.toInt < (nh : Int))) ∨ (r = some (a (2 + Int32.toNatClampNeg p0)) ∧ (0 ≤ p0.toInt ∧ p0.toInt < (nh : Int)))) (fun _ _ => True) (va_A [] sz)) 0 0 (va_A [] sz) := by
  refine Met.ofW (cc := cX7_houseAt) (maxL := 2) (ret := (some (.object "HandsReturned$House"))) (by decide) rfl ?_
  intro p e s m args below meth c s₁ B hml hv
  obtain ⟨rfl, hsz, hP, hK, hD0, hN⟩ := hv
  have hx := B.exec
  have hb := B.bytes
  have hr := B.returns
  have hts := atoms_spec (ws := zz_w yX7_houseAt cX7_houseAt 2 (some (.object "HandsReturned$House"))) B.pre
  have hw : ∀ w ∈ zz_all, w.before _ s = true := fun w h => hts w (List.mem_cons_of_mem _ h)
  have hown : s.vm.findClass RX7 = some m.cls := findClass_of_methodNamed B.named
  have hlocks := B.notSynchronized
  subst hsz
  have hD := hD0
  generalize hAe : va_A [] s.heap.size = A
  have hA : ∀ q : Nat, s.heap.size ≤ q → A q := fun q h => by rw [← hAe]; exact Or.inr h
  have hS : va_S A s.heap s.heap [] := va_S.rf
  have hP : va_P (dC, dI) vwCl [(a 0, .inr (7, [.ref (a 1), .ref (a 10), .ref (a 23), .ref (a 24), .ref (a 26), .ref (a 29), .ref (a 34), .ref (a 43), .int (nI nh), .int (nI nf), .int clk, .int hi])), (a 1, .inl (cH, 8, .inr (.inr (.inr (.inr fH)))))] s.heap := hP
  have hl := lv_entry ([.ref (a 0), .int p0]) (n := 2) (Nat.le_of_ble_eq_true rfl)
  rw [lg_entry_eq]
  generalize (lg_sl ([.ref (a 0), .int p0]) ++ List.replicate (2 - (lg_sl ([.ref (a 0), .int p0])).length) Slot.unset).toArray = ls at hl ⊢
  have hl : lv_has ls 2 [(0, .ref (a 0)), (1, .int p0)] := hl
  refine lv_iload_n hx hb dX7_houseAt_0 rfl (lv_at hl 1 rfl) ?_
  refine lv_iconst (v := 0) hx hb dX7_houseAt_1 (by decide) ?_
  refine lv_aload_n hx hb dX7_houseAt_2 rfl (lv_at hl 0 rfl) ?_
  refine va_get (D := (dC, dI)) (ci := 7) (v := .int (nI nh)) (C := RX7) (T := TX7) (N := 12) hx hb hw zz_inX7 hown hK hP 0 rfl rfl 8 (by decide) (hw _ tw_0) (fun _ h9 => h9) rfl dX7_houseAt_3 ?_
  refine lv_iconst (v := 1) hx hb dX7_houseAt_6 (by decide) ?_
  refine lv_isub hx hb dX7_houseAt_7 ?_
  obtain ⟨hPc, hDc⟩ := zz_sub2 (ws' := []) hP hD [] (by decide) rfl
  have hKc := hK.sub (tys' := []) [] rfl
  have hFc := zz_free0 hS hA
  refine va_calli (va_runS (As := [.int p0, .int 0, .int ((nI nh) - 1)]) (rest := []) ⟨hx, hb, hml, hown, hw⟩ (k_within l dC dI p0 0 ((nI nh) - 1) s.heap.size) ⟨callB_of 3 hw (zz_good tw_1) rfl rfl rfl (hw _ tw_2) (hw _ tw_3) (by decide +kernel) ⟨Nat.le_of_ble_eq_true rfl, Nat.le_of_ble_eq_true rfl⟩, (hw _ tw_4)⟩ ⟨zz_blind, zz_pre hPc hKc hDc hN⟩ rfl rfl hl.1 rfl (lv_room (Nat.le_of_ble_eq_true rfl)) dX7_houseAt_8 ⟨Nat.le_of_ble_eq_true rfl, Nat.le_of_ble_eq_true rfl⟩) hS (fun q _ h => hFc q h) hFc (fun r_1 u_1 t H1 locs ht hvm e_1 hB hz1 hk1 hS => ?_)
  try dsimp only at e_1
  have hP := zz_keep hP hk1
  clear hk1 hB ht hvm
  generalize H1 = H at hP hS ⊢
  refine lv_if_eq (tgt := 23) hx hb dX7_houseAt_11 (by decide) (fun c_2 => ?_) (fun c_2 => ?_)
  · have zc_2 := c_2
    rw [e_1, zz_in0, Int32.le_iff_toInt_le, Int32.le_iff_toInt_le] at zc_2
    try rw [show (0 : Int32).toInt = 0 from by decide] at zc_2
    try rw [zz_pred (c := nh) (by omega)] at zc_2
    refine lv_null hx hb dX7_houseAt_23 ?_
    exact W.aret (v := .null) hx hb hr (Or.inl ⟨_, rfl⟩) (Or.inl rfl) (fun t ht hW => ⟨⟨none, (), rfl, (Or.inl ⟨rfl, by omega⟩), trivial⟩, hS.F ht⟩) hS.2.2 dX7_houseAt_24
  · have zc_2 := c_2
    rw [e_1, zz_in0, Int32.le_iff_toInt_le, Int32.le_iff_toInt_le] at zc_2
    try rw [show (0 : Int32).toInt = 0 from by decide] at zc_2
    try rw [zz_pred (c := nh) (by omega)] at zc_2
    refine lv_aload_n hx hb dX7_houseAt_14 rfl (lv_at hl 0 rfl) ?_
    refine va_get (D := (dC, dI)) (ci := 7) (v := .ref (a 1)) (C := RX7) (T := TX7) (N := 12) hx hb hw zz_inX7 hown hK hP 0 rfl rfl 0 (by decide) (hw _ tw_5) (fun _ h9 => h9) rfl dX7_houseAt_15 ?_
    refine lv_iload_n hx hb dX7_houseAt_18 rfl (lv_at hl 1 rfl) ?_
    refine va_aldq hx hb hK hP 1 0 rfl rfl (vp_in_iff.mpr (by constructor <;> omega)) dX7_houseAt_19 ?_
    refine zz_setv (.ref (a (2 + Int32.toNatClampNeg p0))) (congrArg va_rf (hfH _ (zz_clamp (vp_in_iff.mpr (by constructor <;> omega))))) ?_
    refine lv_goto (tgt := 24) hx hb dX7_houseAt_20 (by decide) ?_
    exact W.aret (v := .ref (a (2 + Int32.toNatClampNeg p0))) hx hb hr (Or.inl ⟨_, rfl⟩) (Or.inr ⟨_, rfl⟩) (fun t ht hW => ⟨⟨(some (a (2 + Int32.toNatClampNeg p0))), (), rfl, (Or.inr ⟨rfl, by omega⟩), trivial⟩, hS.F ht⟩) hS.2.2 dX7_houseAt_24
set_option maxHeartbeats 4000000 in
set_option maxRecDepth 100000 in
theorem k_fieldAt (l : Launch) (dC : Nat → ClassId) (dI : Nat → Nat → Nat) (a : Nat → Nat) (nh : Nat) (nf : Nat) (clk : Int32) (hi : Int32) (cF : ClassId) (fF : Nat → Option Nat) (p0 : Int32) (sz : Nat) (hc8 : nh ≤ 8) (hf12 : nf ≤ 12) (hfF : ∀ k, k < 12 → fF k = some (a (11 + k))) : Met l yX7_fieldAt (zz_w yX7_fieldAt cX7_fieldAt 2 (some (.object "HandsReturned$Field"))) ({ frames := 1, cells := 0, slots := 0, locals := 22 }) (va_Pc [.ref (a 0), .int p0] (zz_B (dC, dI) sz [(a 0, .inr (7, [.ref (a 1), .ref (a 10), .ref (a 23), .ref (a 24), .ref (a 26), .ref (a 29), .ref (a 34), .ref (a 43), .int (nI nh), .int (nI nf), .int clk, .int hi])), (a 10, .inl (cF, 12, .inr (.inr (.inr (.inr fF)))))] [(cF, .object RX3)])) (va_Qq (fun (r : Option Nat) (_ : Unit) => (r = none ∧ ¬ (0 ≤ p0.toInt ∧ p0.toInt < (nf : Int))) ∨ (r = some (a (11 + Int32.toNatClampNeg p0)) ∧ (0 ≤ p0.toInt ∧ p0.toInt < (nf : Int)))) (fun _ _ => True) (va_A [] sz)) 0 0 (va_A [] sz) := by
  refine Met.ofW (cc := cX7_fieldAt) (maxL := 2) (ret := (some (.object "HandsReturned$Field"))) (by decide) rfl ?_
  intro p e s m args below meth c s₁ B hml hv
  obtain ⟨rfl, hsz, hP, hK, hD0, hN⟩ := hv
  have hx := B.exec
  have hb := B.bytes
  have hr := B.returns
  have hts := atoms_spec (ws := zz_w yX7_fieldAt cX7_fieldAt 2 (some (.object "HandsReturned$Field"))) B.pre
  have hw : ∀ w ∈ zz_all, w.before _ s = true := fun w h => hts w (List.mem_cons_of_mem _ h)
  have hown : s.vm.findClass RX7 = some m.cls := findClass_of_methodNamed B.named
  have hlocks := B.notSynchronized
  subst hsz
  have hD := hD0
  generalize hAe : va_A [] s.heap.size = A
  have hA : ∀ q : Nat, s.heap.size ≤ q → A q := fun q h => by rw [← hAe]; exact Or.inr h
  have hS : va_S A s.heap s.heap [] := va_S.rf
  have hP : va_P (dC, dI) vwCl [(a 0, .inr (7, [.ref (a 1), .ref (a 10), .ref (a 23), .ref (a 24), .ref (a 26), .ref (a 29), .ref (a 34), .ref (a 43), .int (nI nh), .int (nI nf), .int clk, .int hi])), (a 10, .inl (cF, 12, .inr (.inr (.inr (.inr fF)))))] s.heap := hP
  have hl := lv_entry ([.ref (a 0), .int p0]) (n := 2) (Nat.le_of_ble_eq_true rfl)
  rw [lg_entry_eq]
  generalize (lg_sl ([.ref (a 0), .int p0]) ++ List.replicate (2 - (lg_sl ([.ref (a 0), .int p0])).length) Slot.unset).toArray = ls at hl ⊢
  have hl : lv_has ls 2 [(0, .ref (a 0)), (1, .int p0)] := hl
  refine lv_iload_n hx hb dX7_fieldAt_0 rfl (lv_at hl 1 rfl) ?_
  refine lv_iconst (v := 0) hx hb dX7_fieldAt_1 (by decide) ?_
  refine lv_aload_n hx hb dX7_fieldAt_2 rfl (lv_at hl 0 rfl) ?_
  refine va_get (D := (dC, dI)) (ci := 7) (v := .int (nI nf)) (C := RX7) (T := TX7) (N := 12) hx hb hw zz_inX7 hown hK hP 0 rfl rfl 9 (by decide) (hw _ tw_6) (fun _ h9 => h9) rfl dX7_fieldAt_3 ?_
  refine lv_iconst (v := 1) hx hb dX7_fieldAt_6 (by decide) ?_
  refine lv_isub hx hb dX7_fieldAt_7 ?_
  obtain ⟨hPc, hDc⟩ := zz_sub2 (ws' := []) hP hD [] (by decide) rfl
  have hKc := hK.sub (tys' := []) [] rfl
  have hFc := zz_free0 hS hA
  refine va_calli (va_runS (As := [.int p0, .int 0, .int ((nI nf) - 1)]) (rest := []) ⟨hx, hb, hml, hown, hw⟩ (k_within l dC dI p0 0 ((nI nf) - 1) s.heap.size) ⟨callB_of 3 hw (zz_good tw_1) rfl rfl rfl (hw _ tw_2) (hw _ tw_3) (by decide +kernel) ⟨Nat.le_of_ble_eq_true rfl, Nat.le_of_ble_eq_true rfl⟩, (hw _ tw_4)⟩ ⟨zz_blind, zz_pre hPc hKc hDc hN⟩ rfl rfl hl.1 rfl (lv_room (Nat.le_of_ble_eq_true rfl)) dX7_fieldAt_8 ⟨Nat.le_of_ble_eq_true rfl, Nat.le_of_ble_eq_true rfl⟩) hS (fun q _ h => hFc q h) hFc (fun r_1 u_1 t H1 locs ht hvm e_1 hB hz1 hk1 hS => ?_)
  try dsimp only at e_1
  have hP := zz_keep hP hk1
  clear hk1 hB ht hvm
  generalize H1 = H at hP hS ⊢
  refine lv_if_eq (tgt := 23) hx hb dX7_fieldAt_11 (by decide) (fun c_2 => ?_) (fun c_2 => ?_)
  · have zc_2 := c_2
    rw [e_1, zz_in0, Int32.le_iff_toInt_le, Int32.le_iff_toInt_le] at zc_2
    try rw [show (0 : Int32).toInt = 0 from by decide] at zc_2
    try rw [zz_pred (c := nf) (by omega)] at zc_2
    refine lv_null hx hb dX7_fieldAt_23 ?_
    exact W.aret (v := .null) hx hb hr (Or.inl ⟨_, rfl⟩) (Or.inl rfl) (fun t ht hW => ⟨⟨none, (), rfl, (Or.inl ⟨rfl, by omega⟩), trivial⟩, hS.F ht⟩) hS.2.2 dX7_fieldAt_24
  · have zc_2 := c_2
    rw [e_1, zz_in0, Int32.le_iff_toInt_le, Int32.le_iff_toInt_le] at zc_2
    try rw [show (0 : Int32).toInt = 0 from by decide] at zc_2
    try rw [zz_pred (c := nf) (by omega)] at zc_2
    refine lv_aload_n hx hb dX7_fieldAt_14 rfl (lv_at hl 0 rfl) ?_
    refine va_get (D := (dC, dI)) (ci := 7) (v := .ref (a 10)) (C := RX7) (T := TX7) (N := 12) hx hb hw zz_inX7 hown hK hP 0 rfl rfl 1 (by decide) (hw _ tw_7) (fun _ h9 => h9) rfl dX7_fieldAt_15 ?_
    refine lv_iload_n hx hb dX7_fieldAt_18 rfl (lv_at hl 1 rfl) ?_
    refine va_aldq hx hb hK hP 1 0 rfl rfl (vp_in_iff.mpr (by constructor <;> omega)) dX7_fieldAt_19 ?_
    refine zz_setv (.ref (a (11 + Int32.toNatClampNeg p0))) (congrArg va_rf (hfF _ (zz_clamp (vp_in_iff.mpr (by constructor <;> omega))))) ?_
    refine lv_goto (tgt := 24) hx hb dX7_fieldAt_20 (by decide) ?_
    exact W.aret (v := .ref (a (11 + Int32.toNatClampNeg p0))) hx hb hr (Or.inl ⟨_, rfl⟩) (Or.inr ⟨_, rfl⟩) (fun t ht hW => ⟨⟨(some (a (11 + Int32.toNatClampNeg p0))), (), rfl, (Or.inr ⟨rfl, by omega⟩), trivial⟩, hS.F ht⟩) hS.2.2 dX7_fieldAt_24
