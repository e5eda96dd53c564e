theorem tw_0 : Cond.fieldLink RX7 62 "HandsReturned" "houseCount" "I" ∈ zz_all := zz_m2 34 rfl rfl
theorem tw_1 : Cond.code yX7_within cX7_within 3 (some .boolean) ∈ zz_all := zz_m2 77 rfl rfl
theorem tw_2 : Cond.initialized RX7 ∈ zz_all := zz_m1 1 rfl rfl
theorem tw_3 : Cond.methodLink RX7 80 yX7_within ∈ zz_all := zz_m2 75 rfl rfl
theorem tw_4 : Cond.static yX7_within ∈ zz_all := zz_m2 76 rfl rfl
theorem tw_5 : Cond.fieldLink RX7 77 "HandsReturned" "fieldCount" "I" ∈ zz_all := zz_m2 35 rfl rfl
theorem tw_6 : Cond.fieldLink RX7 11 "HandsReturned" "houses" "[LHandsReturned$House;" ∈ zz_all := zz_m2 26 rfl rfl
theorem tw_7 : Cond.code yX7_houseAt cX7_houseAt 2 (some (.object "HandsReturned$House")) ∈ zz_all := zz_m2 74 rfl rfl
theorem tw_8 : Cond.methodLink RX7 73 yX7_houseAt ∈ zz_all := zz_m2 71 rfl rfl
theorem tw_9 : Cond.instanceMethod yX7_houseAt ∈ zz_all := zz_m2 73 rfl rfl
theorem tw_10 : Cond.selects RX7 yX7_houseAt yX7_houseAt ∈ zz_all := zz_ms 0 rfl rfl
theorem tw_11 : Cond.fieldLink RX7 23 "HandsReturned" "losses" "[I" ∈ zz_all := zz_m2 28 rfl rfl
theorem tw_12 : Cond.fieldLink RX6 15 "HandsReturned$Tape" "length" "I" ∈ zz_all := zz_m1 105 rfl rfl
theorem tw_13 : Cond.fieldLink RX6 9 "HandsReturned$Tape" "bytes" "[I" ∈ zz_all := zz_m1 104 rfl rfl
theorem tw_14 : Cond.fieldLink RX7 30 "HandsReturned" "tape" "LHandsReturned$Tape;" ∈ zz_all := zz_m2 29 rfl rfl
theorem tw_15 : Cond.code yX6_append cX6_append 3 none ∈ zz_all := zz_m2 89 rfl rfl
theorem tw_16 : Cond.initialized RX6 ∈ zz_all := zz_m1 4 rfl rfl
theorem tw_17 : Cond.instanceMethod yX6_append ∈ zz_all := zz_m2 88 rfl rfl
theorem tw_18 : Cond.selects RX6 yX6_append yX6_append ∈ zz_all := zz_ms 1 rfl rfl
theorem tw_19 : Cond.fieldLink RX0 15 "HandsReturned$Custom" "draft" "[I" ∈ zz_all := zz_m1 127 rfl rfl
theorem tw_20 : Cond.methodLink RX0 28 arraycopyName ∈ zz_all := zz_m1 122 rfl rfl
theorem tw_21 : Cond.native arraycopyName ∈ zz_all := zz_m1 124 rfl rfl
theorem tw_22 : Cond.static arraycopyName ∈ zz_all := zz_m1 123 rfl rfl
theorem tw_23 : Cond.initialized "java/lang/System" ∈ zz_all := zz_m1 6 rfl rfl
theorem tw_24 : Cond.fieldLink RX0 18 "HandsReturned$Custom" "flaw" "I" ∈ zz_all := zz_m1 128 rfl rfl
theorem tw_25 : Cond.fieldLink RX0 22 "HandsReturned$Custom" "place" "I" ∈ zz_all := zz_m1 130 rfl rfl
theorem tw_26 : Cond.fieldLink RX0 34 "HandsReturned$Custom" "wanted" "I" ∈ zz_all := zz_m1 132 rfl rfl
theorem tw_27 : Cond.fieldLink RX0 37 "HandsReturned$Custom" "word" "I" ∈ zz_all := zz_m1 133 rfl rfl
theorem tw_28 : Cond.fieldLink RX0 40 "HandsReturned$Custom" "seen" "I" ∈ zz_all := zz_m1 134 rfl rfl
theorem tw_29 : Cond.fieldLink RX0 43 "HandsReturned$Custom" "clauses" "I" ∈ zz_all := zz_m1 135 rfl rfl
theorem tw_30 : Cond.fieldLink RX0 9 "HandsReturned$Custom" "told" "[I" ∈ zz_all := zz_m1 125 rfl rfl
theorem tw_31 : Cond.fieldLink RX7 37 "HandsReturned" "customs" "LHandsReturned$Custom;" ∈ zz_all := zz_m2 30 rfl rfl
theorem tw_32 : Cond.code yX0_read cX0_read 3 (some .int) ∈ zz_all := zz_m2 101 rfl rfl
theorem tw_33 : Cond.initialized RX0 ∈ zz_all := zz_m1 5 rfl rfl
theorem tw_34 : Cond.instanceMethod yX0_read ∈ zz_all := zz_m2 100 rfl rfl
theorem tw_35 : Cond.selects RX0 yX0_read yX0_read ∈ zz_all := zz_ms 2 rfl rfl
theorem tw_36 : Cond.code yX7_fieldAt cX7_fieldAt 2 (some (.object "HandsReturned$Field")) ∈ zz_all := zz_m2 223 rfl rfl
theorem tw_37 : Cond.methodLink RX7 122 yX7_fieldAt ∈ zz_all := zz_m2 220 rfl rfl
theorem tw_38 : Cond.instanceMethod yX7_fieldAt ∈ zz_all := zz_m2 222 rfl rfl
theorem tw_39 : Cond.selects RX7 yX7_fieldAt yX7_fieldAt ∈ zz_all := zz_ms 8 rfl rfl
theorem tw_40 : Cond.constant RX7 160 (-1000000) ∈ zz_all := zz_m3 45 rfl rfl
theorem tw_41 : Cond.code yX7_areTwoHouses cX7_areTwoHouses 3 (some .boolean) ∈ zz_all := zz_m3 61 rfl rfl
theorem tw_42 : Cond.methodLink RX7 181 yX7_areTwoHouses ∈ zz_all := zz_m3 58 rfl rfl
theorem tw_43 : Cond.instanceMethod yX7_areTwoHouses ∈ zz_all := zz_m3 60 rfl rfl
theorem tw_44 : Cond.selects RX7 yX7_areTwoHouses yX7_areTwoHouses ∈ zz_all := zz_ms 20 rfl rfl
theorem tw_45 : Cond.fieldLink RX2 15 "HandsReturned$Evening" "freshNets" "[I" ∈ zz_all := zz_m1 190 rfl rfl
theorem tw_46 : Cond.fieldLink RX2 9 "HandsReturned$Evening" "nets" "[I" ∈ zz_all := zz_m1 189 rfl rfl
theorem tw_47 : Cond.code yX2_takeNets cX2_takeNets 4 (some .boolean) ∈ zz_all := zz_m3 85 rfl rfl
theorem tw_48 : Cond.initialized RX2 ∈ zz_all := zz_m1 8 rfl rfl
theorem tw_49 : Cond.methodLink RX2 36 yX2_takeNets ∈ zz_all := zz_m3 82 rfl rfl
theorem tw_50 : Cond.instanceMethod yX2_takeNets ∈ zz_all := zz_m3 84 rfl rfl
theorem tw_51 : Cond.selects RX2 yX2_takeNets yX2_takeNets ∈ zz_all := zz_ms 24 rfl rfl
theorem tw_52 : Cond.fieldLink RX7 51 "HandsReturned" "evening" "LHandsReturned$Evening;" ∈ zz_all := zz_m2 32 rfl rfl
theorem tw_53 : Cond.fieldLink RX7 44 "HandsReturned" "debts" "LHandsReturned$Debts;" ∈ zz_all := zz_m2 31 rfl rfl
theorem tw_54 : Cond.code yX2_tellFor cX2_tellFor 2 none ∈ zz_all := zz_m3 81 rfl rfl
theorem tw_55 : Cond.instanceMethod yX2_tellFor ∈ zz_all := zz_m3 80 rfl rfl
theorem tw_56 : Cond.selects RX2 yX2_tellFor yX2_tellFor ∈ zz_all := zz_ms 23 rfl rfl
theorem tw_57 : Cond.fieldLink RX5 36 "HandsReturned$Plan" "count" "I" ∈ zz_all := zz_m1 238 rfl rfl
theorem tw_58 : Cond.fieldLink RX5 40 "HandsReturned$Plan" "today" "I" ∈ zz_all := zz_m1 239 rfl rfl
theorem tw_59 : Cond.methodLink RX5 43 Lib.Math.max.name ∈ zz_all := zz_m3 129 rfl rfl
theorem tw_60 : Cond.static Lib.Math.max.name ∈ zz_all := zz_m3 22 rfl rfl
theorem tw_61 : Cond.initialized "java/lang/Math" ∈ zz_all := zz_m1 15 rfl rfl
theorem tw_62 : Cond.code Lib.Math.max.name Lib.Math.max.code 2 (some .int) ∈ zz_all := zz_m3 23 rfl rfl
theorem tw_63 : Cond.fieldLink RX5 49 "HandsReturned$Plan" "hands" "I" ∈ zz_all := zz_m2 0 rfl rfl
theorem tw_64 : Cond.fieldLink RX5 27 "HandsReturned$Plan" "leastLost" "[I" ∈ zz_all := zz_m1 232 rfl rfl
theorem tw_65 : Cond.fieldLink RX5 70 "HandsReturned$Plan" "chosenCount" "I" ∈ zz_all := zz_m1 236 rfl rfl
theorem tw_66 : Cond.code yX7_waitingFields cX7_waitingFields 3 (some .int) ∈ zz_all := zz_m3 124 rfl rfl
theorem tw_67 : Cond.methodLink RX7 205 yX7_waitingFields ∈ zz_all := zz_m3 121 rfl rfl
theorem tw_68 : Cond.instanceMethod yX7_waitingFields ∈ zz_all := zz_m3 123 rfl rfl
theorem tw_69 : Cond.selects RX7 yX7_waitingFields yX7_waitingFields ∈ zz_all := zz_ms 30 rfl rfl
theorem tw_70 : Cond.fieldLink RX7 58 "HandsReturned" "order" "LHandsReturned$Plan;" ∈ zz_all := zz_m2 33 rfl rfl
theorem tw_71 : Cond.fieldLink RX7 129 "HandsReturned" "clock" "I" ∈ zz_all := zz_m2 36 rfl rfl
theorem tw_72 : Cond.code yX5_begin cX5_begin 3 none ∈ zz_all := zz_m3 128 rfl rfl
theorem tw_73 : Cond.initialized RX5 ∈ zz_all := zz_m1 9 rfl rfl
theorem tw_74 : Cond.instanceMethod yX5_begin ∈ zz_all := zz_m3 127 rfl rfl
theorem tw_75 : Cond.selects RX5 yX5_begin yX5_begin ∈ zz_all := zz_ms 31 rfl rfl
theorem tw_76 : Cond.code yX5_choose cX5_choose 6 (some .int) ∈ zz_all := zz_m3 141 rfl rfl
theorem tw_77 : Cond.instanceMethod yX5_choose ∈ zz_all := zz_m3 140 rfl rfl
theorem tw_78 : Cond.selects RX5 yX5_choose yX5_choose ∈ zz_all := zz_ms 34 rfl rfl
theorem tw_79 : Cond.fieldLink RX7 151 "HandsReturned" "hired" "I" ∈ zz_all := zz_m2 37 rfl rfl
theorem dX7_within_0 : decode cX7_within 0 = .ok (.iload_n 0, 1) := by decide +kernel
theorem dX7_within_1 : decode cX7_within 1 = .ok (.iload_n 1, 1) := by decide +kernel
theorem dX7_within_2 : decode cX7_within 2 = .ok (.if_icmp .lt 12, 3) := by decide +kernel
theorem dX7_within_5 : decode cX7_within 5 = .ok (.iload_n 0, 1) := by decide +kernel
theorem dX7_within_6 : decode cX7_within 6 = .ok (.iload_n 2, 1) := by decide +kernel
theorem dX7_within_7 : decode cX7_within 7 = .ok (.if_icmp .gt 7, 3) := by decide +kernel
theorem dX7_within_10 : decode cX7_within 10 = .ok (.iconst 1, 1) := by decide +kernel
theorem dX7_within_11 : decode cX7_within 11 = .ok (.goto 4, 3) := by decide +kernel
theorem dX7_within_14 : decode cX7_within 14 = .ok (.iconst 0, 1) := by decide +kernel
theorem dX7_within_15 : decode cX7_within 15 = .ok (.ireturn, 1) := by decide +kernel
theorem dX8_in_0 : decode cX8_in 0 = .ok (.lload_n 0, 1) := by decide +kernel
theorem dX8_in_1 : decode cX8_in 1 = .ok (.lload_n 2, 1) := by decide +kernel
theorem dX8_in_2 : decode cX8_in 2 = .ok (.lcmp, 1) := by decide +kernel
theorem dX8_in_3 : decode cX8_in 3 = .ok (.ifCond .lt 14, 3) := by decide +kernel
theorem dX8_in_6 : decode cX8_in 6 = .ok (.lload_n 0, 1) := by decide +kernel
theorem dX8_in_7 : decode cX8_in 7 = .ok (.lload 4, 2) := by decide +kernel
theorem dX8_in_9 : decode cX8_in 9 = .ok (.lcmp, 1) := by decide +kernel
theorem dX8_in_10 : decode cX8_in 10 = .ok (.ifCond .gt 7, 3) := by decide +kernel
theorem dX8_in_13 : decode cX8_in 13 = .ok (.iconst 1, 1) := by decide +kernel
theorem dX8_in_14 : decode cX8_in 14 = .ok (.goto 4, 3) := by decide +kernel
theorem dX8_in_17 : decode cX8_in 17 = .ok (.iconst 0, 1) := by decide +kernel
theorem dX8_in_18 : decode cX8_in 18 = .ok (.ireturn, 1) := by decide +kernel
theorem dX7_houseAt_0 : decode cX7_houseAt 0 = .ok (.iload_n 1, 1) := by decide +kernel
theorem dX7_houseAt_1 : decode cX7_houseAt 1 = .ok (.iconst 0, 1) := by decide +kernel
theorem dX7_houseAt_2 : decode cX7_houseAt 2 = .ok (.aload_n 0, 1) := by decide +kernel
theorem dX7_houseAt_3 : decode cX7_houseAt 3 = .ok (.getfield 62, 3) := by decide +kernel
theorem dX7_houseAt_6 : decode cX7_houseAt 6 = .ok (.iconst 1, 1) := by decide +kernel
theorem dX7_houseAt_7 : decode cX7_houseAt 7 = .ok (.isub, 1) := by decide +kernel
theorem dX7_houseAt_8 : decode cX7_houseAt 8 = .ok (.invokestatic 80, 3) := by decide +kernel
theorem dX7_houseAt_11 : decode cX7_houseAt 11 = .ok (.ifCond .eq 12, 3) := by decide +kernel
theorem dX7_houseAt_23 : decode cX7_houseAt 23 = .ok (.aconst_null, 1) := by decide +kernel
theorem dX7_houseAt_24 : decode cX7_houseAt 24 = .ok (.areturn, 1) := by decide +kernel
theorem dX7_fieldAt_0 : decode cX7_fieldAt 0 = .ok (.iload_n 1, 1) := by decide +kernel
theorem dX7_fieldAt_1 : decode cX7_fieldAt 1 = .ok (.iconst 0, 1) := by decide +kernel
theorem dX7_fieldAt_2 : decode cX7_fieldAt 2 = .ok (.aload_n 0, 1) := by decide +kernel
theorem dX7_fieldAt_3 : decode cX7_fieldAt 3 = .ok (.getfield 77, 3) := by decide +kernel
theorem dX7_fieldAt_6 : decode cX7_fieldAt 6 = .ok (.iconst 1, 1) := by decide +kernel
theorem dX7_fieldAt_7 : decode cX7_fieldAt 7 = .ok (.isub, 1) := by decide +kernel
theorem dX7_fieldAt_8 : decode cX7_fieldAt 8 = .ok (.invokestatic 80, 3) := by decide +kernel
theorem dX7_fieldAt_11 : decode cX7_fieldAt 11 = .ok (.ifCond .eq 12, 3) := by decide +kernel
theorem dX7_fieldAt_23 : decode cX7_fieldAt 23 = .ok (.aconst_null, 1) := by decide +kernel
theorem dX7_fieldAt_24 : decode cX7_fieldAt 24 = .ok (.areturn, 1) := by decide +kernel
theorem dX7_house_0 : decode cX7_house 0 = .ok (.iload_n 1, 1) := by decide +kernel
theorem dX7_house_1 : decode cX7_house 1 = .ok (.iconst 1, 1) := by decide +kernel
theorem dX7_house_2 : decode cX7_house 2 = .ok (.if_icmp .lt 18, 3) := by decide +kernel
theorem dX7_house_5 : decode cX7_house 5 = .ok (.iload_n 1, 1) := by decide +kernel
theorem dX7_house_6 : decode cX7_house 6 = .ok (.bipush 9, 2) := by decide +kernel
theorem dX7_house_8 : decode cX7_house 8 = .ok (.if_icmp .gt 12, 3) := by decide +kernel
theorem dX7_house_11 : decode cX7_house 11 = .ok (.aload_n 0, 1) := by decide +kernel
theorem dX7_house_12 : decode cX7_house 12 = .ok (.getfield 62, 3) := by decide +kernel
theorem dX7_house_15 : decode cX7_house 15 = .ok (.bipush 8, 2) := by decide +kernel
theorem dX7_house_17 : decode cX7_house 17 = .ok (.if_icmp .lt 5, 3) := by decide +kernel
theorem dX7_house_20 : decode cX7_house 20 = .ok (.iconst (-1), 1) := by decide +kernel
theorem dX7_house_21 : decode cX7_house 21 = .ok (.ireturn, 1) := by decide +kernel
theorem dX7_house_22 : decode cX7_house 22 = .ok (.aload_n 0, 1) := by decide +kernel
theorem dX7_house_23 : decode cX7_house 23 = .ok (.getfield 11, 3) := by decide +kernel
theorem dX7_house_26 : decode cX7_house 26 = .ok (.aload_n 0, 1) := by decide +kernel
theorem dX7_house_27 : decode cX7_house 27 = .ok (.getfield 62, 3) := by decide +kernel
theorem dX7_house_30 : decode cX7_house 30 = .ok (.aaload, 1) := by decide +kernel
theorem dX7_house_31 : decode cX7_house 31 = .ok (.astore_n 3, 1) := by decide +kernel
theorem dX7_house_32 : decode cX7_house 32 = .ok (.aload_n 3, 1) := by decide +kernel
theorem dX7_house_33 : decode cX7_house 33 = .ok (.iload_n 1, 1) := by decide +kernel
theorem dX7_house_34 : decode cX7_house 34 = .ok (.putfield 66, 3) := by decide +kernel
theorem dX7_house_37 : decode cX7_house 37 = .ok (.aload_n 3, 1) := by decide +kernel
theorem dX7_house_38 : decode cX7_house 38 = .ok (.iload_n 2, 1) := by decide +kernel
theorem dX7_house_39 : decode cX7_house 39 = .ok (.putfield 69, 3) := by decide +kernel
theorem dX7_house_42 : decode cX7_house 42 = .ok (.aload_n 0, 1) := by decide +kernel
theorem dX7_house_43 : decode cX7_house 43 = .ok (.dup, 1) := by decide +kernel
theorem dX7_house_44 : decode cX7_house 44 = .ok (.getfield 62, 3) := by decide +kernel
theorem dX7_house_47 : decode cX7_house 47 = .ok (.iconst 1, 1) := by decide +kernel
theorem dX7_house_48 : decode cX7_house 48 = .ok (.iadd, 1) := by decide +kernel
theorem dX7_house_49 : decode cX7_house 49 = .ok (.putfield 62, 3) := by decide +kernel
theorem dX7_house_52 : decode cX7_house 52 = .ok (.aload_n 0, 1) := by decide +kernel
theorem dX7_house_53 : decode cX7_house 53 = .ok (.getfield 62, 3) := by decide +kernel
theorem dX7_house_56 : decode cX7_house 56 = .ok (.iconst 1, 1) := by decide +kernel
theorem dX7_house_57 : decode cX7_house 57 = .ok (.isub, 1) := by decide +kernel
theorem dX7_house_58 : decode cX7_house 58 = .ok (.ireturn, 1) := by decide +kernel
theorem dX7_field_0 : decode cX7_field 0 = .ok (.aload_n 0, 1) := by decide +kernel
theorem dX7_field_1 : decode cX7_field 1 = .ok (.iload_n 1, 1) := by decide +kernel
theorem dX7_field_2 : decode cX7_field 2 = .ok (.invokevirtual 73, 3) := by decide +kernel
theorem dX7_field_5 : decode cX7_field 5 = .ok (.ifnull 12, 3) := by decide +kernel
theorem dX7_field_17 : decode cX7_field 17 = .ok (.iconst (-1), 1) := by decide +kernel
theorem dX7_field_18 : decode cX7_field 18 = .ok (.ireturn, 1) := by decide +kernel
theorem dX7_loss_0 : decode cX7_loss 0 = .ok (.iload_n 1, 1) := by decide +kernel
theorem dX7_loss_1 : decode cX7_loss 1 = .ok (.iconst 0, 1) := by decide +kernel
theorem dX7_loss_2 : decode cX7_loss 2 = .ok (.bipush 9, 2) := by decide +kernel
theorem dX7_loss_4 : decode cX7_loss 4 = .ok (.invokestatic 80, 3) := by decide +kernel
theorem dX7_loss_7 : decode cX7_loss 7 = .ok (.ifCond .eq 13, 3) := by decide +kernel
theorem dX7_loss_10 : decode cX7_loss 10 = .ok (.iload_n 2, 1) := by decide +kernel
theorem dX7_loss_11 : decode cX7_loss 11 = .ok (.iconst 0, 1) := by decide +kernel
theorem dX7_loss_12 : decode cX7_loss 12 = .ok (.bipush 100, 2) := by decide +kernel
theorem dX7_loss_14 : decode cX7_loss 14 = .ok (.invokestatic 80, 3) := by decide +kernel
theorem dX7_loss_17 : decode cX7_loss 17 = .ok (.ifCond .ne 5, 3) := by decide +kernel
theorem dX7_loss_20 : decode cX7_loss 20 = .ok (.iconst 0, 1) := by decide +kernel
theorem dX7_loss_21 : decode cX7_loss 21 = .ok (.ireturn, 1) := by decide +kernel
theorem dX7_loss_22 : decode cX7_loss 22 = .ok (.aload_n 0, 1) := by decide +kernel
theorem dX7_loss_23 : decode cX7_loss 23 = .ok (.getfield 23, 3) := by decide +kernel
theorem dX7_loss_26 : decode cX7_loss 26 = .ok (.iload_n 1, 1) := by decide +kernel
theorem dX7_loss_27 : decode cX7_loss 27 = .ok (.iload_n 2, 1) := by decide +kernel
theorem dX7_loss_28 : decode cX7_loss 28 = .ok (.iastore, 1) := by decide +kernel
theorem dX7_loss_29 : decode cX7_loss 29 = .ok (.iconst 1, 1) := by decide +kernel
theorem dX7_loss_30 : decode cX7_loss 30 = .ok (.ireturn, 1) := by decide +kernel
theorem dX6_append_0 : decode cX6_append 0 = .ok (.bipush 24, 2) := by decide +kernel
theorem dX6_append_2 : decode cX6_append 2 = .ok (.istore_n 2, 1) := by decide +kernel
theorem dX6_append_3 : decode cX6_append 3 = .ok (.iload_n 2, 1) := by decide +kernel
theorem dX6_append_4 : decode cX6_append 4 = .ok (.ifCond .lt 45, 3) := by decide +kernel
theorem dX6_append_7 : decode cX6_append 7 = .ok (.aload_n 0, 1) := by decide +kernel
theorem dX6_append_8 : decode cX6_append 8 = .ok (.getfield 15, 3) := by decide +kernel
theorem dX6_append_11 : decode cX6_append 11 = .ok (.sipush 200, 3) := by decide +kernel
theorem dX6_append_14 : decode cX6_append 14 = .ok (.if_icmp .ge 35, 3) := by decide +kernel
theorem dX6_append_17 : decode cX6_append 17 = .ok (.aload_n 0, 1) := by decide +kernel
theorem dX6_append_18 : decode cX6_append 18 = .ok (.getfield 9, 3) := by decide +kernel
theorem dX6_append_21 : decode cX6_append 21 = .ok (.aload_n 0, 1) := by decide +kernel
theorem dX6_append_22 : decode cX6_append 22 = .ok (.getfield 15, 3) := by decide +kernel
theorem dX6_append_25 : decode cX6_append 25 = .ok (.iload_n 1, 1) := by decide +kernel
theorem dX6_append_26 : decode cX6_append 26 = .ok (.iload_n 2, 1) := by decide +kernel
theorem dX6_append_27 : decode cX6_append 27 = .ok (.iushr, 1) := by decide +kernel
theorem dX6_append_28 : decode cX6_append 28 = .ok (.sipush 255, 3) := by decide +kernel
theorem dX6_append_31 : decode cX6_append 31 = .ok (.iand, 1) := by decide +kernel
theorem dX6_append_32 : decode cX6_append 32 = .ok (.iastore, 1) := by decide +kernel
theorem dX6_append_33 : decode cX6_append 33 = .ok (.aload_n 0, 1) := by decide +kernel
theorem dX6_append_34 : decode cX6_append 34 = .ok (.dup, 1) := by decide +kernel
theorem dX6_append_35 : decode cX6_append 35 = .ok (.getfield 15, 3) := by decide +kernel
theorem dX6_append_38 : decode cX6_append 38 = .ok (.iconst 1, 1) := by decide +kernel
theorem dX6_append_39 : decode cX6_append 39 = .ok (.iadd, 1) := by decide +kernel
theorem dX6_append_40 : decode cX6_append 40 = .ok (.putfield 15, 3) := by decide +kernel
theorem dX6_append_43 : decode cX6_append 43 = .ok (.iinc 2 (-8), 3) := by decide +kernel
theorem dX6_append_46 : decode cX6_append 46 = .ok (.goto (-43), 3) := by decide +kernel
theorem dX6_append_49 : decode cX6_append 49 = .ok (.return_, 1) := by decide +kernel
theorem dX7_feed_0 : decode cX7_feed 0 = .ok (.aload_n 0, 1) := by decide +kernel
theorem dX7_feed_1 : decode cX7_feed 1 = .ok (.getfield 30, 3) := by decide +kernel
theorem dX7_feed_4 : decode cX7_feed 4 = .ok (.getfield 99, 3) := by decide +kernel
theorem dX7_feed_7 : decode cX7_feed 7 = .ok (.sipush 180, 3) := by decide +kernel
theorem dX7_feed_10 : decode cX7_feed 10 = .ok (.if_icmp .le 5, 3) := by decide +kernel
theorem dX7_feed_15 : decode cX7_feed 15 = .ok (.aload_n 0, 1) := by decide +kernel
theorem dX7_feed_16 : decode cX7_feed 16 = .ok (.getfield 30, 3) := by decide +kernel
theorem dX7_feed_19 : decode cX7_feed 19 = .ok (.iload_n 1, 1) := by decide +kernel
theorem dX7_feed_20 : decode cX7_feed 20 = .ok (.invokevirtual 102, 3) := by decide +kernel
theorem dX7_feed_23 : decode cX7_feed 23 = .ok (.aload_n 0, 1) := by decide +kernel
theorem dX7_feed_24 : decode cX7_feed 24 = .ok (.getfield 30, 3) := by decide +kernel
theorem dX7_feed_27 : decode cX7_feed 27 = .ok (.iload_n 2, 1) := by decide +kernel
theorem dX7_feed_28 : decode cX7_feed 28 = .ok (.invokevirtual 102, 3) := by decide +kernel
theorem dX7_feed_31 : decode cX7_feed 31 = .ok (.aload_n 0, 1) := by decide +kernel
theorem dX7_feed_32 : decode cX7_feed 32 = .ok (.getfield 30, 3) := by decide +kernel
theorem dX7_feed_35 : decode cX7_feed 35 = .ok (.iload_n 3, 1) := by decide +kernel
theorem dX7_feed_36 : decode cX7_feed 36 = .ok (.invokevirtual 102, 3) := by decide +kernel
theorem dX7_feed_39 : decode cX7_feed 39 = .ok (.aload_n 0, 1) := by decide +kernel
theorem dX7_feed_40 : decode cX7_feed 40 = .ok (.getfield 30, 3) := by decide +kernel
theorem dX7_feed_43 : decode cX7_feed 43 = .ok (.iload 4, 2) := by decide +kernel
theorem dX7_feed_45 : decode cX7_feed 45 = .ok (.invokevirtual 102, 3) := by decide +kernel
theorem dX7_feed_48 : decode cX7_feed 48 = .ok (.aload_n 0, 1) := by decide +kernel
theorem dX7_feed_49 : decode cX7_feed 49 = .ok (.getfield 30, 3) := by decide +kernel
theorem dX7_feed_52 : decode cX7_feed 52 = .ok (.iload 5, 2) := by decide +kernel
theorem dX7_feed_54 : decode cX7_feed 54 = .ok (.invokevirtual 102, 3) := by decide +kernel
theorem dX7_feed_57 : decode cX7_feed 57 = .ok (.aload_n 0, 1) := by decide +kernel
theorem dX7_feed_58 : decode cX7_feed 58 = .ok (.getfield 30, 3) := by decide +kernel
theorem dX7_feed_61 : decode cX7_feed 61 = .ok (.getfield 99, 3) := by decide +kernel
theorem dX7_feed_64 : decode cX7_feed 64 = .ok (.ireturn, 1) := by decide +kernel
theorem dX7_end_0 : decode cX7_end 0 = .ok (.iload_n 1, 1) := by decide +kernel
theorem dX7_end_1 : decode cX7_end 1 = .ok (.iconst 0, 1) := by decide +kernel
theorem dX7_end_2 : decode cX7_end 2 = .ok (.aload_n 0, 1) := by decide +kernel
theorem dX7_end_3 : decode cX7_end 3 = .ok (.getfield 30, 3) := by decide +kernel
theorem dX7_end_6 : decode cX7_end 6 = .ok (.getfield 99, 3) := by decide +kernel
theorem dX7_end_9 : decode cX7_end 9 = .ok (.invokestatic 80, 3) := by decide +kernel
theorem dX7_end_12 : decode cX7_end 12 = .ok (.ifCond .ne 5, 3) := by decide +kernel
theorem dX7_end_15 : decode cX7_end 15 = .ok (.iconst (-1), 1) := by decide +kernel
theorem dX7_end_16 : decode cX7_end 16 = .ok (.ireturn, 1) := by decide +kernel
theorem dX7_end_17 : decode cX7_end 17 = .ok (.aload_n 0, 1) := by decide +kernel
theorem dX7_end_18 : decode cX7_end 18 = .ok (.getfield 30, 3) := by decide +kernel
theorem dX7_end_21 : decode cX7_end 21 = .ok (.iload_n 1, 1) := by decide +kernel
theorem dX7_end_22 : decode cX7_end 22 = .ok (.putfield 99, 3) := by decide +kernel
theorem dX7_end_25 : decode cX7_end 25 = .ok (.iload_n 1, 1) := by decide +kernel
theorem dX7_end_26 : decode cX7_end 26 = .ok (.ireturn, 1) := by decide +kernel
theorem dX0_read_0 : decode cX0_read 0 = .ok (.getstatic 25, 3) := by decide +kernel
theorem dX0_read_3 : decode cX0_read 3 = .ok (.iconst 0, 1) := by decide +kernel
theorem dX0_read_4 : decode cX0_read 4 = .ok (.aload_n 0, 1) := by decide +kernel
theorem dX0_read_5 : decode cX0_read 5 = .ok (.getfield 15, 3) := by decide +kernel
theorem dX0_read_8 : decode cX0_read 8 = .ok (.iconst 0, 1) := by decide +kernel
theorem dX0_read_9 : decode cX0_read 9 = .ok (.bipush 7, 2) := by decide +kernel
theorem dX0_read_11 : decode cX0_read 11 = .ok (.invokestatic 28, 3) := by decide +kernel
theorem dX0_read_14 : decode cX0_read 14 = .ok (.aload_n 0, 1) := by decide +kernel
theorem dX0_read_15 : decode cX0_read 15 = .ok (.iconst 0, 1) := by decide +kernel
theorem dX0_read_16 : decode cX0_read 16 = .ok (.putfield 18, 3) := by decide +kernel
theorem dX0_read_19 : decode cX0_read 19 = .ok (.aload_n 0, 1) := by decide +kernel
theorem dX0_read_20 : decode cX0_read 20 = .ok (.iconst (-1), 1) := by decide +kernel
theorem dX0_read_21 : decode cX0_read 21 = .ok (.putfield 22, 3) := by decide +kernel
theorem dX0_read_24 : decode cX0_read 24 = .ok (.aload_n 0, 1) := by decide +kernel
theorem dX0_read_25 : decode cX0_read 25 = .ok (.iconst 1, 1) := by decide +kernel
theorem dX0_read_26 : decode cX0_read 26 = .ok (.putfield 34, 3) := by decide +kernel
theorem dX0_read_29 : decode cX0_read 29 = .ok (.aload_n 0, 1) := by decide +kernel
theorem dX0_read_30 : decode cX0_read 30 = .ok (.iconst (-1), 1) := by decide +kernel
theorem dX0_read_31 : decode cX0_read 31 = .ok (.putfield 37, 3) := by decide +kernel
theorem dX0_read_34 : decode cX0_read 34 = .ok (.aload_n 0, 1) := by decide +kernel
theorem dX0_read_35 : decode cX0_read 35 = .ok (.iconst 0, 1) := by decide +kernel
theorem dX0_read_36 : decode cX0_read 36 = .ok (.putfield 40, 3) := by decide +kernel
theorem dX0_read_39 : decode cX0_read 39 = .ok (.aload_n 0, 1) := by decide +kernel
theorem dX0_read_40 : decode cX0_read 40 = .ok (.iconst 0, 1) := by decide +kernel
theorem dX0_read_41 : decode cX0_read 41 = .ok (.putfield 43, 3) := by decide +kernel
theorem dX0_read_44 : decode cX0_read 44 = .ok (.iconst 0, 1) := by decide +kernel
theorem dX0_read_45 : decode cX0_read 45 = .ok (.istore_n 2, 1) := by decide +kernel
theorem dX0_read_46 : decode cX0_read 46 = .ok (.iload_n 2, 1) := by decide +kernel
theorem dX0_read_47 : decode cX0_read 47 = .ok (.aload_n 1, 1) := by decide +kernel
theorem dX0_read_48 : decode cX0_read 48 = .ok (.getfield 46, 3) := by decide +kernel
theorem dX0_read_51 : decode cX0_read 51 = .ok (.if_icmp .ge 35, 3) := by decide +kernel
theorem dX0_read_86 : decode cX0_read 86 = .ok (.aload_n 0, 1) := by decide +kernel
theorem dX0_read_87 : decode cX0_read 87 = .ok (.getfield 18, 3) := by decide +kernel
theorem dX0_read_90 : decode cX0_read 90 = .ok (.ifCond .ne 20, 3) := by decide +kernel
theorem dX0_read_93 : decode cX0_read 93 = .ok (.aload_n 0, 1) := by decide +kernel
theorem dX0_read_94 : decode cX0_read 94 = .ok (.getfield 34, 3) := by decide +kernel
theorem dX0_read_97 : decode cX0_read 97 = .ok (.iconst 1, 1) := by decide +kernel
theorem dX0_read_98 : decode cX0_read 98 = .ok (.if_icmp .eq 12, 3) := by decide +kernel
theorem dX0_read_110 : decode cX0_read 110 = .ok (.aload_n 0, 1) := by decide +kernel
theorem dX0_read_111 : decode cX0_read 111 = .ok (.getfield 18, 3) := by decide +kernel
theorem dX0_read_114 : decode cX0_read 114 = .ok (.ifCond .eq 5, 3) := by decide +kernel
theorem dX0_read_119 : decode cX0_read 119 = .ok (.aload_n 0, 1) := by decide +kernel
theorem dX0_read_120 : decode cX0_read 120 = .ok (.getfield 15, 3) := by decide +kernel
theorem dX0_read_123 : decode cX0_read 123 = .ok (.iconst 0, 1) := by decide +kernel
theorem dX0_read_124 : decode cX0_read 124 = .ok (.aload_n 0, 1) := by decide +kernel
theorem dX0_read_125 : decode cX0_read 125 = .ok (.getfield 9, 3) := by decide +kernel
theorem dX0_read_128 : decode cX0_read 128 = .ok (.iconst 0, 1) := by decide +kernel
theorem dX0_read_129 : decode cX0_read 129 = .ok (.bipush 7, 2) := by decide +kernel
theorem dX0_read_131 : decode cX0_read 131 = .ok (.invokestatic 28, 3) := by decide +kernel
theorem dX0_read_134 : decode cX0_read 134 = .ok (.aload_n 0, 1) := by decide +kernel
theorem dX0_read_135 : decode cX0_read 135 = .ok (.getfield 43, 3) := by decide +kernel
theorem dX0_read_138 : decode cX0_read 138 = .ok (.ireturn, 1) := by decide +kernel
theorem dX7_custom_0 : decode cX7_custom 0 = .ok (.aload_n 0, 1) := by decide +kernel
theorem dX7_custom_1 : decode cX7_custom 1 = .ok (.getfield 37, 3) := by decide +kernel
theorem dX7_custom_4 : decode cX7_custom 4 = .ok (.aload_n 0, 1) := by decide +kernel
theorem dX7_custom_5 : decode cX7_custom 5 = .ok (.getfield 30, 3) := by decide +kernel
theorem dX7_custom_8 : decode cX7_custom 8 = .ok (.invokevirtual 106, 3) := by decide +kernel
theorem dX7_custom_11 : decode cX7_custom 11 = .ok (.istore_n 1, 1) := by decide +kernel
theorem dX7_custom_12 : decode cX7_custom 12 = .ok (.aload_n 0, 1) := by decide +kernel
theorem dX7_custom_13 : decode cX7_custom 13 = .ok (.getfield 30, 3) := by decide +kernel
theorem dX7_custom_16 : decode cX7_custom 16 = .ok (.iconst 0, 1) := by decide +kernel
theorem dX7_custom_17 : decode cX7_custom 17 = .ok (.putfield 99, 3) := by decide +kernel
theorem dX7_custom_20 : decode cX7_custom 20 = .ok (.iload_n 1, 1) := by decide +kernel
theorem dX7_custom_21 : decode cX7_custom 21 = .ok (.ireturn, 1) := by decide +kernel
theorem dX7_fault_0 : decode cX7_fault 0 = .ok (.iload_n 1, 1) := by decide +kernel
theorem dX7_fault_1 : decode cX7_fault 1 = .ok (.lookupswitch 43 #[(0, 27), (1, 35)], 27) := by decide +kernel
theorem dX7_fault_28 : decode cX7_fault 28 = .ok (.aload_n 0, 1) := by decide +kernel
theorem dX7_fault_29 : decode cX7_fault 29 = .ok (.getfield 37, 3) := by decide +kernel
theorem dX7_fault_32 : decode cX7_fault 32 = .ok (.getfield 110, 3) := by decide +kernel
theorem dX7_fault_35 : decode cX7_fault 35 = .ok (.ireturn, 1) := by decide +kernel
theorem dX7_fault_36 : decode cX7_fault 36 = .ok (.aload_n 0, 1) := by decide +kernel
theorem dX7_fault_37 : decode cX7_fault 37 = .ok (.getfield 37, 3) := by decide +kernel
theorem dX7_fault_40 : decode cX7_fault 40 = .ok (.getfield 113, 3) := by decide +kernel
theorem dX7_fault_43 : decode cX7_fault 43 = .ok (.ireturn, 1) := by decide +kernel
theorem dX7_fault_44 : decode cX7_fault 44 = .ok (.iconst (-1), 1) := by decide +kernel
theorem dX7_fault_45 : decode cX7_fault 45 = .ok (.ireturn, 1) := by decide +kernel
theorem dX7_says_0 : decode cX7_says 0 = .ok (.iload_n 1, 1) := by decide +kernel
theorem dX7_says_1 : decode cX7_says 1 = .ok (.iconst 0, 1) := by decide +kernel
theorem dX7_says_2 : decode cX7_says 2 = .ok (.bipush 6, 2) := by decide +kernel
theorem dX7_says_4 : decode cX7_says 4 = .ok (.invokestatic 80, 3) := by decide +kernel
theorem dX7_says_7 : decode cX7_says 7 = .ok (.ifCond .eq 15, 3) := by decide +kernel
theorem dX7_says_10 : decode cX7_says 10 = .ok (.aload_n 0, 1) := by decide +kernel
theorem dX7_says_11 : decode cX7_says 11 = .ok (.getfield 37, 3) := by decide +kernel
theorem dX7_says_14 : decode cX7_says 14 = .ok (.getfield 116, 3) := by decide +kernel
theorem dX7_says_17 : decode cX7_says 17 = .ok (.iload_n 1, 1) := by decide +kernel
theorem dX7_says_18 : decode cX7_says 18 = .ok (.iaload, 1) := by decide +kernel
theorem dX7_says_19 : decode cX7_says 19 = .ok (.goto 4, 3) := by decide +kernel
theorem dX7_says_22 : decode cX7_says 22 = .ok (.iconst (-1), 1) := by decide +kernel
theorem dX7_says_23 : decode cX7_says 23 = .ok (.ireturn, 1) := by decide +kernel
theorem dX7_ill_0 : decode cX7_ill 0 = .ok (.aload_n 0, 1) := by decide +kernel
theorem dX7_ill_1 : decode cX7_ill 1 = .ok (.iload_n 1, 1) := by decide +kernel
theorem dX7_ill_2 : decode cX7_ill 2 = .ok (.invokevirtual 73, 3) := by decide +kernel
theorem dX7_ill_5 : decode cX7_ill 5 = .ok (.astore_n 3, 1) := by decide +kernel
theorem dX7_ill_6 : decode cX7_ill 6 = .ok (.aload_n 3, 1) := by decide +kernel
theorem dX7_ill_7 : decode cX7_ill 7 = .ok (.ifnull 14, 3) := by decide +kernel
theorem dX7_ill_21 : decode cX7_ill 21 = .ok (.iconst 0, 1) := by decide +kernel
theorem dX7_ill_22 : decode cX7_ill 22 = .ok (.ireturn, 1) := by decide +kernel
theorem dX7_work_0 : decode cX7_work 0 = .ok (.aload_n 0, 1) := by decide +kernel
theorem dX7_work_1 : decode cX7_work 1 = .ok (.iload_n 1, 1) := by decide +kernel
theorem dX7_work_2 : decode cX7_work 2 = .ok (.invokevirtual 73, 3) := by decide +kernel
theorem dX7_work_5 : decode cX7_work 5 = .ok (.astore 4, 2) := by decide +kernel
theorem dX7_work_7 : decode cX7_work 7 = .ok (.aload_n 0, 1) := by decide +kernel
theorem dX7_work_8 : decode cX7_work 8 = .ok (.iload_n 2, 1) := by decide +kernel
theorem dX7_work_9 : decode cX7_work 9 = .ok (.invokevirtual 122, 3) := by decide +kernel
theorem dX7_work_12 : decode cX7_work 12 = .ok (.astore 5, 2) := by decide +kernel
theorem dX7_work_14 : decode cX7_work 14 = .ok (.aload 4, 2) := by decide +kernel
theorem dX7_work_16 : decode cX7_work 16 = .ok (.ifnull 21, 3) := by decide +kernel
theorem dX7_work_37 : decode cX7_work 37 = .ok (.iconst (-1), 1) := by decide +kernel
theorem dX7_work_38 : decode cX7_work 38 = .ok (.ireturn, 1) := by decide +kernel
theorem dX7_hire_0 : decode cX7_hire 0 = .ok (.aload_n 0, 1) := by decide +kernel
theorem dX7_hire_1 : decode cX7_hire 1 = .ok (.iload_n 1, 1) := by decide +kernel
theorem dX7_hire_2 : decode cX7_hire 2 = .ok (.invokevirtual 122, 3) := by decide +kernel
theorem dX7_hire_5 : decode cX7_hire 5 = .ok (.astore_n 3, 1) := by decide +kernel
theorem dX7_hire_6 : decode cX7_hire 6 = .ok (.aload_n 3, 1) := by decide +kernel
theorem dX7_hire_7 : decode cX7_hire 7 = .ok (.ifnull 26, 3) := by decide +kernel
theorem dX7_hire_33 : decode cX7_hire 33 = .ok (.iconst (-1), 1) := by decide +kernel
theorem dX7_hire_34 : decode cX7_hire 34 = .ok (.ireturn, 1) := by decide +kernel
theorem dX7_houseOf_0 : decode cX7_houseOf 0 = .ok (.aload_n 0, 1) := by decide +kernel
theorem dX7_houseOf_1 : decode cX7_houseOf 1 = .ok (.iload_n 1, 1) := by decide +kernel
theorem dX7_houseOf_2 : decode cX7_houseOf 2 = .ok (.invokevirtual 73, 3) := by decide +kernel
theorem dX7_houseOf_5 : decode cX7_houseOf 5 = .ok (.astore_n 3, 1) := by decide +kernel
theorem dX7_houseOf_6 : decode cX7_houseOf 6 = .ok (.aload_n 3, 1) := by decide +kernel
theorem dX7_houseOf_7 : decode cX7_houseOf 7 = .ok (.ifnonnull 6, 3) := by decide +kernel
theorem dX7_houseOf_10 : decode cX7_houseOf 10 = .ok (.ldc 160, 2) := by decide +kernel
theorem dX7_houseOf_12 : decode cX7_houseOf 12 = .ok (.ireturn, 1) := by decide +kernel
theorem dX7_fieldOf_0 : decode cX7_fieldOf 0 = .ok (.aload_n 0, 1) := by decide +kernel
theorem dX7_fieldOf_1 : decode cX7_fieldOf 1 = .ok (.iload_n 1, 1) := by decide +kernel
theorem dX7_fieldOf_2 : decode cX7_fieldOf 2 = .ok (.invokevirtual 122, 3) := by decide +kernel
theorem dX7_fieldOf_5 : decode cX7_fieldOf 5 = .ok (.astore_n 3, 1) := by decide +kernel
theorem dX7_fieldOf_6 : decode cX7_fieldOf 6 = .ok (.aload_n 3, 1) := by decide +kernel
theorem dX7_fieldOf_7 : decode cX7_fieldOf 7 = .ok (.ifnonnull 5, 3) := by decide +kernel
theorem dX7_fieldOf_10 : decode cX7_fieldOf 10 = .ok (.iconst (-1), 1) := by decide +kernel
theorem dX7_fieldOf_11 : decode cX7_fieldOf 11 = .ok (.ireturn, 1) := by decide +kernel
theorem dX7_areTwoHouses_0 : decode cX7_areTwoHouses 0 = .ok (.iload_n 1, 1) := by decide +kernel
theorem dX7_areTwoHouses_1 : decode cX7_areTwoHouses 1 = .ok (.iload_n 2, 1) := by decide +kernel
theorem dX7_areTwoHouses_2 : decode cX7_areTwoHouses 2 = .ok (.if_icmp .eq 23, 3) := by decide +kernel
theorem dX7_areTwoHouses_5 : decode cX7_areTwoHouses 5 = .ok (.aload_n 0, 1) := by decide +kernel
theorem dX7_areTwoHouses_6 : decode cX7_areTwoHouses 6 = .ok (.iload_n 1, 1) := by decide +kernel
theorem dX7_areTwoHouses_7 : decode cX7_areTwoHouses 7 = .ok (.invokevirtual 73, 3) := by decide +kernel
theorem dX7_areTwoHouses_10 : decode cX7_areTwoHouses 10 = .ok (.ifnull 15, 3) := by decide +kernel
theorem dX7_areTwoHouses_25 : decode cX7_areTwoHouses 25 = .ok (.iconst 0, 1) := by decide +kernel
theorem dX7_areTwoHouses_26 : decode cX7_areTwoHouses 26 = .ok (.ireturn, 1) := by decide +kernel
theorem dX7_owes_0 : decode cX7_owes 0 = .ok (.aload_n 0, 1) := by decide +kernel
theorem dX7_owes_1 : decode cX7_owes 1 = .ok (.iload_n 1, 1) := by decide +kernel
theorem dX7_owes_2 : decode cX7_owes 2 = .ok (.iload_n 2, 1) := by decide +kernel
theorem dX7_owes_3 : decode cX7_owes 3 = .ok (.invokevirtual 181, 3) := by decide +kernel
theorem dX7_owes_6 : decode cX7_owes 6 = .ok (.ifCond .eq 15, 3) := by decide +kernel
theorem dX7_owes_21 : decode cX7_owes 21 = .ok (.iconst (-1), 1) := by decide +kernel
theorem dX7_owes_22 : decode cX7_owes 22 = .ok (.ireturn, 1) := by decide +kernel
theorem dX7_oldest_0 : decode cX7_oldest 0 = .ok (.aload_n 0, 1) := by decide +kernel
theorem dX7_oldest_1 : decode cX7_oldest 1 = .ok (.iload_n 1, 1) := by decide +kernel
theorem dX7_oldest_2 : decode cX7_oldest 2 = .ok (.iload_n 2, 1) := by decide +kernel
theorem dX7_oldest_3 : decode cX7_oldest 3 = .ok (.invokevirtual 181, 3) := by decide +kernel
theorem dX7_oldest_6 : decode cX7_oldest 6 = .ok (.ifCond .eq 15, 3) := by decide +kernel
theorem dX7_oldest_21 : decode cX7_oldest 21 = .ok (.iconst (-1), 1) := by decide +kernel
theorem dX7_oldest_22 : decode cX7_oldest 22 = .ok (.ireturn, 1) := by decide +kernel
theorem dX2_takeNets_0 : decode cX2_takeNets 0 = .ok (.iconst 0, 1) := by decide +kernel
theorem dX2_takeNets_1 : decode cX2_takeNets 1 = .ok (.istore_n 2, 1) := by decide +kernel
theorem dX2_takeNets_2 : decode cX2_takeNets 2 = .ok (.iconst 0, 1) := by decide +kernel
theorem dX2_takeNets_3 : decode cX2_takeNets 3 = .ok (.istore_n 3, 1) := by decide +kernel
theorem dX2_takeNets_4 : decode cX2_takeNets 4 = .ok (.iload_n 3, 1) := by decide +kernel
theorem dX2_takeNets_5 : decode cX2_takeNets 5 = .ok (.bipush 8, 2) := by decide +kernel
theorem dX2_takeNets_7 : decode cX2_takeNets 7 = .ok (.if_icmp .ge 16, 3) := by decide +kernel
theorem dX2_takeNets_10 : decode cX2_takeNets 10 = .ok (.aload_n 0, 1) := by decide +kernel
theorem dX2_takeNets_11 : decode cX2_takeNets 11 = .ok (.getfield 15, 3) := by decide +kernel
theorem dX2_takeNets_14 : decode cX2_takeNets 14 = .ok (.iload_n 3, 1) := by decide +kernel
theorem dX2_takeNets_15 : decode cX2_takeNets 15 = .ok (.iconst 0, 1) := by decide +kernel
theorem dX2_takeNets_16 : decode cX2_takeNets 16 = .ok (.iastore, 1) := by decide +kernel
theorem dX2_takeNets_17 : decode cX2_takeNets 17 = .ok (.iinc 3 1, 3) := by decide +kernel
theorem dX2_takeNets_20 : decode cX2_takeNets 20 = .ok (.goto (-16), 3) := by decide +kernel
theorem dX2_takeNets_23 : decode cX2_takeNets 23 = .ok (.iconst 0, 1) := by decide +kernel
theorem dX2_takeNets_24 : decode cX2_takeNets 24 = .ok (.istore_n 3, 1) := by decide +kernel
theorem dX2_takeNets_25 : decode cX2_takeNets 25 = .ok (.iload_n 3, 1) := by decide +kernel
theorem dX2_takeNets_26 : decode cX2_takeNets 26 = .ok (.aload_n 1, 1) := by decide +kernel
theorem dX2_takeNets_27 : decode cX2_takeNets 27 = .ok (.getfield 43, 3) := by decide +kernel
theorem dX2_takeNets_30 : decode cX2_takeNets 30 = .ok (.if_icmp .ge 79, 3) := by decide +kernel
theorem dX2_takeNets_109 : decode cX2_takeNets 109 = .ok (.iconst 0, 1) := by decide +kernel
theorem dX2_takeNets_110 : decode cX2_takeNets 110 = .ok (.istore_n 3, 1) := by decide +kernel
theorem dX2_takeNets_111 : decode cX2_takeNets 111 = .ok (.iload_n 3, 1) := by decide +kernel
theorem dX2_takeNets_112 : decode cX2_takeNets 112 = .ok (.bipush 8, 2) := by decide +kernel
theorem dX2_takeNets_114 : decode cX2_takeNets 114 = .ok (.if_icmp .ge 38, 3) := by decide +kernel
theorem dX2_takeNets_117 : decode cX2_takeNets 117 = .ok (.aload_n 0, 1) := by decide +kernel
theorem dX2_takeNets_118 : decode cX2_takeNets 118 = .ok (.getfield 9, 3) := by decide +kernel
theorem dX2_takeNets_121 : decode cX2_takeNets 121 = .ok (.iload_n 3, 1) := by decide +kernel
theorem dX2_takeNets_122 : decode cX2_takeNets 122 = .ok (.iaload, 1) := by decide +kernel
theorem dX2_takeNets_123 : decode cX2_takeNets 123 = .ok (.aload_n 0, 1) := by decide +kernel
theorem dX2_takeNets_124 : decode cX2_takeNets 124 = .ok (.getfield 15, 3) := by decide +kernel
theorem dX2_takeNets_127 : decode cX2_takeNets 127 = .ok (.iload_n 3, 1) := by decide +kernel
theorem dX2_takeNets_128 : decode cX2_takeNets 128 = .ok (.iaload, 1) := by decide +kernel
theorem dX2_takeNets_129 : decode cX2_takeNets 129 = .ok (.if_icmp .eq 17, 3) := by decide +kernel
theorem dX2_takeNets_146 : decode cX2_takeNets 146 = .ok (.iinc 3 1, 3) := by decide +kernel
theorem dX2_takeNets_149 : decode cX2_takeNets 149 = .ok (.goto (-38), 3) := by decide +kernel
theorem dX2_takeNets_152 : decode cX2_takeNets 152 = .ok (.iload_n 2, 1) := by decide +kernel
theorem dX2_takeNets_153 : decode cX2_takeNets 153 = .ok (.ireturn, 1) := by decide +kernel
theorem dX2_tellFor_0 : decode cX2_tellFor 0 = .ok (.aload_n 0, 1) := by decide +kernel
theorem dX2_tellFor_1 : decode cX2_tellFor 1 = .ok (.aload_n 1, 1) := by decide +kernel
theorem dX2_tellFor_2 : decode cX2_tellFor 2 = .ok (.invokevirtual 36, 3) := by decide +kernel
theorem dX2_tellFor_5 : decode cX2_tellFor 5 = .ok (.ifCond .eq 7, 3) := by decide +kernel
theorem dX2_tellFor_12 : decode cX2_tellFor 12 = .ok (.return_, 1) := by decide +kernel
theorem dX7_payments_0 : decode cX7_payments 0 = .ok (.aload_n 0, 1) := by decide +kernel
theorem dX7_payments_1 : decode cX7_payments 1 = .ok (.getfield 51, 3) := by decide +kernel
theorem dX7_payments_4 : decode cX7_payments 4 = .ok (.aload_n 0, 1) := by decide +kernel
theorem dX7_payments_5 : decode cX7_payments 5 = .ok (.getfield 44, 3) := by decide +kernel
theorem dX7_payments_8 : decode cX7_payments 8 = .ok (.invokevirtual 191, 3) := by decide +kernel
theorem dX7_payments_11 : decode cX7_payments 11 = .ok (.aload_n 0, 1) := by decide +kernel
theorem dX7_payments_12 : decode cX7_payments 12 = .ok (.getfield 51, 3) := by decide +kernel
theorem dX7_payments_15 : decode cX7_payments 15 = .ok (.getfield 195, 3) := by decide +kernel
theorem dX7_payments_18 : decode cX7_payments 18 = .ok (.ireturn, 1) := by decide +kernel
theorem dX7_payment_0 : decode cX7_payment 0 = .ok (.aload_n 0, 1) := by decide +kernel
theorem dX7_payment_1 : decode cX7_payment 1 = .ok (.getfield 51, 3) := by decide +kernel
theorem dX7_payment_4 : decode cX7_payment 4 = .ok (.aload_n 0, 1) := by decide +kernel
theorem dX7_payment_5 : decode cX7_payment 5 = .ok (.getfield 44, 3) := by decide +kernel
theorem dX7_payment_8 : decode cX7_payment 8 = .ok (.invokevirtual 191, 3) := by decide +kernel
theorem dX7_payment_11 : decode cX7_payment 11 = .ok (.iload_n 1, 1) := by decide +kernel
theorem dX7_payment_12 : decode cX7_payment 12 = .ok (.iconst 0, 1) := by decide +kernel
theorem dX7_payment_13 : decode cX7_payment 13 = .ok (.aload_n 0, 1) := by decide +kernel
theorem dX7_payment_14 : decode cX7_payment 14 = .ok (.getfield 51, 3) := by decide +kernel
theorem dX7_payment_17 : decode cX7_payment 17 = .ok (.getfield 195, 3) := by decide +kernel
theorem dX7_payment_20 : decode cX7_payment 20 = .ok (.iconst 1, 1) := by decide +kernel
theorem dX7_payment_21 : decode cX7_payment 21 = .ok (.isub, 1) := by decide +kernel
theorem dX7_payment_22 : decode cX7_payment 22 = .ok (.invokestatic 80, 3) := by decide +kernel
theorem dX7_payment_25 : decode cX7_payment 25 = .ok (.ifCond .ne 5, 3) := by decide +kernel
theorem dX7_payment_28 : decode cX7_payment 28 = .ok (.iconst (-1), 1) := by decide +kernel
theorem dX7_payment_29 : decode cX7_payment 29 = .ok (.ireturn, 1) := by decide +kernel
theorem dX7_even_0 : decode cX7_even 0 = .ok (.aload_n 0, 1) := by decide +kernel
theorem dX7_even_1 : decode cX7_even 1 = .ok (.getfield 44, 3) := by decide +kernel
theorem dX7_even_4 : decode cX7_even 4 = .ok (.getfield 126, 3) := by decide +kernel
theorem dX7_even_7 : decode cX7_even 7 = .ok (.istore_n 1, 1) := by decide +kernel
theorem dX7_even_8 : decode cX7_even 8 = .ok (.aload_n 0, 1) := by decide +kernel
theorem dX7_even_9 : decode cX7_even 9 = .ok (.getfield 44, 3) := by decide +kernel
theorem dX7_even_12 : decode cX7_even 12 = .ok (.iconst 0, 1) := by decide +kernel
theorem dX7_even_13 : decode cX7_even 13 = .ok (.putfield 126, 3) := by decide +kernel
theorem dX7_even_16 : decode cX7_even 16 = .ok (.iload_n 1, 1) := by decide +kernel
theorem dX7_even_17 : decode cX7_even 17 = .ok (.ireturn, 1) := by decide +kernel
theorem dX7_waitingFields_0 : decode cX7_waitingFields 0 = .ok (.iconst 0, 1) := by decide +kernel
theorem dX7_waitingFields_1 : decode cX7_waitingFields 1 = .ok (.istore_n 1, 1) := by decide +kernel
theorem dX7_waitingFields_2 : decode cX7_waitingFields 2 = .ok (.iconst 0, 1) := by decide +kernel
theorem dX7_waitingFields_3 : decode cX7_waitingFields 3 = .ok (.istore_n 2, 1) := by decide +kernel
theorem dX7_waitingFields_4 : decode cX7_waitingFields 4 = .ok (.iload_n 2, 1) := by decide +kernel
theorem dX7_waitingFields_5 : decode cX7_waitingFields 5 = .ok (.aload_n 0, 1) := by decide +kernel
theorem dX7_waitingFields_6 : decode cX7_waitingFields 6 = .ok (.getfield 77, 3) := by decide +kernel
theorem dX7_waitingFields_9 : decode cX7_waitingFields 9 = .ok (.if_icmp .ge 24, 3) := by decide +kernel
theorem dX7_waitingFields_33 : decode cX7_waitingFields 33 = .ok (.iload_n 1, 1) := by decide +kernel
theorem dX7_waitingFields_34 : decode cX7_waitingFields 34 = .ok (.ireturn, 1) := by decide +kernel
theorem dX5_begin_0 : decode cX5_begin 0 = .ok (.aload_n 0, 1) := by decide +kernel
theorem dX5_begin_1 : decode cX5_begin 1 = .ok (.iconst 0, 1) := by decide +kernel
theorem dX5_begin_2 : decode cX5_begin 2 = .ok (.putfield 36, 3) := by decide +kernel
theorem dX5_begin_5 : decode cX5_begin 5 = .ok (.aload_n 0, 1) := by decide +kernel
theorem dX5_begin_6 : decode cX5_begin 6 = .ok (.iload_n 1, 1) := by decide +kernel
theorem dX5_begin_7 : decode cX5_begin 7 = .ok (.putfield 40, 3) := by decide +kernel
theorem dX5_begin_10 : decode cX5_begin 10 = .ok (.aload_n 0, 1) := by decide +kernel
theorem dX5_begin_11 : decode cX5_begin 11 = .ok (.iconst 1, 1) := by decide +kernel
theorem dX5_begin_12 : decode cX5_begin 12 = .ok (.iload_n 2, 1) := by decide +kernel
theorem dX5_begin_13 : decode cX5_begin 13 = .ok (.invokestatic 43, 3) := by decide +kernel
theorem dX5_begin_16 : decode cX5_begin 16 = .ok (.putfield 49, 3) := by decide +kernel
theorem dX5_begin_19 : decode cX5_begin 19 = .ok (.return_, 1) := by decide +kernel
theorem dX5_choose_0 : decode cX5_choose 0 = .ok (.iconst 1, 1) := by decide +kernel
theorem dX5_choose_1 : decode cX5_choose 1 = .ok (.aload_n 0, 1) := by decide +kernel
theorem dX5_choose_2 : decode cX5_choose 2 = .ok (.getfield 36, 3) := by decide +kernel
theorem dX5_choose_5 : decode cX5_choose 5 = .ok (.ishl, 1) := by decide +kernel
theorem dX5_choose_6 : decode cX5_choose 6 = .ok (.iconst 1, 1) := by decide +kernel
theorem dX5_choose_7 : decode cX5_choose 7 = .ok (.isub, 1) := by decide +kernel
theorem dX5_choose_8 : decode cX5_choose 8 = .ok (.istore_n 2, 1) := by decide +kernel
theorem dX5_choose_9 : decode cX5_choose 9 = .ok (.aload_n 0, 1) := by decide +kernel
theorem dX5_choose_10 : decode cX5_choose 10 = .ok (.getfield 27, 3) := by decide +kernel
theorem dX5_choose_13 : decode cX5_choose 13 = .ok (.iload_n 2, 1) := by decide +kernel
theorem dX5_choose_14 : decode cX5_choose 14 = .ok (.iconst 0, 1) := by decide +kernel
theorem dX5_choose_15 : decode cX5_choose 15 = .ok (.iastore, 1) := by decide +kernel
theorem dX5_choose_16 : decode cX5_choose 16 = .ok (.iload_n 2, 1) := by decide +kernel
theorem dX5_choose_17 : decode cX5_choose 17 = .ok (.iconst 1, 1) := by decide +kernel
theorem dX5_choose_18 : decode cX5_choose 18 = .ok (.isub, 1) := by decide +kernel
theorem dX5_choose_19 : decode cX5_choose 19 = .ok (.istore_n 3, 1) := by decide +kernel
theorem dX5_choose_20 : decode cX5_choose 20 = .ok (.iload_n 3, 1) := by decide +kernel
theorem dX5_choose_21 : decode cX5_choose 21 = .ok (.ifCond .lt 15, 3) := by decide +kernel
theorem dX5_choose_36 : decode cX5_choose 36 = .ok (.aload_n 0, 1) := by decide +kernel
theorem dX5_choose_37 : decode cX5_choose 37 = .ok (.aload_n 0, 1) := by decide +kernel
theorem dX5_choose_38 : decode cX5_choose 38 = .ok (.getfield 36, 3) := by decide +kernel
theorem dX5_choose_41 : decode cX5_choose 41 = .ok (.putfield 70, 3) := by decide +kernel
theorem dX5_choose_44 : decode cX5_choose 44 = .ok (.iconst 0, 1) := by decide +kernel
theorem dX5_choose_45 : decode cX5_choose 45 = .ok (.istore_n 3, 1) := by decide +kernel
theorem dX5_choose_46 : decode cX5_choose 46 = .ok (.iconst 0, 1) := by decide +kernel
theorem dX5_choose_47 : decode cX5_choose 47 = .ok (.istore 4, 2) := by decide +kernel
theorem dX5_choose_49 : decode cX5_choose 49 = .ok (.iload 4, 2) := by decide +kernel
theorem dX5_choose_51 : decode cX5_choose 51 = .ok (.aload_n 0, 1) := by decide +kernel
theorem dX5_choose_52 : decode cX5_choose 52 = .ok (.getfield 36, 3) := by decide +kernel
theorem dX5_choose_55 : decode cX5_choose 55 = .ok (.if_icmp .ge 38, 3) := by decide +kernel
theorem dX5_choose_93 : decode cX5_choose 93 = .ok (.aload_n 0, 1) := by decide +kernel
theorem dX5_choose_94 : decode cX5_choose 94 = .ok (.getfield 27, 3) := by decide +kernel
theorem dX5_choose_97 : decode cX5_choose 97 = .ok (.iconst 0, 1) := by decide +kernel
theorem dX5_choose_98 : decode cX5_choose 98 = .ok (.iaload, 1) := by decide +kernel
theorem dX5_choose_99 : decode cX5_choose 99 = .ok (.ireturn, 1) := by decide +kernel
theorem dX7_plan_0 : decode cX7_plan 0 = .ok (.iload_n 1, 1) := by decide +kernel
theorem dX7_plan_1 : decode cX7_plan 1 = .ok (.iconst 1, 1) := by decide +kernel
theorem dX7_plan_2 : decode cX7_plan 2 = .ok (.bipush 99, 2) := by decide +kernel
theorem dX7_plan_4 : decode cX7_plan 4 = .ok (.invokestatic 80, 3) := by decide +kernel
theorem dX7_plan_7 : decode cX7_plan 7 = .ok (.ifCond .eq 12, 3) := by decide +kernel
theorem dX7_plan_10 : decode cX7_plan 10 = .ok (.aload_n 0, 1) := by decide +kernel
theorem dX7_plan_11 : decode cX7_plan 11 = .ok (.invokevirtual 205, 3) := by decide +kernel
theorem dX7_plan_14 : decode cX7_plan 14 = .ok (.bipush 7, 2) := by decide +kernel
theorem dX7_plan_16 : decode cX7_plan 16 = .ok (.if_icmp .le 5, 3) := by decide +kernel
theorem dX7_plan_19 : decode cX7_plan 19 = .ok (.iconst (-1), 1) := by decide +kernel
theorem dX7_plan_20 : decode cX7_plan 20 = .ok (.ireturn, 1) := by decide +kernel
theorem dX7_plan_21 : decode cX7_plan 21 = .ok (.aload_n 0, 1) := by decide +kernel
theorem dX7_plan_22 : decode cX7_plan 22 = .ok (.getfield 58, 3) := by decide +kernel
theorem dX7_plan_25 : decode cX7_plan 25 = .ok (.aload_n 0, 1) := by decide +kernel
theorem dX7_plan_26 : decode cX7_plan 26 = .ok (.getfield 129, 3) := by decide +kernel
theorem dX7_plan_29 : decode cX7_plan 29 = .ok (.iload_n 1, 1) := by decide +kernel
theorem dX7_plan_30 : decode cX7_plan 30 = .ok (.invokevirtual 208, 3) := by decide +kernel
theorem dX7_plan_33 : decode cX7_plan 33 = .ok (.iconst 0, 1) := by decide +kernel
theorem dX7_plan_34 : decode cX7_plan 34 = .ok (.istore_n 2, 1) := by decide +kernel
theorem dX7_plan_35 : decode cX7_plan 35 = .ok (.iload_n 2, 1) := by decide +kernel
theorem dX7_plan_36 : decode cX7_plan 36 = .ok (.aload_n 0, 1) := by decide +kernel
theorem dX7_plan_37 : decode cX7_plan 37 = .ok (.getfield 77, 3) := by decide +kernel
theorem dX7_plan_40 : decode cX7_plan 40 = .ok (.if_icmp .ge 35, 3) := by decide +kernel
theorem dX7_plan_75 : decode cX7_plan 75 = .ok (.aload_n 0, 1) := by decide +kernel
theorem dX7_plan_76 : decode cX7_plan 76 = .ok (.getfield 58, 3) := by decide +kernel
theorem dX7_plan_79 : decode cX7_plan 79 = .ok (.aload_n 0, 1) := by decide +kernel
theorem dX7_plan_80 : decode cX7_plan 80 = .ok (.getfield 23, 3) := by decide +kernel
theorem dX7_plan_83 : decode cX7_plan 83 = .ok (.invokevirtual 216, 3) := by decide +kernel
theorem dX7_plan_86 : decode cX7_plan 86 = .ok (.ireturn, 1) := by decide +kernel
theorem dX7_planned_0 : decode cX7_planned 0 = .ok (.iload_n 1, 1) := by decide +kernel
theorem dX7_planned_1 : decode cX7_planned 1 = .ok (.iconst 0, 1) := by decide +kernel
theorem dX7_planned_2 : decode cX7_planned 2 = .ok (.aload_n 0, 1) := by decide +kernel
theorem dX7_planned_3 : decode cX7_planned 3 = .ok (.getfield 58, 3) := by decide +kernel
theorem dX7_planned_6 : decode cX7_planned 6 = .ok (.getfield 220, 3) := by decide +kernel
theorem dX7_planned_9 : decode cX7_planned 9 = .ok (.iconst 1, 1) := by decide +kernel
theorem dX7_planned_10 : decode cX7_planned 10 = .ok (.isub, 1) := by decide +kernel
theorem dX7_planned_11 : decode cX7_planned 11 = .ok (.invokestatic 80, 3) := by decide +kernel
theorem dX7_planned_14 : decode cX7_planned 14 = .ok (.ifCond .eq 15, 3) := by decide +kernel
theorem dX7_planned_29 : decode cX7_planned 29 = .ok (.iconst (-1), 1) := by decide +kernel
theorem dX7_planned_30 : decode cX7_planned 30 = .ok (.ireturn, 1) := by decide +kernel
theorem dX7_about_0 : decode cX7_about 0 = .ok (.iload_n 1, 1) := by decide +kernel
theorem dX7_about_1 : decode cX7_about 1 = .ok (.tableswitch 75 0 5 #[39, 44, 49, 54, 62, 67], 39) := by decide +kernel
theorem dX7_about_40 : decode cX7_about 40 = .ok (.aload_n 0, 1) := by decide +kernel
theorem dX7_about_41 : decode cX7_about 41 = .ok (.getfield 62, 3) := by decide +kernel
theorem dX7_about_44 : decode cX7_about 44 = .ok (.ireturn, 1) := by decide +kernel
theorem dX7_about_45 : decode cX7_about 45 = .ok (.aload_n 0, 1) := by decide +kernel
theorem dX7_about_46 : decode cX7_about 46 = .ok (.getfield 77, 3) := by decide +kernel
theorem dX7_about_49 : decode cX7_about 49 = .ok (.ireturn, 1) := by decide +kernel
theorem dX7_about_50 : decode cX7_about 50 = .ok (.aload_n 0, 1) := by decide +kernel
theorem dX7_about_51 : decode cX7_about 51 = .ok (.getfield 129, 3) := by decide +kernel
theorem dX7_about_54 : decode cX7_about 54 = .ok (.ireturn, 1) := by decide +kernel
theorem dX7_about_55 : decode cX7_about 55 = .ok (.aload_n 0, 1) := by decide +kernel
theorem dX7_about_56 : decode cX7_about 56 = .ok (.getfield 44, 3) := by decide +kernel
theorem dX7_about_59 : decode cX7_about 59 = .ok (.getfield 126, 3) := by decide +kernel
theorem dX7_about_62 : decode cX7_about 62 = .ok (.ireturn, 1) := by decide +kernel
theorem dX7_about_63 : decode cX7_about 63 = .ok (.aload_n 0, 1) := by decide +kernel
theorem dX7_about_64 : decode cX7_about 64 = .ok (.getfield 151, 3) := by decide +kernel
theorem dX7_about_67 : decode cX7_about 67 = .ok (.ireturn, 1) := by decide +kernel
theorem dX7_about_68 : decode cX7_about 68 = .ok (.aload_n 0, 1) := by decide +kernel
theorem dX7_about_69 : decode cX7_about 69 = .ok (.getfield 30, 3) := by decide +kernel
theorem dX7_about_72 : decode cX7_about 72 = .ok (.getfield 99, 3) := by decide +kernel
theorem dX7_about_75 : decode cX7_about 75 = .ok (.ireturn, 1) := by decide +kernel
theorem dX7_about_76 : decode cX7_about 76 = .ok (.iload_n 1, 1) := by decide +kernel
theorem dX7_about_77 : decode cX7_about 77 = .ok (.bipush 20, 2) := by decide +kernel
theorem dX7_about_79 : decode cX7_about 79 = .ok (.bipush 29, 2) := by decide +kernel
theorem dX7_about_81 : decode cX7_about 81 = .ok (.invokestatic 80, 3) := by decide +kernel
theorem dX7_about_84 : decode cX7_about 84 = .ok (.ifCond .eq 15, 3) := by decide +kernel
theorem dX7_about_87 : decode cX7_about 87 = .ok (.aload_n 0, 1) := by decide +kernel
theorem dX7_about_88 : decode cX7_about 88 = .ok (.getfield 23, 3) := by decide +kernel
theorem dX7_about_91 : decode cX7_about 91 = .ok (.iload_n 1, 1) := by decide +kernel
theorem dX7_about_92 : decode cX7_about 92 = .ok (.bipush 20, 2) := by decide +kernel
theorem dX7_about_94 : decode cX7_about 94 = .ok (.isub, 1) := by decide +kernel
theorem dX7_about_95 : decode cX7_about 95 = .ok (.iaload, 1) := by decide +kernel
theorem dX7_about_96 : decode cX7_about 96 = .ok (.goto 4, 3) := by decide +kernel
theorem dX7_about_99 : decode cX7_about 99 = .ok (.iconst (-1), 1) := by decide +kernel
theorem dX7_about_100 : decode cX7_about 100 = .ok (.ireturn, 1) := by decide +kernel
