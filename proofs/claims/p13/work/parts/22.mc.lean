theorem tw_223 : Cond.fieldLink RX8 67 "HandsReturnedModel" "ready" "[I" ∈ zz_all := zz_m3 193 rfl rfl
theorem tw_224 : Cond.fieldLink RX8 70 "HandsReturnedModel" "value" "[I" ∈ zz_all := zz_m3 194 rfl rfl
theorem tw_225 : Cond.code yX8_lossOf cX8_lossOf 4 (some .int) ∈ zz_all := zz_m4 206 rfl rfl
theorem tw_226 : Cond.methodLink RX8 260 yX8_lossOf ∈ zz_all := zz_m4 203 rfl rfl
theorem tw_227 : Cond.instanceMethod yX8_lossOf ∈ zz_all := zz_m4 205 rfl rfl
theorem tw_228 : Cond.selects RX8 yX8_lossOf yX8_lossOf ∈ zz_all := zz_ms 50 rfl rfl
theorem tw_229 : Cond.code yX8_isField cX8_isField 2 (some .boolean) ∈ zz_all := zz_m4 178 rfl rfl
theorem tw_230 : Cond.methodLink RX8 220 yX8_isField ∈ zz_all := zz_m4 175 rfl rfl
theorem tw_231 : Cond.instanceMethod yX8_isField ∈ zz_all := zz_m4 177 rfl rfl
theorem tw_232 : Cond.selects RX8 yX8_isField yX8_isField ∈ zz_all := zz_ms 43 rfl rfl
theorem tw_233 : Cond.fieldLink RX8 64 "HandsReturnedModel" "need" "[I" ∈ zz_all := zz_m3 192 rfl rfl
theorem tw_234 : Cond.fieldLink RX8 73 "HandsReturnedModel" "done" "[I" ∈ zz_all := zz_m3 195 rfl rfl
theorem tw_235 : Cond.fieldLink RX8 76 "HandsReturnedModel" "got" "[I" ∈ zz_all := zz_m3 196 rfl rfl
theorem tw_236 : Cond.code yX8_proceeds cX8_proceeds 3 (some .int) ∈ zz_all := zz_m4 202 rfl rfl
theorem tw_237 : Cond.methodLink RX8 226 yX8_proceeds ∈ zz_all := zz_m4 199 rfl rfl
theorem tw_238 : Cond.instanceMethod yX8_proceeds ∈ zz_all := zz_m4 201 rfl rfl
theorem tw_239 : Cond.selects RX8 yX8_proceeds yX8_proceeds ∈ zz_all := zz_ms 49 rfl rfl
theorem tw_240 : Cond.fieldLink RX8 58 "HandsReturnedModel" "owner" "[I" ∈ zz_all := zz_m3 190 rfl rfl
theorem tw_241 : Cond.fieldLink RX8 61 "HandsReturnedModel" "kind" "[I" ∈ zz_all := zz_m3 191 rfl rfl
theorem dX8_lossOf_0 : decode cX8_lossOf 0 = .ok (.iload_n 2, 1) := by decide +kernel
theorem dX8_lossOf_1 : decode cX8_lossOf 1 = .ok (.aload_n 0, 1) := by decide +kernel
theorem dX8_lossOf_2 : decode cX8_lossOf 2 = .ok (.getfield 67, 3) := by decide +kernel
theorem dX8_lossOf_5 : decode cX8_lossOf 5 = .ok (.iload_n 1, 1) := by decide +kernel
theorem dX8_lossOf_6 : decode cX8_lossOf 6 = .ok (.iaload, 1) := by decide +kernel
theorem dX8_lossOf_7 : decode cX8_lossOf 7 = .ok (.isub, 1) := by decide +kernel
theorem dX8_lossOf_8 : decode cX8_lossOf 8 = .ok (.istore_n 3, 1) := by decide +kernel
theorem dX8_lossOf_9 : decode cX8_lossOf 9 = .ok (.aload_n 0, 1) := by decide +kernel
theorem dX8_lossOf_10 : decode cX8_lossOf 10 = .ok (.getfield 55, 3) := by decide +kernel
theorem dX8_lossOf_13 : decode cX8_lossOf 13 = .ok (.iload_n 3, 1) := by decide +kernel
theorem dX8_lossOf_14 : decode cX8_lossOf 14 = .ok (.bipush 9, 2) := by decide +kernel
theorem dX8_lossOf_16 : decode cX8_lossOf 16 = .ok (.if_icmp .le 8, 3) := by decide +kernel
theorem dX8_lossOf_19 : decode cX8_lossOf 19 = .ok (.bipush 9, 2) := by decide +kernel
theorem dX8_lossOf_21 : decode cX8_lossOf 21 = .ok (.goto 4, 3) := by decide +kernel
theorem dX8_lossOf_24 : decode cX8_lossOf 24 = .ok (.iload_n 3, 1) := by decide +kernel
theorem dX8_lossOf_25 : decode cX8_lossOf 25 = .ok (.iaload, 1) := by decide +kernel
theorem dX8_lossOf_26 : decode cX8_lossOf 26 = .ok (.ireturn, 1) := by decide +kernel
theorem dX8_proceeds_0 : decode cX8_proceeds 0 = .ok (.aload_n 0, 1) := by decide +kernel
theorem dX8_proceeds_1 : decode cX8_proceeds 1 = .ok (.getfield 70, 3) := by decide +kernel
theorem dX8_proceeds_4 : decode cX8_proceeds 4 = .ok (.iload_n 1, 1) := by decide +kernel
theorem dX8_proceeds_5 : decode cX8_proceeds 5 = .ok (.iaload, 1) := by decide +kernel
theorem dX8_proceeds_6 : decode cX8_proceeds 6 = .ok (.bipush 100, 2) := by decide +kernel
theorem dX8_proceeds_8 : decode cX8_proceeds 8 = .ok (.aload_n 0, 1) := by decide +kernel
theorem dX8_proceeds_9 : decode cX8_proceeds 9 = .ok (.iload_n 1, 1) := by decide +kernel
theorem dX8_proceeds_10 : decode cX8_proceeds 10 = .ok (.iload_n 2, 1) := by decide +kernel
theorem dX8_proceeds_11 : decode cX8_proceeds 11 = .ok (.invokevirtual 260, 3) := by decide +kernel
theorem dX8_proceeds_14 : decode cX8_proceeds 14 = .ok (.isub, 1) := by decide +kernel
theorem dX8_proceeds_15 : decode cX8_proceeds 15 = .ok (.imul, 1) := by decide +kernel
theorem dX8_proceeds_16 : decode cX8_proceeds 16 = .ok (.bipush 100, 2) := by decide +kernel
theorem dX8_proceeds_18 : decode cX8_proceeds 18 = .ok (.idiv, 1) := by decide +kernel
theorem dX8_proceeds_19 : decode cX8_proceeds 19 = .ok (.ireturn, 1) := by decide +kernel
theorem dX8_canWork_0 : decode cX8_canWork 0 = .ok (.aload_n 0, 1) := by decide +kernel
theorem dX8_canWork_1 : decode cX8_canWork 1 = .ok (.iload_n 1, 1) := by decide +kernel
theorem dX8_canWork_2 : decode cX8_canWork 2 = .ok (.invokevirtual 220, 3) := by decide +kernel
theorem dX8_canWork_5 : decode cX8_canWork 5 = .ok (.ifCond .eq 35, 3) := by decide +kernel
theorem dX8_canWork_8 : decode cX8_canWork 8 = .ok (.iload_n 2, 1) := by decide +kernel
theorem dX8_canWork_9 : decode cX8_canWork 9 = .ok (.iconst 1, 1) := by decide +kernel
theorem dX8_canWork_10 : decode cX8_canWork 10 = .ok (.if_icmp .lt 30, 3) := by decide +kernel
theorem dX8_canWork_13 : decode cX8_canWork 13 = .ok (.aload_n 0, 1) := by decide +kernel
theorem dX8_canWork_14 : decode cX8_canWork 14 = .ok (.getfield 67, 3) := by decide +kernel
theorem dX8_canWork_17 : decode cX8_canWork 17 = .ok (.iload_n 1, 1) := by decide +kernel
theorem dX8_canWork_18 : decode cX8_canWork 18 = .ok (.iaload, 1) := by decide +kernel
theorem dX8_canWork_19 : decode cX8_canWork 19 = .ok (.aload_n 0, 1) := by decide +kernel
theorem dX8_canWork_20 : decode cX8_canWork 20 = .ok (.getfield 223, 3) := by decide +kernel
theorem dX8_canWork_23 : decode cX8_canWork 23 = .ok (.if_icmp .gt 17, 3) := by decide +kernel
theorem dX8_canWork_26 : decode cX8_canWork 26 = .ok (.iload_n 2, 1) := by decide +kernel
theorem dX8_canWork_27 : decode cX8_canWork 27 = .ok (.aload_n 0, 1) := by decide +kernel
theorem dX8_canWork_28 : decode cX8_canWork 28 = .ok (.getfield 64, 3) := by decide +kernel
theorem dX8_canWork_31 : decode cX8_canWork 31 = .ok (.iload_n 1, 1) := by decide +kernel
theorem dX8_canWork_32 : decode cX8_canWork 32 = .ok (.iaload, 1) := by decide +kernel
theorem dX8_canWork_33 : decode cX8_canWork 33 = .ok (.if_icmp .gt 7, 3) := by decide +kernel
theorem dX8_canWork_36 : decode cX8_canWork 36 = .ok (.iconst 1, 1) := by decide +kernel
theorem dX8_canWork_37 : decode cX8_canWork 37 = .ok (.goto 4, 3) := by decide +kernel
theorem dX8_canWork_40 : decode cX8_canWork 40 = .ok (.iconst 0, 1) := by decide +kernel
theorem dX8_canWork_41 : decode cX8_canWork 41 = .ok (.ireturn, 1) := by decide +kernel
theorem dX8_worked_0 : decode cX8_worked 0 = .ok (.aload_n 0, 1) := by decide +kernel
theorem dX8_worked_1 : decode cX8_worked 1 = .ok (.getfield 64, 3) := by decide +kernel
theorem dX8_worked_4 : decode cX8_worked 4 = .ok (.iload_n 1, 1) := by decide +kernel
theorem dX8_worked_5 : decode cX8_worked 5 = .ok (.dup2, 1) := by decide +kernel
theorem dX8_worked_6 : decode cX8_worked 6 = .ok (.iaload, 1) := by decide +kernel
theorem dX8_worked_7 : decode cX8_worked 7 = .ok (.iload_n 2, 1) := by decide +kernel
theorem dX8_worked_8 : decode cX8_worked 8 = .ok (.isub, 1) := by decide +kernel
theorem dX8_worked_9 : decode cX8_worked 9 = .ok (.iastore, 1) := by decide +kernel
theorem dX8_worked_10 : decode cX8_worked 10 = .ok (.aload_n 0, 1) := by decide +kernel
theorem dX8_worked_11 : decode cX8_worked 11 = .ok (.getfield 64, 3) := by decide +kernel
theorem dX8_worked_14 : decode cX8_worked 14 = .ok (.iload_n 1, 1) := by decide +kernel
theorem dX8_worked_15 : decode cX8_worked 15 = .ok (.iaload, 1) := by decide +kernel
theorem dX8_worked_16 : decode cX8_worked 16 = .ok (.ifCond .ne 28, 3) := by decide +kernel
theorem dX8_worked_19 : decode cX8_worked 19 = .ok (.aload_n 0, 1) := by decide +kernel
theorem dX8_worked_20 : decode cX8_worked 20 = .ok (.getfield 73, 3) := by decide +kernel
theorem dX8_worked_23 : decode cX8_worked 23 = .ok (.iload_n 1, 1) := by decide +kernel
theorem dX8_worked_24 : decode cX8_worked 24 = .ok (.aload_n 0, 1) := by decide +kernel
theorem dX8_worked_25 : decode cX8_worked 25 = .ok (.getfield 223, 3) := by decide +kernel
theorem dX8_worked_28 : decode cX8_worked 28 = .ok (.iastore, 1) := by decide +kernel
theorem dX8_worked_29 : decode cX8_worked 29 = .ok (.aload_n 0, 1) := by decide +kernel
theorem dX8_worked_30 : decode cX8_worked 30 = .ok (.getfield 76, 3) := by decide +kernel
theorem dX8_worked_33 : decode cX8_worked 33 = .ok (.iload_n 1, 1) := by decide +kernel
theorem dX8_worked_34 : decode cX8_worked 34 = .ok (.aload_n 0, 1) := by decide +kernel
theorem dX8_worked_35 : decode cX8_worked 35 = .ok (.iload_n 1, 1) := by decide +kernel
theorem dX8_worked_36 : decode cX8_worked 36 = .ok (.aload_n 0, 1) := by decide +kernel
theorem dX8_worked_37 : decode cX8_worked 37 = .ok (.getfield 223, 3) := by decide +kernel
theorem dX8_worked_40 : decode cX8_worked 40 = .ok (.invokevirtual 226, 3) := by decide +kernel
theorem dX8_worked_43 : decode cX8_worked 43 = .ok (.iastore, 1) := by decide +kernel
theorem dX8_worked_44 : decode cX8_worked 44 = .ok (.aload_n 0, 1) := by decide +kernel
theorem dX8_worked_45 : decode cX8_worked 45 = .ok (.getfield 64, 3) := by decide +kernel
theorem dX8_worked_48 : decode cX8_worked 48 = .ok (.iload_n 1, 1) := by decide +kernel
theorem dX8_worked_49 : decode cX8_worked 49 = .ok (.iaload, 1) := by decide +kernel
theorem dX8_worked_50 : decode cX8_worked 50 = .ok (.ireturn, 1) := by decide +kernel
theorem dX8_net_0 : decode cX8_net 0 = .ok (.iconst 0, 1) := by decide +kernel
theorem dX8_net_1 : decode cX8_net 1 = .ok (.istore_n 2, 1) := by decide +kernel
theorem dX8_net_2 : decode cX8_net 2 = .ok (.iconst 0, 1) := by decide +kernel
theorem dX8_net_3 : decode cX8_net 3 = .ok (.istore_n 3, 1) := by decide +kernel
theorem dX8_net_4 : decode cX8_net 4 = .ok (.iload_n 3, 1) := by decide +kernel
theorem dX8_net_5 : decode cX8_net 5 = .ok (.aload_n 0, 1) := by decide +kernel
theorem dX8_net_6 : decode cX8_net 6 = .ok (.getfield 230, 3) := by decide +kernel
theorem dX8_net_9 : decode cX8_net 9 = .ok (.if_icmp .ge 55, 3) := by decide +kernel
theorem dX8_net_12 : decode cX8_net 12 = .ok (.iload_n 2, 1) := by decide +kernel
theorem dX8_net_13 : decode cX8_net 13 = .ok (.aload_n 0, 1) := by decide +kernel
theorem dX8_net_14 : decode cX8_net 14 = .ok (.getfield 82, 3) := by decide +kernel
theorem dX8_net_17 : decode cX8_net 17 = .ok (.iload_n 3, 1) := by decide +kernel
theorem dX8_net_18 : decode cX8_net 18 = .ok (.iaload, 1) := by decide +kernel
theorem dX8_net_19 : decode cX8_net 19 = .ok (.iload_n 1, 1) := by decide +kernel
theorem dX8_net_20 : decode cX8_net 20 = .ok (.if_icmp .ne 12, 3) := by decide +kernel
theorem dX8_net_23 : decode cX8_net 23 = .ok (.aload_n 0, 1) := by decide +kernel
theorem dX8_net_24 : decode cX8_net 24 = .ok (.getfield 88, 3) := by decide +kernel
theorem dX8_net_27 : decode cX8_net 27 = .ok (.iload_n 3, 1) := by decide +kernel
theorem dX8_net_28 : decode cX8_net 28 = .ok (.iaload, 1) := by decide +kernel
theorem dX8_net_29 : decode cX8_net 29 = .ok (.goto 4, 3) := by decide +kernel
theorem dX8_net_32 : decode cX8_net 32 = .ok (.iconst 0, 1) := by decide +kernel
theorem dX8_net_33 : decode cX8_net 33 = .ok (.iadd, 1) := by decide +kernel
theorem dX8_net_34 : decode cX8_net 34 = .ok (.istore_n 2, 1) := by decide +kernel
theorem dX8_net_35 : decode cX8_net 35 = .ok (.iload_n 2, 1) := by decide +kernel
theorem dX8_net_36 : decode cX8_net 36 = .ok (.aload_n 0, 1) := by decide +kernel
theorem dX8_net_37 : decode cX8_net 37 = .ok (.getfield 79, 3) := by decide +kernel
theorem dX8_net_40 : decode cX8_net 40 = .ok (.iload_n 3, 1) := by decide +kernel
theorem dX8_net_41 : decode cX8_net 41 = .ok (.iaload, 1) := by decide +kernel
theorem dX8_net_42 : decode cX8_net 42 = .ok (.iload_n 1, 1) := by decide +kernel
theorem dX8_net_43 : decode cX8_net 43 = .ok (.if_icmp .ne 12, 3) := by decide +kernel
theorem dX8_net_46 : decode cX8_net 46 = .ok (.aload_n 0, 1) := by decide +kernel
theorem dX8_net_47 : decode cX8_net 47 = .ok (.getfield 88, 3) := by decide +kernel
theorem dX8_net_50 : decode cX8_net 50 = .ok (.iload_n 3, 1) := by decide +kernel
theorem dX8_net_51 : decode cX8_net 51 = .ok (.iaload, 1) := by decide +kernel
theorem dX8_net_52 : decode cX8_net 52 = .ok (.goto 4, 3) := by decide +kernel
theorem dX8_net_55 : decode cX8_net 55 = .ok (.iconst 0, 1) := by decide +kernel
theorem dX8_net_56 : decode cX8_net 56 = .ok (.isub, 1) := by decide +kernel
theorem dX8_net_57 : decode cX8_net 57 = .ok (.istore_n 2, 1) := by decide +kernel
theorem dX8_net_58 : decode cX8_net 58 = .ok (.iinc 3 1, 3) := by decide +kernel
theorem dX8_net_61 : decode cX8_net 61 = .ok (.goto (-57), 3) := by decide +kernel
theorem dX8_net_64 : decode cX8_net 64 = .ok (.iload_n 2, 1) := by decide +kernel
theorem dX8_net_65 : decode cX8_net 65 = .ok (.ireturn, 1) := by decide +kernel
theorem dX8_fieldOf_0 : decode cX8_fieldOf 0 = .ok (.aload_n 0, 1) := by decide +kernel
theorem dX8_fieldOf_1 : decode cX8_fieldOf 1 = .ok (.iload_n 1, 1) := by decide +kernel
theorem dX8_fieldOf_2 : decode cX8_fieldOf 2 = .ok (.invokevirtual 220, 3) := by decide +kernel
theorem dX8_fieldOf_5 : decode cX8_fieldOf 5 = .ok (.ifCond .ne 5, 3) := by decide +kernel
theorem dX8_fieldOf_8 : decode cX8_fieldOf 8 = .ok (.iconst (-1), 1) := by decide +kernel
theorem dX8_fieldOf_9 : decode cX8_fieldOf 9 = .ok (.ireturn, 1) := by decide +kernel
theorem dX8_fieldOf_10 : decode cX8_fieldOf 10 = .ok (.iload_n 2, 1) := by decide +kernel
theorem dX8_fieldOf_11 : decode cX8_fieldOf 11 = .ok (.tableswitch 103 0 6 #[41, 48, 55, 62, 69, 76, 83], 41) := by decide +kernel
theorem dX8_fieldOf_52 : decode cX8_fieldOf 52 = .ok (.aload_n 0, 1) := by decide +kernel
theorem dX8_fieldOf_53 : decode cX8_fieldOf 53 = .ok (.getfield 58, 3) := by decide +kernel
theorem dX8_fieldOf_56 : decode cX8_fieldOf 56 = .ok (.iload_n 1, 1) := by decide +kernel
theorem dX8_fieldOf_57 : decode cX8_fieldOf 57 = .ok (.iaload, 1) := by decide +kernel
theorem dX8_fieldOf_58 : decode cX8_fieldOf 58 = .ok (.ireturn, 1) := by decide +kernel
theorem dX8_fieldOf_59 : decode cX8_fieldOf 59 = .ok (.aload_n 0, 1) := by decide +kernel
theorem dX8_fieldOf_60 : decode cX8_fieldOf 60 = .ok (.getfield 61, 3) := by decide +kernel
theorem dX8_fieldOf_63 : decode cX8_fieldOf 63 = .ok (.iload_n 1, 1) := by decide +kernel
theorem dX8_fieldOf_64 : decode cX8_fieldOf 64 = .ok (.iaload, 1) := by decide +kernel
theorem dX8_fieldOf_65 : decode cX8_fieldOf 65 = .ok (.ireturn, 1) := by decide +kernel
theorem dX8_fieldOf_66 : decode cX8_fieldOf 66 = .ok (.aload_n 0, 1) := by decide +kernel
theorem dX8_fieldOf_67 : decode cX8_fieldOf 67 = .ok (.getfield 64, 3) := by decide +kernel
theorem dX8_fieldOf_70 : decode cX8_fieldOf 70 = .ok (.iload_n 1, 1) := by decide +kernel
theorem dX8_fieldOf_71 : decode cX8_fieldOf 71 = .ok (.iaload, 1) := by decide +kernel
theorem dX8_fieldOf_72 : decode cX8_fieldOf 72 = .ok (.ireturn, 1) := by decide +kernel
theorem dX8_fieldOf_73 : decode cX8_fieldOf 73 = .ok (.aload_n 0, 1) := by decide +kernel
theorem dX8_fieldOf_74 : decode cX8_fieldOf 74 = .ok (.getfield 67, 3) := by decide +kernel
theorem dX8_fieldOf_77 : decode cX8_fieldOf 77 = .ok (.iload_n 1, 1) := by decide +kernel
theorem dX8_fieldOf_78 : decode cX8_fieldOf 78 = .ok (.iaload, 1) := by decide +kernel
theorem dX8_fieldOf_79 : decode cX8_fieldOf 79 = .ok (.ireturn, 1) := by decide +kernel
theorem dX8_fieldOf_80 : decode cX8_fieldOf 80 = .ok (.aload_n 0, 1) := by decide +kernel
theorem dX8_fieldOf_81 : decode cX8_fieldOf 81 = .ok (.getfield 70, 3) := by decide +kernel
theorem dX8_fieldOf_84 : decode cX8_fieldOf 84 = .ok (.iload_n 1, 1) := by decide +kernel
theorem dX8_fieldOf_85 : decode cX8_fieldOf 85 = .ok (.iaload, 1) := by decide +kernel
theorem dX8_fieldOf_86 : decode cX8_fieldOf 86 = .ok (.ireturn, 1) := by decide +kernel
theorem dX8_fieldOf_87 : decode cX8_fieldOf 87 = .ok (.aload_n 0, 1) := by decide +kernel
theorem dX8_fieldOf_88 : decode cX8_fieldOf 88 = .ok (.getfield 73, 3) := by decide +kernel
theorem dX8_fieldOf_91 : decode cX8_fieldOf 91 = .ok (.iload_n 1, 1) := by decide +kernel
theorem dX8_fieldOf_92 : decode cX8_fieldOf 92 = .ok (.iaload, 1) := by decide +kernel
theorem dX8_fieldOf_93 : decode cX8_fieldOf 93 = .ok (.ireturn, 1) := by decide +kernel
theorem dX8_fieldOf_94 : decode cX8_fieldOf 94 = .ok (.aload_n 0, 1) := by decide +kernel
theorem dX8_fieldOf_95 : decode cX8_fieldOf 95 = .ok (.getfield 73, 3) := by decide +kernel
theorem dX8_fieldOf_98 : decode cX8_fieldOf 98 = .ok (.iload_n 1, 1) := by decide +kernel
theorem dX8_fieldOf_99 : decode cX8_fieldOf 99 = .ok (.iaload, 1) := by decide +kernel
theorem dX8_fieldOf_100 : decode cX8_fieldOf 100 = .ok (.ifCond .ge 7, 3) := by decide +kernel
theorem dX8_fieldOf_103 : decode cX8_fieldOf 103 = .ok (.iconst (-1), 1) := by decide +kernel
theorem dX8_fieldOf_104 : decode cX8_fieldOf 104 = .ok (.goto 9, 3) := by decide +kernel
theorem dX8_fieldOf_107 : decode cX8_fieldOf 107 = .ok (.aload_n 0, 1) := by decide +kernel
theorem dX8_fieldOf_108 : decode cX8_fieldOf 108 = .ok (.getfield 76, 3) := by decide +kernel
theorem dX8_fieldOf_111 : decode cX8_fieldOf 111 = .ok (.iload_n 1, 1) := by decide +kernel
theorem dX8_fieldOf_112 : decode cX8_fieldOf 112 = .ok (.iaload, 1) := by decide +kernel
theorem dX8_fieldOf_113 : decode cX8_fieldOf 113 = .ok (.ireturn, 1) := by decide +kernel
theorem dX8_fieldOf_114 : decode cX8_fieldOf 114 = .ok (.iconst (-1), 1) := by decide +kernel
theorem dX8_fieldOf_115 : decode cX8_fieldOf 115 = .ok (.ireturn, 1) := by decide +kernel
theorem zz_subI {x y : Int32} (h1 : 0 ≤ y.toInt) (h2 : y.toInt ≤ x.toInt) : (x - y).toInt = x.toInt - y.toInt := by
  have h3 := Int32.toInt_lt x
  rw [Int32.toInt_sub]
  rw [Int.bmod_eq_of_le] <;> omega

def zz_rg (f : Nat → Int32) (n : Nat) (lo hi : Int) : Prop := ∀ k : Nat, k < n → lo ≤ (f k).toInt ∧ (f k).toInt ≤ hi
theorem zz_rg_upd {f : Nat → Int32} {n : Nat} {lo hi : Int} {x : Int32} (h : zz_rg f n lo hi) (hx : lo ≤ x.toInt ∧ x.toInt ≤ hi) (hn : n < 2147483648) : zz_rg (upd f (Int32.toNatClampNeg (nI n)) x) (n + 1) lo hi := by
  intro k hk
  rw [zz_cl hn]
  by_cases e : k = n
  · simp only [upd, if_pos e]; exact hx
  · simp only [upd, if_neg e]; exact h k (by omega)
theorem zz_rg_sub {f : Nat → Int32} {n i : Nat} {x : Int32} (h : zz_rg f n 0 60) (hi : i < n) (hx : 1 ≤ x.toInt) (hx2 : x.toInt ≤ (f i).toInt) : zz_rg (upd f i (f i - x)) n 0 60 := by
  intro k hk
  by_cases e : k = i
  · simp only [upd, if_pos e]
    rw [zz_subI (by omega) hx2]
    have := h i hi
    omega
  · simp only [upd, if_neg e]; exact h k hk

def zz_dn (d f : Nat → Int32) (n : Nat) : Prop := ∀ k : Nat, k < n → (d k).toInt < 0 → 1 ≤ (f k).toInt
theorem zz_dn_1 {d f : Nat → Int32} {n i : Nat} {x : Int32} (h : zz_dn d f n) (hx : 0 ≤ x.toInt) (hz : ¬ (upd f i x) i = 0) : zz_dn d (upd f i x) n := by
  intro k hk hd
  by_cases e : k = i
  · subst e
    simp only [upd, if_pos] at hz ⊢
    have := zz_ne hz
    rw [show (0 : Int32).toInt = 0 from by decide] at this
    omega
  · simp only [upd, if_neg e]; exact h k hk hd
theorem zz_dn_2 {d f : Nat → Int32} {n i : Nat} {x y : Int32} (h : zz_dn d f n) (hy : 0 ≤ y.toInt) : zz_dn (upd d i y) (upd f i x) n := by
  intro k hk hd
  by_cases e : k = i
  · simp only [upd, if_pos e] at hd; omega
  · simp only [upd, if_neg e] at hd ⊢; exact h k hk hd
theorem zz_dn_new {d f : Nat → Int32} {n : Nat} {x y : Int32} (h : zz_dn d f n) (hx : 1 ≤ x.toInt) (hn : n < 2147483648) : zz_dn (upd d (Int32.toNatClampNeg (nI n)) y) (upd f (Int32.toNatClampNeg (nI n)) x) (n + 1) := by
  intro k hk hd
  rw [zz_cl hn] at hd ⊢
  by_cases e : k = n
  · simp only [upd, if_pos e]; exact hx
  · simp only [upd, if_neg e] at hd ⊢; exact h k (by omega) hd

set_option maxHeartbeats 4000000 in
set_option maxRecDepth 100000 in
theorem m_lossOf (l : Launch) (dC : Nat → ClassId) (dI : Nat → Nat → Nat) (b : Nat → Nat) (gg : Nat → Int32) (mt : Nat) (mc : Nat) (mh : Nat) (mf : Nat) (md : Nat) (cI : ClassId) (re : Nat → Int32) (lo : Nat → Int32) (p0 : Int32) (p1 : Int32) (sz : Nat) (hp12 : 0 ≤ p0.toInt ∧ p0.toInt < 12) (hre : 0 ≤ (re (Int32.toNatClampNeg p0)).toInt ∧ (re (Int32.toNatClampNeg p0)).toInt ≤ p1.toInt) : Met l yX8_lossOf (zz_w yX8_lossOf cX8_lossOf 4 (some .int)) ({ frames := 0, cells := 0, slots := 0, locals := 0 }) (va_Pc [.ref (b 0), .int p0, .int p1] (zz_B (dC, dI) sz [(b 0, .inr (8, [.ref (b 1), .int (nI mt), .int (gg 2), .int (gg 3), .int (gg 4), .int (gg 5), .int (gg 6), .int (gg 7), .int (gg 8), .int (gg 9), .ref (b 11), .ref (b 12), .ref (b 13), .int (nI mc), .int (nI mh), .ref (b 16), .ref (b 17), .ref (b 18), .ref (b 19), .ref (b 20), .ref (b 21), .ref (b 22), .ref (b 23), .ref (b 24), .int (nI mf), .ref (b 26), .ref (b 27), .ref (b 28), .ref (b 29), .ref (b 30), .ref (b 31), .ref (b 32), .int (gg 32), .int (nI md), .ref (b 35), .ref (b 36), .ref (b 37), .ref (b 38), .ref (b 39), .ref (b 40), .int (gg 40), .ref (b 42), .ref (b 43), .ref (b 44), .int (gg 44), .ref (b 46), .ref (b 47), .int (gg 47), .ref (b 49)])), (b 29, .inl (cI, 12, .inl re)), (b 24, .inl (cI, 10, .inl lo))] [(cI, .int)])) (va_Qi (fun (_ : Int32) (_ : Unit) => True) (fun _ _ => True) (va_A [] sz)) 0 0 (va_A [] sz) := by
  refine Met.ofW (cc := cX8_lossOf) (maxL := 4) (ret := (some .int)) (by decide) rfl ?_
  intro p e s m args below meth c s₁ B hml hv
  obtain ⟨rfl, hsz, hP, hK, hD0, hN⟩ := hv
  have hx := B.exec
  have hb := B.bytes
  have hr := B.returns
  have hts := atoms_spec (ws := zz_w yX8_lossOf cX8_lossOf 4 (some .int)) B.pre
  have hw : ∀ w ∈ zz_all, w.before _ s = true := fun w h => hts w (List.mem_cons_of_mem _ h)
  have hown : s.vm.findClass RX8 = some m.cls := findClass_of_methodNamed B.named
  have hlocks := B.notSynchronized
  subst hsz
  have hD := hD0
  generalize hAe : va_A [] s.heap.size = A
  have hA : ∀ q : Nat, s.heap.size ≤ q → A q := fun q h => by rw [← hAe]; exact Or.inr h
  have hS : va_S A s.heap s.heap [] := va_S.rf
  have hP : va_P (dC, dI) vwCl [(b 0, .inr (8, [.ref (b 1), .int (nI mt), .int (gg 2), .int (gg 3), .int (gg 4), .int (gg 5), .int (gg 6), .int (gg 7), .int (gg 8), .int (gg 9), .ref (b 11), .ref (b 12), .ref (b 13), .int (nI mc), .int (nI mh), .ref (b 16), .ref (b 17), .ref (b 18), .ref (b 19), .ref (b 20), .ref (b 21), .ref (b 22), .ref (b 23), .ref (b 24), .int (nI mf), .ref (b 26), .ref (b 27), .ref (b 28), .ref (b 29), .ref (b 30), .ref (b 31), .ref (b 32), .int (gg 32), .int (nI md), .ref (b 35), .ref (b 36), .ref (b 37), .ref (b 38), .ref (b 39), .ref (b 40), .int (gg 40), .ref (b 42), .ref (b 43), .ref (b 44), .int (gg 44), .ref (b 46), .ref (b 47), .int (gg 47), .ref (b 49)])), (b 29, .inl (cI, 12, .inl re)), (b 24, .inl (cI, 10, .inl lo))] s.heap := hP
  have hl := lv_entry ([.ref (b 0), .int p0, .int p1]) (n := 4) (Nat.le_of_ble_eq_true rfl)
  rw [lg_entry_eq]
  generalize (lg_sl ([.ref (b 0), .int p0, .int p1]) ++ List.replicate (4 - (lg_sl ([.ref (b 0), .int p0, .int p1])).length) Slot.unset).toArray = ls at hl ⊢
  have hl : lv_has ls 4 [(0, .ref (b 0)), (1, .int p0), (2, .int p1)] := hl
  refine lv_iload_n hx hb dX8_lossOf_0 rfl (lv_at hl 2 rfl) ?_
  refine lv_aload_n hx hb dX8_lossOf_1 rfl (lv_at hl 0 rfl) ?_
  refine va_get (D := (dC, dI)) (ci := 8) (v := .ref (b 29)) (C := RX8) (T := TX8) (N := 49) hx hb hw zz_inX8 hown hK hP 0 rfl rfl 28 (by decide) (hw _ tw_223) (fun _ h9 => h9) rfl dX8_lossOf_2 ?_
  refine lv_iload_n hx hb dX8_lossOf_5 rfl (lv_at hl 1 rfl) ?_
  refine va_iald hx hb hK hP 1 0 rfl rfl (vp_in_iff.mpr (by constructor <;> omega)) dX8_lossOf_6 ?_
  refine lv_isub hx hb dX8_lossOf_7 ?_
  refine lv_topi (fun lt elt => ?_)
  have zlt : lt.toInt = p1.toInt - (re (Int32.toNatClampNeg p0)).toInt := by rw [elt]; exact zz_subI (by omega) (by omega)
  refine lv_istore_n (lv' := [(3, .int lt), (0, .ref (b 0)), (1, .int p0), (2, .int p1)]) hx hb dX8_lossOf_8 rfl hl (by decide) rfl (fun ls hl => ?_)
  refine lv_aload_n hx hb dX8_lossOf_9 rfl (lv_at hl 1 rfl) ?_
  refine va_get (D := (dC, dI)) (ci := 8) (v := .ref (b 24)) (C := RX8) (T := TX8) (N := 49) hx hb hw zz_inX8 hown hK hP 0 rfl rfl 23 (by decide) (hw _ tw_204) (fun _ h9 => h9) rfl dX8_lossOf_10 ?_
  refine lv_iload_n hx hb dX8_lossOf_13 rfl (lv_at hl 0 rfl) ?_
  refine lv_bipush (v := 9) hx hb dX8_lossOf_14 (by decide) ?_
  refine lv_icmp_le (tgt := 24) hx hb dX8_lossOf_16 (by decide) (fun c_1 => ?_) (fun c_1 => ?_)
  · have zc_1 := c_1
    rw [Int32.le_iff_toInt_le] at zc_1
    try rw [show (9 : Int32).toInt = 9 from by decide] at zc_1
    refine lv_iload_n hx hb dX8_lossOf_24 rfl (lv_at hl 0 rfl) ?_
    refine va_iald hx hb hK hP 2 0 rfl rfl (vp_in_iff.mpr (by constructor <;> omega)) dX8_lossOf_25 ?_
    exact W.iret (v := (lo (Int32.toNatClampNeg lt))) hx hb hr (fun t ht hW => ⟨⟨(lo (Int32.toNatClampNeg lt)), (), rfl, trivial, trivial⟩, hS.F ht⟩) hS.2.2 dX8_lossOf_26
  · have zc_1 := c_1
    rw [Int32.le_iff_toInt_le] at zc_1
    try rw [show (9 : Int32).toInt = 9 from by decide] at zc_1
    refine lv_bipush (v := 9) hx hb dX8_lossOf_19 (by decide) ?_
    refine lv_goto (tgt := 25) hx hb dX8_lossOf_21 (by decide) ?_
    refine va_iald hx hb hK hP 2 0 rfl rfl (zz_vin (by decide)) dX8_lossOf_25 ?_
    exact W.iret (v := (lo (Int32.toNatClampNeg 9))) hx hb hr (fun t ht hW => ⟨⟨(lo (Int32.toNatClampNeg 9)), (), rfl, trivial, trivial⟩, hS.F ht⟩) hS.2.2 dX8_lossOf_26

set_option maxHeartbeats 4000000 in
set_option maxRecDepth 100000 in
theorem m_proceeds (l : Launch) (dC : Nat → ClassId) (dI : Nat → Nat → Nat) (b : Nat → Nat) (gg : Nat → Int32) (mt : Nat) (mc : Nat) (mh : Nat) (mf : Nat) (md : Nat) (cI : ClassId) (re : Nat → Int32) (lo : Nat → Int32) (va : Nat → Int32) (p0 : Int32) (p1 : Int32) (sz : Nat) (hp12 : 0 ≤ p0.toInt ∧ p0.toInt < 12) (hre : 0 ≤ (re (Int32.toNatClampNeg p0)).toInt ∧ (re (Int32.toNatClampNeg p0)).toInt ≤ p1.toInt) : Met l yX8_proceeds (zz_w yX8_proceeds cX8_proceeds 3 (some .int)) ({ frames := 1, cells := 0, slots := 0, locals := 23 }) (va_Pc [.ref (b 0), .int p0, .int p1] (zz_B (dC, dI) sz [(b 0, .inr (8, [.ref (b 1), .int (nI mt), .int (gg 2), .int (gg 3), .int (gg 4), .int (gg 5), .int (gg 6), .int (gg 7), .int (gg 8), .int (gg 9), .ref (b 11), .ref (b 12), .ref (b 13), .int (nI mc), .int (nI mh), .ref (b 16), .ref (b 17), .ref (b 18), .ref (b 19), .ref (b 20), .ref (b 21), .ref (b 22), .ref (b 23), .ref (b 24), .int (nI mf), .ref (b 26), .ref (b 27), .ref (b 28), .ref (b 29), .ref (b 30), .ref (b 31), .ref (b 32), .int (gg 32), .int (nI md), .ref (b 35), .ref (b 36), .ref (b 37), .ref (b 38), .ref (b 39), .ref (b 40), .int (gg 40), .ref (b 42), .ref (b 43), .ref (b 44), .int (gg 44), .ref (b 46), .ref (b 47), .int (gg 47), .ref (b 49)])), (b 29, .inl (cI, 12, .inl re)), (b 24, .inl (cI, 10, .inl lo)), (b 30, .inl (cI, 12, .inl va))] [(cI, .int)])) (va_Qi (fun (_ : Int32) (_ : Unit) => True) (fun _ _ => True) (va_A [] sz)) 0 0 (va_A [] sz) := by
  refine Met.ofW (cc := cX8_proceeds) (maxL := 3) (ret := (some .int)) (by decide) rfl ?_
  intro p e s m args below meth c s₁ B hml hv
  obtain ⟨rfl, hsz, hP, hK, hD0, hN⟩ := hv
  have hx := B.exec
  have hb := B.bytes
  have hr := B.returns
  have hts := atoms_spec (ws := zz_w yX8_proceeds cX8_proceeds 3 (some .int)) B.pre
  have hw : ∀ w ∈ zz_all, w.before _ s = true := fun w h => hts w (List.mem_cons_of_mem _ h)
  have hown : s.vm.findClass RX8 = some m.cls := findClass_of_methodNamed B.named
  have hlocks := B.notSynchronized
  subst hsz
  have hD := hD0
  generalize hAe : va_A [] s.heap.size = A
  have hA : ∀ q : Nat, s.heap.size ≤ q → A q := fun q h => by rw [← hAe]; exact Or.inr h
  have hS : va_S A s.heap s.heap [] := va_S.rf
  have hP : va_P (dC, dI) vwCl [(b 0, .inr (8, [.ref (b 1), .int (nI mt), .int (gg 2), .int (gg 3), .int (gg 4), .int (gg 5), .int (gg 6), .int (gg 7), .int (gg 8), .int (gg 9), .ref (b 11), .ref (b 12), .ref (b 13), .int (nI mc), .int (nI mh), .ref (b 16), .ref (b 17), .ref (b 18), .ref (b 19), .ref (b 20), .ref (b 21), .ref (b 22), .ref (b 23), .ref (b 24), .int (nI mf), .ref (b 26), .ref (b 27), .ref (b 28), .ref (b 29), .ref (b 30), .ref (b 31), .ref (b 32), .int (gg 32), .int (nI md), .ref (b 35), .ref (b 36), .ref (b 37), .ref (b 38), .ref (b 39), .ref (b 40), .int (gg 40), .ref (b 42), .ref (b 43), .ref (b 44), .int (gg 44), .ref (b 46), .ref (b 47), .int (gg 47), .ref (b 49)])), (b 29, .inl (cI, 12, .inl re)), (b 24, .inl (cI, 10, .inl lo)), (b 30, .inl (cI, 12, .inl va))] s.heap := hP
  have hl := lv_entry ([.ref (b 0), .int p0, .int p1]) (n := 3) (Nat.le_of_ble_eq_true rfl)
  rw [lg_entry_eq]
  generalize (lg_sl ([.ref (b 0), .int p0, .int p1]) ++ List.replicate (3 - (lg_sl ([.ref (b 0), .int p0, .int p1])).length) Slot.unset).toArray = ls at hl ⊢
  have hl : lv_has ls 3 [(0, .ref (b 0)), (1, .int p0), (2, .int p1)] := hl
  refine lv_aload_n hx hb dX8_proceeds_0 rfl (lv_at hl 0 rfl) ?_
  refine va_get (D := (dC, dI)) (ci := 8) (v := .ref (b 30)) (C := RX8) (T := TX8) (N := 49) hx hb hw zz_inX8 hown hK hP 0 rfl rfl 29 (by decide) (hw _ tw_224) (fun _ h9 => h9) rfl dX8_proceeds_1 ?_
  refine lv_iload_n hx hb dX8_proceeds_4 rfl (lv_at hl 1 rfl) ?_
  refine va_iald hx hb hK hP 3 0 rfl rfl (vp_in_iff.mpr (by constructor <;> omega)) dX8_proceeds_5 ?_
  refine lv_bipush (v := 100) hx hb dX8_proceeds_6 (by decide) ?_
  refine lv_aload_n hx hb dX8_proceeds_8 rfl (lv_at hl 0 rfl) ?_
  refine lv_iload_n hx hb dX8_proceeds_9 rfl (lv_at hl 1 rfl) ?_
  refine lv_iload_n hx hb dX8_proceeds_10 rfl (lv_at hl 2 rfl) ?_
  have hPc := hP.sub (ws' := [(b 0, .inr (8, [.ref (b 1), .int (nI mt), .int (gg 2), .int (gg 3), .int (gg 4), .int (gg 5), .int (gg 6), .int (gg 7), .int (gg 8), .int (gg 9), .ref (b 11), .ref (b 12), .ref (b 13), .int (nI mc), .int (nI mh), .ref (b 16), .ref (b 17), .ref (b 18), .ref (b 19), .ref (b 20), .ref (b 21), .ref (b 22), .ref (b 23), .ref (b 24), .int (nI mf), .ref (b 26), .ref (b 27), .ref (b 28), .ref (b 29), .ref (b 30), .ref (b 31), .ref (b 32), .int (gg 32), .int (nI md), .ref (b 35), .ref (b 36), .ref (b 37), .ref (b 38), .ref (b 39), .ref (b 40), .int (gg 40), .ref (b 42), .ref (b 43), .ref (b 44), .int (gg 44), .ref (b 46), .ref (b 47), .int (gg 47), .ref (b 49)])), (b 29, .inl (cI, 12, .inl re)), (b 24, .inl (cI, 10, .inl lo))]) [0, 1, 2] rfl
  have hDc := hD.sub (ws' := [(b 0, .inr (8, [.ref (b 1), .int (nI mt), .int (gg 2), .int (gg 3), .int (gg 4), .int (gg 5), .int (gg 6), .int (gg 7), .int (gg 8), .int (gg 9), .ref (b 11), .ref (b 12), .ref (b 13), .int (nI mc), .int (nI mh), .ref (b 16), .ref (b 17), .ref (b 18), .ref (b 19), .ref (b 20), .ref (b 21), .ref (b 22), .ref (b 23), .ref (b 24), .int (nI mf), .ref (b 26), .ref (b 27), .ref (b 28), .ref (b 29), .ref (b 30), .ref (b 31), .ref (b 32), .int (gg 32), .int (nI md), .ref (b 35), .ref (b 36), .ref (b 37), .ref (b 38), .ref (b 39), .ref (b 40), .int (gg 40), .ref (b 42), .ref (b 43), .ref (b 44), .int (gg 44), .ref (b 46), .ref (b 47), .int (gg 47), .ref (b 49)])), (b 29, .inl (cI, 12, .inl re)), (b 24, .inl (cI, 10, .inl lo))]) [0, 1, 2] (by decide) rfl
  have hKc := hK.sub (tys' := [(cI, .int)]) [0] rfl
  have hFc := zz_free0 hS hA
  refine va_calli (va_runV (As := [.int p0, .int p1]) (rest := [.int 100, .int (va (Int32.toNatClampNeg p0))]) ⟨hx, hb, hml, hown, hw⟩ (m_lossOf l dC dI b gg mt mc mh mf md cI re lo p0 p1 s.heap.size (by omega) (by omega)) ⟨callB_of 2 hw (zz_good tw_225) rfl rfl rfl (hw _ tw_184) (hw _ tw_226) (by decide +kernel) ⟨Nat.le_of_ble_eq_true rfl, Nat.le_of_ble_eq_true rfl⟩, (hw _ tw_227), (hw _ tw_228)⟩ ⟨zz_blind, va_recv hKc hPc (ci := 8) (q0 := 0) rfl rfl, zz_pre hPc hKc hDc hN⟩ rfl rfl hl.1 rfl (lv_room (Nat.le_of_ble_eq_true rfl)) dX8_proceeds_11 ⟨Nat.le_of_ble_eq_true rfl, Nat.le_of_ble_eq_true rfl⟩) hS (fun q _ h => hFc q h) hFc (fun r_1 u_1 t H1 locs ht hvm e_1 hB hz1 hk1 hS => ?_)
  try dsimp only at e_1
  have hP := zz_keep hP hk1
  clear hk1 hB ht hvm
  generalize H1 = H at hP hS ⊢
  refine lv_isub hx hb dX8_proceeds_14 ?_
  refine lv_imul hx hb dX8_proceeds_15 ?_
  refine lv_bipush (v := 100) hx hb dX8_proceeds_16 (by decide) ?_
  refine lv_idiv hx hb dX8_proceeds_18 (by decide) ?_
  exact W.iret (v := (((va (Int32.toNatClampNeg p0)) * (100 - r_1)) / 100)) hx hb hr (fun t ht hW => ⟨⟨(((va (Int32.toNatClampNeg p0)) * (100 - r_1)) / 100), (), rfl, trivial, trivial⟩, hS.F ht⟩) hS.2.2 dX8_proceeds_19

set_option maxHeartbeats 4000000 in
set_option maxRecDepth 100000 in
theorem m_canWork (l : Launch) (dC : Nat → ClassId) (dI : Nat → Nat → Nat) (b : Nat → Nat) (gg : Nat → Int32) (mt : Nat) (mc : Nat) (mh : Nat) (mf : Nat) (md : Nat) (cI : ClassId) (re : Nat → Int32) (nee : Nat → Int32) (p0 : Int32) (p1 : Int32) (sz : Nat) (hmf : mf ≤ 12) (hmc : mc ≤ 400) : Met l yX8_canWork (zz_w yX8_canWork cX8_canWork 3 (some .boolean)) ({ frames := 2, cells := 0, slots := 0, locals := 46 }) (va_Pc [.ref (b 0), .int p0, .int p1] (zz_B (dC, dI) sz [(b 0, .inr (8, [.ref (b 1), .int (nI mt), .int (gg 2), .int (gg 3), .int (gg 4), .int (gg 5), .int (gg 6), .int (gg 7), .int (gg 8), .int (gg 9), .ref (b 11), .ref (b 12), .ref (b 13), .int (nI mc), .int (nI mh), .ref (b 16), .ref (b 17), .ref (b 18), .ref (b 19), .ref (b 20), .ref (b 21), .ref (b 22), .ref (b 23), .ref (b 24), .int (nI mf), .ref (b 26), .ref (b 27), .ref (b 28), .ref (b 29), .ref (b 30), .ref (b 31), .ref (b 32), .int (gg 32), .int (nI md), .ref (b 35), .ref (b 36), .ref (b 37), .ref (b 38), .ref (b 39), .ref (b 40), .int (gg 40), .ref (b 42), .ref (b 43), .ref (b 44), .int (gg 44), .ref (b 46), .ref (b 47), .int (gg 47), .ref (b 49)])), (b 29, .inl (cI, 12, .inl re)), (b 28, .inl (cI, 12, .inl nee))] [(cI, .int)])) (va_Qi (fun (r : Int32) (_ : Unit) => (((0 ≤ p0.toInt ∧ p0.toInt < (mf : Int)) ∧ 1 ≤ p1.toInt ∧ (re (Int32.toNatClampNeg p0)).toInt ≤ (mc : Int) ∧ p1.toInt ≤ (nee (Int32.toNatClampNeg p0)).toInt) ∧ r = 1) ∨ (True ∧ r = 0)) (fun _ _ => True) (va_A [] sz)) 0 0 (va_A [] sz) := by
  refine Met.ofW (cc := cX8_canWork) (maxL := 3) (ret := (some .boolean)) (by decide) rfl ?_
  intro p e s m args below meth c s₁ B hml hv
  obtain ⟨rfl, hsz, hP, hK, hD0, hN⟩ := hv
  have hx := B.exec
  have hb := B.bytes
  have hr := B.returns
  have hts := atoms_spec (ws := zz_w yX8_canWork cX8_canWork 3 (some .boolean)) B.pre
  have hw : ∀ w ∈ zz_all, w.before _ s = true := fun w h => hts w (List.mem_cons_of_mem _ h)
  have hown : s.vm.findClass RX8 = some m.cls := findClass_of_methodNamed B.named
  have hlocks := B.notSynchronized
  subst hsz
  have hD := hD0
  generalize hAe : va_A [] s.heap.size = A
  have hA : ∀ q : Nat, s.heap.size ≤ q → A q := fun q h => by rw [← hAe]; exact Or.inr h
  have hS : va_S A s.heap s.heap [] := va_S.rf
  have hP : va_P (dC, dI) vwCl [(b 0, .inr (8, [.ref (b 1), .int (nI mt), .int (gg 2), .int (gg 3), .int (gg 4), .int (gg 5), .int (gg 6), .int (gg 7), .int (gg 8), .int (gg 9), .ref (b 11), .ref (b 12), .ref (b 13), .int (nI mc), .int (nI mh), .ref (b 16), .ref (b 17), .ref (b 18), .ref (b 19), .ref (b 20), .ref (b 21), .ref (b 22), .ref (b 23), .ref (b 24), .int (nI mf), .ref (b 26), .ref (b 27), .ref (b 28), .ref (b 29), .ref (b 30), .ref (b 31), .ref (b 32), .int (gg 32), .int (nI md), .ref (b 35), .ref (b 36), .ref (b 37), .ref (b 38), .ref (b 39), .ref (b 40), .int (gg 40), .ref (b 42), .ref (b 43), .ref (b 44), .int (gg 44), .ref (b 46), .ref (b 47), .int (gg 47), .ref (b 49)])), (b 29, .inl (cI, 12, .inl re)), (b 28, .inl (cI, 12, .inl nee))] s.heap := hP
  have hl := lv_entry ([.ref (b 0), .int p0, .int p1]) (n := 3) (Nat.le_of_ble_eq_true rfl)
  rw [lg_entry_eq]
  generalize (lg_sl ([.ref (b 0), .int p0, .int p1]) ++ List.replicate (3 - (lg_sl ([.ref (b 0), .int p0, .int p1])).length) Slot.unset).toArray = ls at hl ⊢
  have hl : lv_has ls 3 [(0, .ref (b 0)), (1, .int p0), (2, .int p1)] := hl
  refine lv_aload_n hx hb dX8_canWork_0 rfl (lv_at hl 0 rfl) ?_
  refine lv_iload_n hx hb dX8_canWork_1 rfl (lv_at hl 1 rfl) ?_
  have hPc := hP.sub (ws' := [(b 0, .inr (8, [.ref (b 1), .int (nI mt), .int (gg 2), .int (gg 3), .int (gg 4), .int (gg 5), .int (gg 6), .int (gg 7), .int (gg 8), .int (gg 9), .ref (b 11), .ref (b 12), .ref (b 13), .int (nI mc), .int (nI mh), .ref (b 16), .ref (b 17), .ref (b 18), .ref (b 19), .ref (b 20), .ref (b 21), .ref (b 22), .ref (b 23), .ref (b 24), .int (nI mf), .ref (b 26), .ref (b 27), .ref (b 28), .ref (b 29), .ref (b 30), .ref (b 31), .ref (b 32), .int (gg 32), .int (nI md), .ref (b 35), .ref (b 36), .ref (b 37), .ref (b 38), .ref (b 39), .ref (b 40), .int (gg 40), .ref (b 42), .ref (b 43), .ref (b 44), .int (gg 44), .ref (b 46), .ref (b 47), .int (gg 47), .ref (b 49)]))]) [0] rfl
  have hDc := hD.sub (ws' := [(b 0, .inr (8, [.ref (b 1), .int (nI mt), .int (gg 2), .int (gg 3), .int (gg 4), .int (gg 5), .int (gg 6), .int (gg 7), .int (gg 8), .int (gg 9), .ref (b 11), .ref (b 12), .ref (b 13), .int (nI mc), .int (nI mh), .ref (b 16), .ref (b 17), .ref (b 18), .ref (b 19), .ref (b 20), .ref (b 21), .ref (b 22), .ref (b 23), .ref (b 24), .int (nI mf), .ref (b 26), .ref (b 27), .ref (b 28), .ref (b 29), .ref (b 30), .ref (b 31), .ref (b 32), .int (gg 32), .int (nI md), .ref (b 35), .ref (b 36), .ref (b 37), .ref (b 38), .ref (b 39), .ref (b 40), .int (gg 40), .ref (b 42), .ref (b 43), .ref (b 44), .int (gg 44), .ref (b 46), .ref (b 47), .int (gg 47), .ref (b 49)]))]) [0] (by decide) rfl
  have hKc := hK.sub (tys' := []) [] rfl
  have hFc := zz_free0 hS hA
  refine va_calli (va_runV (As := [.int p0]) (rest := []) ⟨hx, hb, hml, hown, hw⟩ (m_isField l dC dI b gg mt mc mh mf md p0 s.heap.size (by omega)) ⟨callB_of 1 hw (zz_good tw_229) rfl rfl rfl (hw _ tw_184) (hw _ tw_230) (by decide +kernel) ⟨Nat.le_of_ble_eq_true rfl, Nat.le_of_ble_eq_true rfl⟩, (hw _ tw_231), (hw _ tw_232)⟩ ⟨zz_blind, va_recv hKc hPc (ci := 8) (q0 := 0) rfl rfl, zz_pre hPc hKc hDc hN⟩ rfl rfl hl.1 rfl (lv_room (Nat.le_of_ble_eq_true rfl)) dX8_canWork_2 ⟨Nat.le_of_ble_eq_true rfl, Nat.le_of_ble_eq_true rfl⟩) hS (fun q _ h => hFc q h) hFc (fun r_1 u_1 t H1 locs ht hvm e_1 hB hz1 hk1 hS => ?_)
  try dsimp only at e_1
  have hP := zz_keep hP hk1
  clear hk1 hB ht hvm
  generalize H1 = H at hP hS ⊢
  rcases e_1 with ⟨n1_1, er_1⟩ | ⟨n1_1, er_1⟩
  · refine zz_seti 1 er_1 ?_
    refine lv_if_eq (tgt := 40) hx hb dX8_canWork_5 (by decide) (fun c_9 => absurd c_9 (by decide)) (fun _ => ?_)
    refine lv_iload_n hx hb dX8_canWork_8 rfl (lv_at hl 2 rfl) ?_
    refine lv_iconst (v := 1) hx hb dX8_canWork_9 (by decide) ?_
    refine lv_icmp_lt (tgt := 40) hx hb dX8_canWork_10 (by decide) (fun c_2 => ?_) (fun c_2 => ?_)
    · have zc_2 := c_2
      rw [Int32.lt_iff_toInt_lt] at zc_2
      try rw [show (1 : Int32).toInt = 1 from by decide] at zc_2
      refine lv_iconst (v := 0) hx hb dX8_canWork_40 (by decide) ?_
      exact W.zret (v := 0) hx hb hr (rfl) (fun t ht hW => ⟨⟨0, (), rfl, (by first | exact Or.inl ⟨by omega, rfl⟩ | exact Or.inr ⟨trivial, rfl⟩), trivial⟩, hS.F ht⟩) hS.2.2 dX8_canWork_41
    · have zc_2 := c_2
      rw [Int32.lt_iff_toInt_lt] at zc_2
      try rw [show (1 : Int32).toInt = 1 from by decide] at zc_2
      refine lv_aload_n hx hb dX8_canWork_13 rfl (lv_at hl 0 rfl) ?_
      refine va_get (D := (dC, dI)) (ci := 8) (v := .ref (b 29)) (C := RX8) (T := TX8) (N := 49) hx hb hw zz_inX8 hown hK hP 0 rfl rfl 28 (by decide) (hw _ tw_223) (fun _ h9 => h9) rfl dX8_canWork_14 ?_
      refine lv_iload_n hx hb dX8_canWork_17 rfl (lv_at hl 1 rfl) ?_
      refine va_iald hx hb hK hP 1 0 rfl rfl (vp_in_iff.mpr (by constructor <;> omega)) dX8_canWork_18 ?_
      refine lv_aload_n hx hb dX8_canWork_19 rfl (lv_at hl 0 rfl) ?_
      refine va_get (D := (dC, dI)) (ci := 8) (v := .int (nI mc)) (C := RX8) (T := TX8) (N := 49) hx hb hw zz_inX8 hown hK hP 0 rfl rfl 13 (by decide) (hw _ tw_219) (fun _ h9 => h9) rfl dX8_canWork_20 ?_
      refine lv_icmp_gt (tgt := 40) hx hb dX8_canWork_23 (by decide) (fun c_3 => ?_) (fun c_3 => ?_)
      · have zc_3 := c_3
        rw [Int32.lt_iff_toInt_lt] at zc_3
        try rw [zz_toInt mc (by omega)] at zc_3
        refine lv_iconst (v := 0) hx hb dX8_canWork_40 (by decide) ?_
        exact W.zret (v := 0) hx hb hr (rfl) (fun t ht hW => ⟨⟨0, (), rfl, (by first | exact Or.inl ⟨by omega, rfl⟩ | exact Or.inr ⟨trivial, rfl⟩), trivial⟩, hS.F ht⟩) hS.2.2 dX8_canWork_41
      · have zc_3 := c_3
        rw [Int32.lt_iff_toInt_lt] at zc_3
        try rw [zz_toInt mc (by omega)] at zc_3
        refine lv_iload_n hx hb dX8_canWork_26 rfl (lv_at hl 2 rfl) ?_
        refine lv_aload_n hx hb dX8_canWork_27 rfl (lv_at hl 0 rfl) ?_
        refine va_get (D := (dC, dI)) (ci := 8) (v := .ref (b 28)) (C := RX8) (T := TX8) (N := 49) hx hb hw zz_inX8 hown hK hP 0 rfl rfl 27 (by decide) (hw _ tw_233) (fun _ h9 => h9) rfl dX8_canWork_28 ?_
        refine lv_iload_n hx hb dX8_canWork_31 rfl (lv_at hl 1 rfl) ?_
        refine va_iald hx hb hK hP 2 0 rfl rfl (vp_in_iff.mpr (by constructor <;> omega)) dX8_canWork_32 ?_
        refine lv_icmp_gt (tgt := 40) hx hb dX8_canWork_33 (by decide) (fun c_4 => ?_) (fun c_4 => ?_)
        · have zc_4 := c_4
          rw [Int32.lt_iff_toInt_lt] at zc_4
          refine lv_iconst (v := 0) hx hb dX8_canWork_40 (by decide) ?_
          exact W.zret (v := 0) hx hb hr (rfl) (fun t ht hW => ⟨⟨0, (), rfl, (by first | exact Or.inl ⟨by omega, rfl⟩ | exact Or.inr ⟨trivial, rfl⟩), trivial⟩, hS.F ht⟩) hS.2.2 dX8_canWork_41
        · have zc_4 := c_4
          rw [Int32.lt_iff_toInt_lt] at zc_4
          refine lv_iconst (v := 1) hx hb dX8_canWork_36 (by decide) ?_
          refine lv_goto (tgt := 41) hx hb dX8_canWork_37 (by decide) ?_
          exact W.zret (v := 1) hx hb hr (rfl) (fun t ht hW => ⟨⟨1, (), rfl, (by first | exact Or.inl ⟨by omega, rfl⟩ | exact Or.inr ⟨trivial, rfl⟩), trivial⟩, hS.F ht⟩) hS.2.2 dX8_canWork_41
  · refine zz_seti 0 er_1 ?_
    refine lv_if_eq (tgt := 40) hx hb dX8_canWork_5 (by decide) (fun _ => ?_) (fun c_9 => absurd c_9 (by decide))
    refine lv_iconst (v := 0) hx hb dX8_canWork_40 (by decide) ?_
    exact W.zret (v := 0) hx hb hr (rfl) (fun t ht hW => ⟨⟨0, (), rfl, (by first | exact Or.inl ⟨by omega, rfl⟩ | exact Or.inr ⟨trivial, rfl⟩), trivial⟩, hS.F ht⟩) hS.2.2 dX8_canWork_41

set_option maxHeartbeats 4000000 in
set_option maxRecDepth 100000 in
theorem m_worked (l : Launch) (dC : Nat → ClassId) (dI : Nat → Nat → Nat) (b : Nat → Nat) (gg : Nat → Int32) (mt : Nat) (mc : Nat) (mh : Nat) (mf : Nat) (md : Nat) (cI : ClassId) (re : Nat → Int32) (lo : Nat → Int32) (va : Nat → Int32) (nee : Nat → Int32) (dn : Nat → Int32) (gt : Nat → Int32) (p0 : Int32) (p1 : Int32) (sz : Nat) (hmc : mc ≤ 400) (hmf : mf ≤ 12) (hpf : 0 ≤ p0.toInt ∧ p0.toInt < (mf : Int)) (hrn : zz_rg nee mf 0 60) (hdn : zz_dn dn nee mf) (hwk : 1 ≤ p1.toInt ∧ p1.toInt ≤ (nee (Int32.toNatClampNeg p0)).toInt) (hre : 0 ≤ (re (Int32.toNatClampNeg p0)).toInt ∧ (re (Int32.toNatClampNeg p0)).toInt ≤ (mc : Int)) : Met l yX8_worked (zz_w yX8_worked cX8_worked 3 (some .int)) ({ frames := 2, cells := 0, slots := 0, locals := 45 }) (va_Pc [.ref (b 0), .int p0, .int p1] (zz_B (dC, dI) sz [(b 0, .inr (8, [.ref (b 1), .int (nI mt), .int (gg 2), .int (gg 3), .int (gg 4), .int (gg 5), .int (gg 6), .int (gg 7), .int (gg 8), .int (gg 9), .ref (b 11), .ref (b 12), .ref (b 13), .int (nI mc), .int (nI mh), .ref (b 16), .ref (b 17), .ref (b 18), .ref (b 19), .ref (b 20), .ref (b 21), .ref (b 22), .ref (b 23), .ref (b 24), .int (nI mf), .ref (b 26), .ref (b 27), .ref (b 28), .ref (b 29), .ref (b 30), .ref (b 31), .ref (b 32), .int (gg 32), .int (nI md), .ref (b 35), .ref (b 36), .ref (b 37), .ref (b 38), .ref (b 39), .ref (b 40), .int (gg 40), .ref (b 42), .ref (b 43), .ref (b 44), .int (gg 44), .ref (b 46), .ref (b 47), .int (gg 47), .ref (b 49)])), (b 29, .inl (cI, 12, .inl re)), (b 24, .inl (cI, 10, .inl lo)), (b 30, .inl (cI, 12, .inl va)), (b 28, .inl (cI, 12, .inl nee)), (b 31, .inl (cI, 12, .inl dn)), (b 32, .inl (cI, 12, .inl gt))] [(cI, .int)])) (va_Qi (fun (_ : Int32) (u : (Nat → Int32) × (Nat → Int32) × (Nat → Int32)) => match u with | (n2, d2, _) => zz_rg n2 mf 0 60 ∧ zz_dn d2 n2 mf) (fun (u : (Nat → Int32) × (Nat → Int32) × (Nat → Int32)) (t : State) => match u with | (u0, u1, u2) => va_P (dC, dI) vwCl [(b 0, .inr (8, [.ref (b 1), .int (nI mt), .int (gg 2), .int (gg 3), .int (gg 4), .int (gg 5), .int (gg 6), .int (gg 7), .int (gg 8), .int (gg 9), .ref (b 11), .ref (b 12), .ref (b 13), .int (nI mc), .int (nI mh), .ref (b 16), .ref (b 17), .ref (b 18), .ref (b 19), .ref (b 20), .ref (b 21), .ref (b 22), .ref (b 23), .ref (b 24), .int (nI mf), .ref (b 26), .ref (b 27), .ref (b 28), .ref (b 29), .ref (b 30), .ref (b 31), .ref (b 32), .int (gg 32), .int (nI md), .ref (b 35), .ref (b 36), .ref (b 37), .ref (b 38), .ref (b 39), .ref (b 40), .int (gg 40), .ref (b 42), .ref (b 43), .ref (b 44), .int (gg 44), .ref (b 46), .ref (b 47), .int (gg 47), .ref (b 49)])), (b 29, .inl (cI, 12, .inl re)), (b 24, .inl (cI, 10, .inl lo)), (b 30, .inl (cI, 12, .inl va)), (b 28, .inl (cI, 12, .inl u0)), (b 31, .inl (cI, 12, .inl u1)), (b 32, .inl (cI, 12, .inl u2))] t.heap ∧ va_K (dC, dI) vwCl [(cI, .int)] t ∧ va_D (va_A [(b 0, .inr (8, [.ref (b 1), .int (nI mt), .int (gg 2), .int (gg 3), .int (gg 4), .int (gg 5), .int (gg 6), .int (gg 7), .int (gg 8), .int (gg 9), .ref (b 11), .ref (b 12), .ref (b 13), .int (nI mc), .int (nI mh), .ref (b 16), .ref (b 17), .ref (b 18), .ref (b 19), .ref (b 20), .ref (b 21), .ref (b 22), .ref (b 23), .ref (b 24), .int (nI mf), .ref (b 26), .ref (b 27), .ref (b 28), .ref (b 29), .ref (b 30), .ref (b 31), .ref (b 32), .int (gg 32), .int (nI md), .ref (b 35), .ref (b 36), .ref (b 37), .ref (b 38), .ref (b 39), .ref (b 40), .int (gg 40), .ref (b 42), .ref (b 43), .ref (b 44), .int (gg 44), .ref (b 46), .ref (b 47), .int (gg 47), .ref (b 49)])), (b 29, .inl (cI, 12, .inl re)), (b 24, .inl (cI, 10, .inl lo)), (b 30, .inl (cI, 12, .inl va)), (b 28, .inl (cI, 12, .inl nee)), (b 31, .inl (cI, 12, .inl dn)), (b 32, .inl (cI, 12, .inl gt))] sz) [(b 0, .inr (8, [.ref (b 1), .int (nI mt), .int (gg 2), .int (gg 3), .int (gg 4), .int (gg 5), .int (gg 6), .int (gg 7), .int (gg 8), .int (gg 9), .ref (b 11), .ref (b 12), .ref (b 13), .int (nI mc), .int (nI mh), .ref (b 16), .ref (b 17), .ref (b 18), .ref (b 19), .ref (b 20), .ref (b 21), .ref (b 22), .ref (b 23), .ref (b 24), .int (nI mf), .ref (b 26), .ref (b 27), .ref (b 28), .ref (b 29), .ref (b 30), .ref (b 31), .ref (b 32), .int (gg 32), .int (nI md), .ref (b 35), .ref (b 36), .ref (b 37), .ref (b 38), .ref (b 39), .ref (b 40), .int (gg 40), .ref (b 42), .ref (b 43), .ref (b 44), .int (gg 44), .ref (b 46), .ref (b 47), .int (gg 47), .ref (b 49)])), (b 29, .inl (cI, 12, .inl re)), (b 24, .inl (cI, 10, .inl lo)), (b 30, .inl (cI, 12, .inl va)), (b 28, .inl (cI, 12, .inl u0)), (b 31, .inl (cI, 12, .inl u1)), (b 32, .inl (cI, 12, .inl u2))]) (va_A [(b 0, .inr (8, [.ref (b 1), .int (nI mt), .int (gg 2), .int (gg 3), .int (gg 4), .int (gg 5), .int (gg 6), .int (gg 7), .int (gg 8), .int (gg 9), .ref (b 11), .ref (b 12), .ref (b 13), .int (nI mc), .int (nI mh), .ref (b 16), .ref (b 17), .ref (b 18), .ref (b 19), .ref (b 20), .ref (b 21), .ref (b 22), .ref (b 23), .ref (b 24), .int (nI mf), .ref (b 26), .ref (b 27), .ref (b 28), .ref (b 29), .ref (b 30), .ref (b 31), .ref (b 32), .int (gg 32), .int (nI md), .ref (b 35), .ref (b 36), .ref (b 37), .ref (b 38), .ref (b 39), .ref (b 40), .int (gg 40), .ref (b 42), .ref (b 43), .ref (b 44), .int (gg 44), .ref (b 46), .ref (b 47), .int (gg 47), .ref (b 49)])), (b 29, .inl (cI, 12, .inl re)), (b 24, .inl (cI, 10, .inl lo)), (b 30, .inl (cI, 12, .inl va)), (b 28, .inl (cI, 12, .inl nee)), (b 31, .inl (cI, 12, .inl dn)), (b 32, .inl (cI, 12, .inl gt))] sz)) 0 0 (va_A [(b 0, .inr (8, [.ref (b 1), .int (nI mt), .int (gg 2), .int (gg 3), .int (gg 4), .int (gg 5), .int (gg 6), .int (gg 7), .int (gg 8), .int (gg 9), .ref (b 11), .ref (b 12), .ref (b 13), .int (nI mc), .int (nI mh), .ref (b 16), .ref (b 17), .ref (b 18), .ref (b 19), .ref (b 20), .ref (b 21), .ref (b 22), .ref (b 23), .ref (b 24), .int (nI mf), .ref (b 26), .ref (b 27), .ref (b 28), .ref (b 29), .ref (b 30), .ref (b 31), .ref (b 32), .int (gg 32), .int (nI md), .ref (b 35), .ref (b 36), .ref (b 37), .ref (b 38), .ref (b 39), .ref (b 40), .int (gg 40), .ref (b 42), .ref (b 43), .ref (b 44), .int (gg 44), .ref (b 46), .ref (b 47), .int (gg 47), .ref (b 49)])), (b 29, .inl (cI, 12, .inl re)), (b 24, .inl (cI, 10, .inl lo)), (b 30, .inl (cI, 12, .inl va)), (b 28, .inl (cI, 12, .inl nee)), (b 31, .inl (cI, 12, .inl dn)), (b 32, .inl (cI, 12, .inl gt))] sz) := by
  refine Met.ofW (cc := cX8_worked) (maxL := 3) (ret := (some .int)) (by decide) rfl ?_
  intro p e s m args below meth c s₁ B hml hv
  obtain ⟨rfl, hsz, hP, hK, hD0, hN⟩ := hv
  have hx := B.exec
  have hb := B.bytes
  have hr := B.returns
  have hts := atoms_spec (ws := zz_w yX8_worked cX8_worked 3 (some .int)) B.pre
  have hw : ∀ w ∈ zz_all, w.before _ s = true := fun w h => hts w (List.mem_cons_of_mem _ h)
  have hown : s.vm.findClass RX8 = some m.cls := findClass_of_methodNamed B.named
  have hlocks := B.notSynchronized
  subst hsz
  have hD := hD0.self (sz := s.heap.size)
  generalize hAe : va_A [(b 0, .inr (8, [.ref (b 1), .int (nI mt), .int (gg 2), .int (gg 3), .int (gg 4), .int (gg 5), .int (gg 6), .int (gg 7), .int (gg 8), .int (gg 9), .ref (b 11), .ref (b 12), .ref (b 13), .int (nI mc), .int (nI mh), .ref (b 16), .ref (b 17), .ref (b 18), .ref (b 19), .ref (b 20), .ref (b 21), .ref (b 22), .ref (b 23), .ref (b 24), .int (nI mf), .ref (b 26), .ref (b 27), .ref (b 28), .ref (b 29), .ref (b 30), .ref (b 31), .ref (b 32), .int (gg 32), .int (nI md), .ref (b 35), .ref (b 36), .ref (b 37), .ref (b 38), .ref (b 39), .ref (b 40), .int (gg 40), .ref (b 42), .ref (b 43), .ref (b 44), .int (gg 44), .ref (b 46), .ref (b 47), .int (gg 47), .ref (b 49)])), (b 29, .inl (cI, 12, .inl re)), (b 24, .inl (cI, 10, .inl lo)), (b 30, .inl (cI, 12, .inl va)), (b 28, .inl (cI, 12, .inl nee)), (b 31, .inl (cI, 12, .inl dn)), (b 32, .inl (cI, 12, .inl gt))] s.heap.size = A at hD ⊢
  have hA : ∀ q : Nat, s.heap.size ≤ q → A q := fun q h => by rw [← hAe]; exact Or.inr h
  have hS : va_S A s.heap s.heap [] := va_S.rf
  have hP : va_P (dC, dI) vwCl [(b 0, .inr (8, [.ref (b 1), .int (nI mt), .int (gg 2), .int (gg 3), .int (gg 4), .int (gg 5), .int (gg 6), .int (gg 7), .int (gg 8), .int (gg 9), .ref (b 11), .ref (b 12), .ref (b 13), .int (nI mc), .int (nI mh), .ref (b 16), .ref (b 17), .ref (b 18), .ref (b 19), .ref (b 20), .ref (b 21), .ref (b 22), .ref (b 23), .ref (b 24), .int (nI mf), .ref (b 26), .ref (b 27), .ref (b 28), .ref (b 29), .ref (b 30), .ref (b 31), .ref (b 32), .int (gg 32), .int (nI md), .ref (b 35), .ref (b 36), .ref (b 37), .ref (b 38), .ref (b 39), .ref (b 40), .int (gg 40), .ref (b 42), .ref (b 43), .ref (b 44), .int (gg 44), .ref (b 46), .ref (b 47), .int (gg 47), .ref (b 49)])), (b 29, .inl (cI, 12, .inl re)), (b 24, .inl (cI, 10, .inl lo)), (b 30, .inl (cI, 12, .inl va)), (b 28, .inl (cI, 12, .inl nee)), (b 31, .inl (cI, 12, .inl dn)), (b 32, .inl (cI, 12, .inl gt))] s.heap := hP
  have hl := lv_entry ([.ref (b 0), .int p0, .int p1]) (n := 3) (Nat.le_of_ble_eq_true rfl)
  rw [lg_entry_eq]
  generalize (lg_sl ([.ref (b 0), .int p0, .int p1]) ++ List.replicate (3 - (lg_sl ([.ref (b 0), .int p0, .int p1])).length) Slot.unset).toArray = ls at hl ⊢
  have hl : lv_has ls 3 [(0, .ref (b 0)), (1, .int p0), (2, .int p1)] := hl
  refine lv_aload_n hx hb dX8_worked_0 rfl (lv_at hl 0 rfl) ?_
  refine va_get (D := (dC, dI)) (ci := 8) (v := .ref (b 28)) (C := RX8) (T := TX8) (N := 49) hx hb hw zz_inX8 hown hK hP 0 rfl rfl 27 (by decide) (hw _ tw_233) (fun _ h9 => h9) rfl dX8_worked_1 ?_
  refine lv_iload_n hx hb dX8_worked_4 rfl (lv_at hl 1 rfl) ?_
  refine lv_dup2_11 hx hb dX8_worked_5 rfl rfl ?_
  refine va_iald hx hb hK hP 4 0 rfl rfl (vp_in_iff.mpr (by constructor <;> omega)) dX8_worked_6 ?_
  refine lv_iload_n hx hb dX8_worked_7 rfl (lv_at hl 2 rfl) ?_
  refine lv_isub hx hb dX8_worked_8 ?_
  refine va_iast hx hb hK hP hD hS 4 0 rfl rfl (vp_in_iff.mpr (by constructor <;> omega)) dX8_worked_9 (fun H locs hP hD hS => ?_)
  have hP : va_P (dC, dI) vwCl [(b 0, .inr (8, [.ref (b 1), .int (nI mt), .int (gg 2), .int (gg 3), .int (gg 4), .int (gg 5), .int (gg 6), .int (gg 7), .int (gg 8), .int (gg 9), .ref (b 11), .ref (b 12), .ref (b 13), .int (nI mc), .int (nI mh), .ref (b 16), .ref (b 17), .ref (b 18), .ref (b 19), .ref (b 20), .ref (b 21), .ref (b 22), .ref (b 23), .ref (b 24), .int (nI mf), .ref (b 26), .ref (b 27), .ref (b 28), .ref (b 29), .ref (b 30), .ref (b 31), .ref (b 32), .int (gg 32), .int (nI md), .ref (b 35), .ref (b 36), .ref (b 37), .ref (b 38), .ref (b 39), .ref (b 40), .int (gg 40), .ref (b 42), .ref (b 43), .ref (b 44), .int (gg 44), .ref (b 46), .ref (b 47), .int (gg 47), .ref (b 49)])), (b 29, .inl (cI, 12, .inl re)), (b 24, .inl (cI, 10, .inl lo)), (b 30, .inl (cI, 12, .inl va)), (b 28, .inl (cI, 12, .inl (upd nee (Int32.toNatClampNeg p0) ((nee (Int32.toNatClampNeg p0)) - p1)))), (b 31, .inl (cI, 12, .inl dn)), (b 32, .inl (cI, 12, .inl gt))] H := hP
  have hD : va_D A [(b 0, .inr (8, [.ref (b 1), .int (nI mt), .int (gg 2), .int (gg 3), .int (gg 4), .int (gg 5), .int (gg 6), .int (gg 7), .int (gg 8), .int (gg 9), .ref (b 11), .ref (b 12), .ref (b 13), .int (nI mc), .int (nI mh), .ref (b 16), .ref (b 17), .ref (b 18), .ref (b 19), .ref (b 20), .ref (b 21), .ref (b 22), .ref (b 23), .ref (b 24), .int (nI mf), .ref (b 26), .ref (b 27), .ref (b 28), .ref (b 29), .ref (b 30), .ref (b 31), .ref (b 32), .int (gg 32), .int (nI md), .ref (b 35), .ref (b 36), .ref (b 37), .ref (b 38), .ref (b 39), .ref (b 40), .int (gg 40), .ref (b 42), .ref (b 43), .ref (b 44), .int (gg 44), .ref (b 46), .ref (b 47), .int (gg 47), .ref (b 49)])), (b 29, .inl (cI, 12, .inl re)), (b 24, .inl (cI, 10, .inl lo)), (b 30, .inl (cI, 12, .inl va)), (b 28, .inl (cI, 12, .inl (upd nee (Int32.toNatClampNeg p0) ((nee (Int32.toNatClampNeg p0)) - p1)))), (b 31, .inl (cI, 12, .inl dn)), (b 32, .inl (cI, 12, .inl gt))] := hD
  refine lv_aload_n hx hb dX8_worked_10 rfl (lv_at hl 0 rfl) ?_
  refine va_get (D := (dC, dI)) (ci := 8) (v := .ref (b 28)) (C := RX8) (T := TX8) (N := 49) hx hb hw zz_inX8 hown hK hP 0 rfl rfl 27 (by decide) (hw _ tw_233) (fun _ h9 => h9) rfl dX8_worked_11 ?_
  refine lv_iload_n hx hb dX8_worked_14 rfl (lv_at hl 1 rfl) ?_
  refine va_iald hx hb hK hP 4 0 rfl rfl (vp_in_iff.mpr (by constructor <;> omega)) dX8_worked_15 ?_
  refine lv_if_ne (tgt := 44) hx hb dX8_worked_16 (by decide) (fun c_1 => ?_) (fun c_1 => ?_)
  · have zc_1 := c_1
    rw [← Int32.toInt_inj] at zc_1
    try rw [show (0 : Int32).toInt = 0 from by decide] at zc_1
    refine lv_aload_n hx hb dX8_worked_44 rfl (lv_at hl 0 rfl) ?_
    refine va_get (D := (dC, dI)) (ci := 8) (v := .ref (b 28)) (C := RX8) (T := TX8) (N := 49) hx hb hw zz_inX8 hown hK hP 0 rfl rfl 27 (by decide) (hw _ tw_233) (fun _ h9 => h9) rfl dX8_worked_45 ?_
    refine lv_iload_n hx hb dX8_worked_48 rfl (lv_at hl 1 rfl) ?_
    refine va_iald hx hb hK hP 4 0 rfl rfl (vp_in_iff.mpr (by constructor <;> omega)) dX8_worked_49 ?_
    have hP9 := hP.sub (ws' := [(b 0, .inr (8, [.ref (b 1), .int (nI mt), .int (gg 2), .int (gg 3), .int (gg 4), .int (gg 5), .int (gg 6), .int (gg 7), .int (gg 8), .int (gg 9), .ref (b 11), .ref (b 12), .ref (b 13), .int (nI mc), .int (nI mh), .ref (b 16), .ref (b 17), .ref (b 18), .ref (b 19), .ref (b 20), .ref (b 21), .ref (b 22), .ref (b 23), .ref (b 24), .int (nI mf), .ref (b 26), .ref (b 27), .ref (b 28), .ref (b 29), .ref (b 30), .ref (b 31), .ref (b 32), .int (gg 32), .int (nI md), .ref (b 35), .ref (b 36), .ref (b 37), .ref (b 38), .ref (b 39), .ref (b 40), .int (gg 40), .ref (b 42), .ref (b 43), .ref (b 44), .int (gg 44), .ref (b 46), .ref (b 47), .int (gg 47), .ref (b 49)])), (b 29, .inl (cI, 12, .inl re)), (b 24, .inl (cI, 10, .inl lo)), (b 30, .inl (cI, 12, .inl va)), (b 28, .inl (cI, 12, .inl (upd nee (Int32.toNatClampNeg p0) ((nee (Int32.toNatClampNeg p0)) - p1)))), (b 31, .inl (cI, 12, .inl dn)), (b 32, .inl (cI, 12, .inl gt))]) [0, 1, 2, 3, 4, 5, 6] rfl
    have hD9 := hD.sub (ws' := [(b 0, .inr (8, [.ref (b 1), .int (nI mt), .int (gg 2), .int (gg 3), .int (gg 4), .int (gg 5), .int (gg 6), .int (gg 7), .int (gg 8), .int (gg 9), .ref (b 11), .ref (b 12), .ref (b 13), .int (nI mc), .int (nI mh), .ref (b 16), .ref (b 17), .ref (b 18), .ref (b 19), .ref (b 20), .ref (b 21), .ref (b 22), .ref (b 23), .ref (b 24), .int (nI mf), .ref (b 26), .ref (b 27), .ref (b 28), .ref (b 29), .ref (b 30), .ref (b 31), .ref (b 32), .int (gg 32), .int (nI md), .ref (b 35), .ref (b 36), .ref (b 37), .ref (b 38), .ref (b 39), .ref (b 40), .int (gg 40), .ref (b 42), .ref (b 43), .ref (b 44), .int (gg 44), .ref (b 46), .ref (b 47), .int (gg 47), .ref (b 49)])), (b 29, .inl (cI, 12, .inl re)), (b 24, .inl (cI, 10, .inl lo)), (b 30, .inl (cI, 12, .inl va)), (b 28, .inl (cI, 12, .inl (upd nee (Int32.toNatClampNeg p0) ((nee (Int32.toNatClampNeg p0)) - p1)))), (b 31, .inl (cI, 12, .inl dn)), (b 32, .inl (cI, 12, .inl gt))]) [0, 1, 2, 3, 4, 5, 6] (by decide) rfl
    have hK9 := hK.sub (tys' := [(cI, .int)]) [0] rfl
    exact W.iret (v := ((upd nee (Int32.toNatClampNeg p0) ((nee (Int32.toNatClampNeg p0)) - p1)) (Int32.toNatClampNeg p0))) hx hb hr (fun t ht hW => ⟨⟨((upd nee (Int32.toNatClampNeg p0) ((nee (Int32.toNatClampNeg p0)) - p1)) (Int32.toNatClampNeg p0)), ((upd nee (Int32.toNatClampNeg p0) ((nee (Int32.toNatClampNeg p0)) - p1)), dn, gt), rfl, ⟨(zz_rg_sub hrn (zz_lt hpf (Nat.le_refl _) (by omega)) (by omega) (by omega)), (zz_dn_1 hdn (by rw [zz_subI (by omega) (by omega)]; omega) c_1)⟩, by rw [ht]; exact hP9, va_K.moved hW.alike hK9, hD9⟩, hS.F ht⟩) hS.2.2 dX8_worked_50
  · have zc_1 := c_1
    rw [← Int32.toInt_inj] at zc_1
    try rw [show (0 : Int32).toInt = 0 from by decide] at zc_1
    refine lv_aload_n hx hb dX8_worked_19 rfl (lv_at hl 0 rfl) ?_
    refine va_get (D := (dC, dI)) (ci := 8) (v := .ref (b 31)) (C := RX8) (T := TX8) (N := 49) hx hb hw zz_inX8 hown hK hP 0 rfl rfl 30 (by decide) (hw _ tw_234) (fun _ h9 => h9) rfl dX8_worked_20 ?_
    refine lv_iload_n hx hb dX8_worked_23 rfl (lv_at hl 1 rfl) ?_
    refine lv_aload_n hx hb dX8_worked_24 rfl (lv_at hl 0 rfl) ?_
    refine va_get (D := (dC, dI)) (ci := 8) (v := .int (nI mc)) (C := RX8) (T := TX8) (N := 49) hx hb hw zz_inX8 hown hK hP 0 rfl rfl 13 (by decide) (hw _ tw_219) (fun _ h9 => h9) rfl dX8_worked_25 ?_
    refine va_iast hx hb hK hP hD hS 5 0 rfl rfl (vp_in_iff.mpr (by constructor <;> omega)) dX8_worked_28 (fun H locs hP hD hS => ?_)
    have hP : va_P (dC, dI) vwCl [(b 0, .inr (8, [.ref (b 1), .int (nI mt), .int (gg 2), .int (gg 3), .int (gg 4), .int (gg 5), .int (gg 6), .int (gg 7), .int (gg 8), .int (gg 9), .ref (b 11), .ref (b 12), .ref (b 13), .int (nI mc), .int (nI mh), .ref (b 16), .ref (b 17), .ref (b 18), .ref (b 19), .ref (b 20), .ref (b 21), .ref (b 22), .ref (b 23), .ref (b 24), .int (nI mf), .ref (b 26), .ref (b 27), .ref (b 28), .ref (b 29), .ref (b 30), .ref (b 31), .ref (b 32), .int (gg 32), .int (nI md), .ref (b 35), .ref (b 36), .ref (b 37), .ref (b 38), .ref (b 39), .ref (b 40), .int (gg 40), .ref (b 42), .ref (b 43), .ref (b 44), .int (gg 44), .ref (b 46), .ref (b 47), .int (gg 47), .ref (b 49)])), (b 29, .inl (cI, 12, .inl re)), (b 24, .inl (cI, 10, .inl lo)), (b 30, .inl (cI, 12, .inl va)), (b 28, .inl (cI, 12, .inl (upd nee (Int32.toNatClampNeg p0) ((nee (Int32.toNatClampNeg p0)) - p1)))), (b 31, .inl (cI, 12, .inl (upd dn (Int32.toNatClampNeg p0) (nI mc)))), (b 32, .inl (cI, 12, .inl gt))] H := hP
    have hD : va_D A [(b 0, .inr (8, [.ref (b 1), .int (nI mt), .int (gg 2), .int (gg 3), .int (gg 4), .int (gg 5), .int (gg 6), .int (gg 7), .int (gg 8), .int (gg 9), .ref (b 11), .ref (b 12), .ref (b 13), .int (nI mc), .int (nI mh), .ref (b 16), .ref (b 17), .ref (b 18), .ref (b 19), .ref (b 20), .ref (b 21), .ref (b 22), .ref (b 23), .ref (b 24), .int (nI mf), .ref (b 26), .ref (b 27), .ref (b 28), .ref (b 29), .ref (b 30), .ref (b 31), .ref (b 32), .int (gg 32), .int (nI md), .ref (b 35), .ref (b 36), .ref (b 37), .ref (b 38), .ref (b 39), .ref (b 40), .int (gg 40), .ref (b 42), .ref (b 43), .ref (b 44), .int (gg 44), .ref (b 46), .ref (b 47), .int (gg 47), .ref (b 49)])), (b 29, .inl (cI, 12, .inl re)), (b 24, .inl (cI, 10, .inl lo)), (b 30, .inl (cI, 12, .inl va)), (b 28, .inl (cI, 12, .inl (upd nee (Int32.toNatClampNeg p0) ((nee (Int32.toNatClampNeg p0)) - p1)))), (b 31, .inl (cI, 12, .inl (upd dn (Int32.toNatClampNeg p0) (nI mc)))), (b 32, .inl (cI, 12, .inl gt))] := hD
    refine lv_aload_n hx hb dX8_worked_29 rfl (lv_at hl 0 rfl) ?_
    refine va_get (D := (dC, dI)) (ci := 8) (v := .ref (b 32)) (C := RX8) (T := TX8) (N := 49) hx hb hw zz_inX8 hown hK hP 0 rfl rfl 31 (by decide) (hw _ tw_235) (fun _ h9 => h9) rfl dX8_worked_30 ?_
    refine lv_iload_n hx hb dX8_worked_33 rfl (lv_at hl 1 rfl) ?_
    refine lv_aload_n hx hb dX8_worked_34 rfl (lv_at hl 0 rfl) ?_
    refine lv_iload_n hx hb dX8_worked_35 rfl (lv_at hl 1 rfl) ?_
    refine lv_aload_n hx hb dX8_worked_36 rfl (lv_at hl 0 rfl) ?_
    refine va_get (D := (dC, dI)) (ci := 8) (v := .int (nI mc)) (C := RX8) (T := TX8) (N := 49) hx hb hw zz_inX8 hown hK hP 0 rfl rfl 13 (by decide) (hw _ tw_219) (fun _ h9 => h9) rfl dX8_worked_37 ?_
    have hPc := hP.sub (ws' := [(b 0, .inr (8, [.ref (b 1), .int (nI mt), .int (gg 2), .int (gg 3), .int (gg 4), .int (gg 5), .int (gg 6), .int (gg 7), .int (gg 8), .int (gg 9), .ref (b 11), .ref (b 12), .ref (b 13), .int (nI mc), .int (nI mh), .ref (b 16), .ref (b 17), .ref (b 18), .ref (b 19), .ref (b 20), .ref (b 21), .ref (b 22), .ref (b 23), .ref (b 24), .int (nI mf), .ref (b 26), .ref (b 27), .ref (b 28), .ref (b 29), .ref (b 30), .ref (b 31), .ref (b 32), .int (gg 32), .int (nI md), .ref (b 35), .ref (b 36), .ref (b 37), .ref (b 38), .ref (b 39), .ref (b 40), .int (gg 40), .ref (b 42), .ref (b 43), .ref (b 44), .int (gg 44), .ref (b 46), .ref (b 47), .int (gg 47), .ref (b 49)])), (b 29, .inl (cI, 12, .inl re)), (b 24, .inl (cI, 10, .inl lo)), (b 30, .inl (cI, 12, .inl va))]) [0, 1, 2, 3] rfl
    have hDc := hD.sub (ws' := [(b 0, .inr (8, [.ref (b 1), .int (nI mt), .int (gg 2), .int (gg 3), .int (gg 4), .int (gg 5), .int (gg 6), .int (gg 7), .int (gg 8), .int (gg 9), .ref (b 11), .ref (b 12), .ref (b 13), .int (nI mc), .int (nI mh), .ref (b 16), .ref (b 17), .ref (b 18), .ref (b 19), .ref (b 20), .ref (b 21), .ref (b 22), .ref (b 23), .ref (b 24), .int (nI mf), .ref (b 26), .ref (b 27), .ref (b 28), .ref (b 29), .ref (b 30), .ref (b 31), .ref (b 32), .int (gg 32), .int (nI md), .ref (b 35), .ref (b 36), .ref (b 37), .ref (b 38), .ref (b 39), .ref (b 40), .int (gg 40), .ref (b 42), .ref (b 43), .ref (b 44), .int (gg 44), .ref (b 46), .ref (b 47), .int (gg 47), .ref (b 49)])), (b 29, .inl (cI, 12, .inl re)), (b 24, .inl (cI, 10, .inl lo)), (b 30, .inl (cI, 12, .inl va))]) [0, 1, 2, 3] (by decide) rfl
    have hKc := hK.sub (tys' := [(cI, .int)]) [0] rfl
    have hFc := zz_free0 hS hA
    refine va_calli (va_runV (As := [.int p0, .int (nI mc)]) (rest := [.int p0, .ref (b 32)]) ⟨hx, hb, hml, hown, hw⟩ (m_proceeds l dC dI b gg mt mc mh mf md cI re lo va p0 (nI mc) H.size (by omega) (by rw [zz_toInt mc (by omega)]; omega)) ⟨callB_of 2 hw (zz_good tw_236) rfl rfl rfl (hw _ tw_184) (hw _ tw_237) (by decide +kernel) ⟨Nat.le_of_ble_eq_true rfl, Nat.le_of_ble_eq_true rfl⟩, (hw _ tw_238), (hw _ tw_239)⟩ ⟨zz_blind, va_recv hKc hPc (ci := 8) (q0 := 0) rfl rfl, zz_pre hPc hKc hDc hN⟩ rfl rfl hl.1 rfl (lv_room (Nat.le_of_ble_eq_true rfl)) dX8_worked_40 ⟨Nat.le_of_ble_eq_true rfl, Nat.le_of_ble_eq_true rfl⟩) hS (fun q _ h => hFc q h) hFc (fun r_2 u_2 t H1 locs ht hvm e_2 hB hz1 hk1 hS => ?_)
    try dsimp only at e_2
    have hP := zz_keep hP hk1
    clear hk1 hB ht hvm
    generalize H1 = H at hP hS ⊢
    refine va_iast hx hb hK hP hD hS 6 0 rfl rfl (vp_in_iff.mpr (by constructor <;> omega)) dX8_worked_43 (fun H locs hP hD hS => ?_)
    have hP : va_P (dC, dI) vwCl [(b 0, .inr (8, [.ref (b 1), .int (nI mt), .int (gg 2), .int (gg 3), .int (gg 4), .int (gg 5), .int (gg 6), .int (gg 7), .int (gg 8), .int (gg 9), .ref (b 11), .ref (b 12), .ref (b 13), .int (nI mc), .int (nI mh), .ref (b 16), .ref (b 17), .ref (b 18), .ref (b 19), .ref (b 20), .ref (b 21), .ref (b 22), .ref (b 23), .ref (b 24), .int (nI mf), .ref (b 26), .ref (b 27), .ref (b 28), .ref (b 29), .ref (b 30), .ref (b 31), .ref (b 32), .int (gg 32), .int (nI md), .ref (b 35), .ref (b 36), .ref (b 37), .ref (b 38), .ref (b 39), .ref (b 40), .int (gg 40), .ref (b 42), .ref (b 43), .ref (b 44), .int (gg 44), .ref (b 46), .ref (b 47), .int (gg 47), .ref (b 49)])), (b 29, .inl (cI, 12, .inl re)), (b 24, .inl (cI, 10, .inl lo)), (b 30, .inl (cI, 12, .inl va)), (b 28, .inl (cI, 12, .inl (upd nee (Int32.toNatClampNeg p0) ((nee (Int32.toNatClampNeg p0)) - p1)))), (b 31, .inl (cI, 12, .inl (upd dn (Int32.toNatClampNeg p0) (nI mc)))), (b 32, .inl (cI, 12, .inl (upd gt (Int32.toNatClampNeg p0) r_2)))] H := hP
    have hD : va_D A [(b 0, .inr (8, [.ref (b 1), .int (nI mt), .int (gg 2), .int (gg 3), .int (gg 4), .int (gg 5), .int (gg 6), .int (gg 7), .int (gg 8), .int (gg 9), .ref (b 11), .ref (b 12), .ref (b 13), .int (nI mc), .int (nI mh), .ref (b 16), .ref (b 17), .ref (b 18), .ref (b 19), .ref (b 20), .ref (b 21), .ref (b 22), .ref (b 23), .ref (b 24), .int (nI mf), .ref (b 26), .ref (b 27), .ref (b 28), .ref (b 29), .ref (b 30), .ref (b 31), .ref (b 32), .int (gg 32), .int (nI md), .ref (b 35), .ref (b 36), .ref (b 37), .ref (b 38), .ref (b 39), .ref (b 40), .int (gg 40), .ref (b 42), .ref (b 43), .ref (b 44), .int (gg 44), .ref (b 46), .ref (b 47), .int (gg 47), .ref (b 49)])), (b 29, .inl (cI, 12, .inl re)), (b 24, .inl (cI, 10, .inl lo)), (b 30, .inl (cI, 12, .inl va)), (b 28, .inl (cI, 12, .inl (upd nee (Int32.toNatClampNeg p0) ((nee (Int32.toNatClampNeg p0)) - p1)))), (b 31, .inl (cI, 12, .inl (upd dn (Int32.toNatClampNeg p0) (nI mc)))), (b 32, .inl (cI, 12, .inl (upd gt (Int32.toNatClampNeg p0) r_2)))] := hD
    refine lv_aload_n hx hb dX8_worked_44 rfl (lv_at hl 0 rfl) ?_
    refine va_get (D := (dC, dI)) (ci := 8) (v := .ref (b 28)) (C := RX8) (T := TX8) (N := 49) hx hb hw zz_inX8 hown hK hP 0 rfl rfl 27 (by decide) (hw _ tw_233) (fun _ h9 => h9) rfl dX8_worked_45 ?_
    refine lv_iload_n hx hb dX8_worked_48 rfl (lv_at hl 1 rfl) ?_
    refine va_iald hx hb hK hP 4 0 rfl rfl (vp_in_iff.mpr (by constructor <;> omega)) dX8_worked_49 ?_
    have hP9 := hP.sub (ws' := [(b 0, .inr (8, [.ref (b 1), .int (nI mt), .int (gg 2), .int (gg 3), .int (gg 4), .int (gg 5), .int (gg 6), .int (gg 7), .int (gg 8), .int (gg 9), .ref (b 11), .ref (b 12), .ref (b 13), .int (nI mc), .int (nI mh), .ref (b 16), .ref (b 17), .ref (b 18), .ref (b 19), .ref (b 20), .ref (b 21), .ref (b 22), .ref (b 23), .ref (b 24), .int (nI mf), .ref (b 26), .ref (b 27), .ref (b 28), .ref (b 29), .ref (b 30), .ref (b 31), .ref (b 32), .int (gg 32), .int (nI md), .ref (b 35), .ref (b 36), .ref (b 37), .ref (b 38), .ref (b 39), .ref (b 40), .int (gg 40), .ref (b 42), .ref (b 43), .ref (b 44), .int (gg 44), .ref (b 46), .ref (b 47), .int (gg 47), .ref (b 49)])), (b 29, .inl (cI, 12, .inl re)), (b 24, .inl (cI, 10, .inl lo)), (b 30, .inl (cI, 12, .inl va)), (b 28, .inl (cI, 12, .inl (upd nee (Int32.toNatClampNeg p0) ((nee (Int32.toNatClampNeg p0)) - p1)))), (b 31, .inl (cI, 12, .inl (upd dn (Int32.toNatClampNeg p0) (nI mc)))), (b 32, .inl (cI, 12, .inl (upd gt (Int32.toNatClampNeg p0) r_2)))]) [0, 1, 2, 3, 4, 5, 6] rfl
    have hD9 := hD.sub (ws' := [(b 0, .inr (8, [.ref (b 1), .int (nI mt), .int (gg 2), .int (gg 3), .int (gg 4), .int (gg 5), .int (gg 6), .int (gg 7), .int (gg 8), .int (gg 9), .ref (b 11), .ref (b 12), .ref (b 13), .int (nI mc), .int (nI mh), .ref (b 16), .ref (b 17), .ref (b 18), .ref (b 19), .ref (b 20), .ref (b 21), .ref (b 22), .ref (b 23), .ref (b 24), .int (nI mf), .ref (b 26), .ref (b 27), .ref (b 28), .ref (b 29), .ref (b 30), .ref (b 31), .ref (b 32), .int (gg 32), .int (nI md), .ref (b 35), .ref (b 36), .ref (b 37), .ref (b 38), .ref (b 39), .ref (b 40), .int (gg 40), .ref (b 42), .ref (b 43), .ref (b 44), .int (gg 44), .ref (b 46), .ref (b 47), .int (gg 47), .ref (b 49)])), (b 29, .inl (cI, 12, .inl re)), (b 24, .inl (cI, 10, .inl lo)), (b 30, .inl (cI, 12, .inl va)), (b 28, .inl (cI, 12, .inl (upd nee (Int32.toNatClampNeg p0) ((nee (Int32.toNatClampNeg p0)) - p1)))), (b 31, .inl (cI, 12, .inl (upd dn (Int32.toNatClampNeg p0) (nI mc)))), (b 32, .inl (cI, 12, .inl (upd gt (Int32.toNatClampNeg p0) r_2)))]) [0, 1, 2, 3, 4, 5, 6] (by decide) rfl
    have hK9 := hK.sub (tys' := [(cI, .int)]) [0] rfl
    exact W.iret (v := ((upd nee (Int32.toNatClampNeg p0) ((nee (Int32.toNatClampNeg p0)) - p1)) (Int32.toNatClampNeg p0))) hx hb hr (fun t ht hW => ⟨⟨((upd nee (Int32.toNatClampNeg p0) ((nee (Int32.toNatClampNeg p0)) - p1)) (Int32.toNatClampNeg p0)), ((upd nee (Int32.toNatClampNeg p0) ((nee (Int32.toNatClampNeg p0)) - p1)), (upd dn (Int32.toNatClampNeg p0) (nI mc)), (upd gt (Int32.toNatClampNeg p0) r_2)), rfl, ⟨(zz_rg_sub hrn (zz_lt hpf (Nat.le_refl _) (by omega)) (by omega) (by omega)), (zz_dn_2 hdn (by rw [zz_toInt mc (by omega)]; omega))⟩, by rw [ht]; exact hP9, va_K.moved hW.alike hK9, hD9⟩, hS.F ht⟩) hS.2.2 dX8_worked_50

set_option maxHeartbeats 4000000 in
set_option maxRecDepth 100000 in
theorem m_net (l : Launch) (dC : Nat → ClassId) (dI : Nat → Nat → Nat) (b : Nat → Nat) (gg : Nat → Int32) (mt : Nat) (mc : Nat) (mh : Nat) (mf : Nat) (md : Nat) (cI : ClassId) (mo : Nat → Int32) (mr : Nat → Int32) (my : Nat → Int32) (mu : Nat → Int32) (p0 : Int32) (sz : Nat) (hmd : md ≤ 300) : Met l yX8_net (zz_w yX8_net cX8_net 4 (some .int)) ({ frames := 0, cells := 0, slots := 0, locals := 0 }) (va_Pc [.ref (b 0), .int p0] (zz_B (dC, dI) sz [(b 0, .inr (8, [.ref (b 1), .int (nI mt), .int (gg 2), .int (gg 3), .int (gg 4), .int (gg 5), .int (gg 6), .int (gg 7), .int (gg 8), .int (gg 9), .ref (b 11), .ref (b 12), .ref (b 13), .int (nI mc), .int (nI mh), .ref (b 16), .ref (b 17), .ref (b 18), .ref (b 19), .ref (b 20), .ref (b 21), .ref (b 22), .ref (b 23), .ref (b 24), .int (nI mf), .ref (b 26), .ref (b 27), .ref (b 28), .ref (b 29), .ref (b 30), .ref (b 31), .ref (b 32), .int (gg 32), .int (nI md), .ref (b 35), .ref (b 36), .ref (b 37), .ref (b 38), .ref (b 39), .ref (b 40), .int (gg 40), .ref (b 42), .ref (b 43), .ref (b 44), .int (gg 44), .ref (b 46), .ref (b 47), .int (gg 47), .ref (b 49)])), (b 35, .inl (cI, 300, .inl mo)), (b 36, .inl (cI, 300, .inl mr)), (b 37, .inl (cI, 300, .inl my)), (b 38, .inl (cI, 300, .inl mu))] [(cI, .int)])) (va_Qi (fun (_ : Int32) (_ : Unit) => True) (fun _ _ => True) (va_A [] sz)) 0 0 (va_A [] sz) := by
  refine Met.ofW (cc := cX8_net) (maxL := 4) (ret := (some .int)) (by decide) rfl ?_
  intro p e s m args below meth c s₁ B hml hv
  obtain ⟨rfl, hsz, hP, hK, hD0, hN⟩ := hv
  have hx := B.exec
  have hb := B.bytes
  have hr := B.returns
  have hts := atoms_spec (ws := zz_w yX8_net cX8_net 4 (some .int)) B.pre
  have hw : ∀ w ∈ zz_all, w.before _ s = true := fun w h => hts w (List.mem_cons_of_mem _ h)
  have hown : s.vm.findClass RX8 = some m.cls := findClass_of_methodNamed B.named
  have hlocks := B.notSynchronized
  subst hsz
  have hD := hD0
  generalize hAe : va_A [] s.heap.size = A
  have hA : ∀ q : Nat, s.heap.size ≤ q → A q := fun q h => by rw [← hAe]; exact Or.inr h
  have hS : va_S A s.heap s.heap [] := va_S.rf
  have hP : va_P (dC, dI) vwCl [(b 0, .inr (8, [.ref (b 1), .int (nI mt), .int (gg 2), .int (gg 3), .int (gg 4), .int (gg 5), .int (gg 6), .int (gg 7), .int (gg 8), .int (gg 9), .ref (b 11), .ref (b 12), .ref (b 13), .int (nI mc), .int (nI mh), .ref (b 16), .ref (b 17), .ref (b 18), .ref (b 19), .ref (b 20), .ref (b 21), .ref (b 22), .ref (b 23), .ref (b 24), .int (nI mf), .ref (b 26), .ref (b 27), .ref (b 28), .ref (b 29), .ref (b 30), .ref (b 31), .ref (b 32), .int (gg 32), .int (nI md), .ref (b 35), .ref (b 36), .ref (b 37), .ref (b 38), .ref (b 39), .ref (b 40), .int (gg 40), .ref (b 42), .ref (b 43), .ref (b 44), .int (gg 44), .ref (b 46), .ref (b 47), .int (gg 47), .ref (b 49)])), (b 35, .inl (cI, 300, .inl mo)), (b 36, .inl (cI, 300, .inl mr)), (b 37, .inl (cI, 300, .inl my)), (b 38, .inl (cI, 300, .inl mu))] s.heap := hP
  have hl := lv_entry ([.ref (b 0), .int p0]) (n := 4) (Nat.le_of_ble_eq_true rfl)
  rw [lg_entry_eq]
  generalize (lg_sl ([.ref (b 0), .int p0]) ++ List.replicate (4 - (lg_sl ([.ref (b 0), .int p0])).length) Slot.unset).toArray = ls at hl ⊢
  have hl : lv_has ls 4 [(0, .ref (b 0)), (1, .int p0)] := hl
  refine lv_iconst (v := 0) hx hb dX8_net_0 (by decide) ?_
  refine lv_istore_n (lv' := [(2, .int 0), (0, .ref (b 0)), (1, .int p0)]) hx hb dX8_net_1 rfl hl (by decide) rfl (fun ls hl => ?_)
  refine lv_iconst (v := 0) hx hb dX8_net_2 (by decide) ?_
  refine lv_istore_n (lv' := [(3, .int 0), (2, .int 0), (0, .ref (b 0)), (1, .int p0)]) hx hb dX8_net_3 rfl hl (by decide) rfl (fun ls hl => ?_)
  refine zz_loopS (fun (u : (Nat) × (Int32)) => match u with | (j, y) => [(b 0, .inr (8, [.ref (b 1), .int (nI mt), .int (gg 2), .int (gg 3), .int (gg 4), .int (gg 5), .int (gg 6), .int (gg 7), .int (gg 8), .int (gg 9), .ref (b 11), .ref (b 12), .ref (b 13), .int (nI mc), .int (nI mh), .ref (b 16), .ref (b 17), .ref (b 18), .ref (b 19), .ref (b 20), .ref (b 21), .ref (b 22), .ref (b 23), .ref (b 24), .int (nI mf), .ref (b 26), .ref (b 27), .ref (b 28), .ref (b 29), .ref (b 30), .ref (b 31), .ref (b 32), .int (gg 32), .int (nI md), .ref (b 35), .ref (b 36), .ref (b 37), .ref (b 38), .ref (b 39), .ref (b 40), .int (gg 40), .ref (b 42), .ref (b 43), .ref (b 44), .int (gg 44), .ref (b 46), .ref (b 47), .int (gg 47), .ref (b 49)])), (b 35, .inl (cI, 300, .inl mo)), (b 36, .inl (cI, 300, .inl mr)), (b 37, .inl (cI, 300, .inl my)), (b 38, .inl (cI, 300, .inl mu))]) (fun (u : (Nat) × (Int32)) => match u with | (j, y) => [(0, .ref (b 0)), (1, .int p0), (2, .int y), (3, .int (nI j))]) (fun (u : (Nat) × (Int32)) => match u with | (j, y) => j ≤ md) (fun (u : (Nat) × (Int32)) => match u with | (j, y) => md - j) (fun u hI H locs ls hP hD hS hl ih_4 => ?_) (0, 0) (show 0 ≤ md from by omega) _ _ _ (hP.sub [0, 1, 2, 3, 4] rfl) (hD.sub [0, 1, 2, 3, 4] (by decide) rfl) hS (lv_sub hl [2, 3, 1, 0] rfl)
  obtain ⟨j, y⟩ := u
  have hP : va_P (dC, dI) vwCl [(b 0, .inr (8, [.ref (b 1), .int (nI mt), .int (gg 2), .int (gg 3), .int (gg 4), .int (gg 5), .int (gg 6), .int (gg 7), .int (gg 8), .int (gg 9), .ref (b 11), .ref (b 12), .ref (b 13), .int (nI mc), .int (nI mh), .ref (b 16), .ref (b 17), .ref (b 18), .ref (b 19), .ref (b 20), .ref (b 21), .ref (b 22), .ref (b 23), .ref (b 24), .int (nI mf), .ref (b 26), .ref (b 27), .ref (b 28), .ref (b 29), .ref (b 30), .ref (b 31), .ref (b 32), .int (gg 32), .int (nI md), .ref (b 35), .ref (b 36), .ref (b 37), .ref (b 38), .ref (b 39), .ref (b 40), .int (gg 40), .ref (b 42), .ref (b 43), .ref (b 44), .int (gg 44), .ref (b 46), .ref (b 47), .int (gg 47), .ref (b 49)])), (b 35, .inl (cI, 300, .inl mo)), (b 36, .inl (cI, 300, .inl mr)), (b 37, .inl (cI, 300, .inl my)), (b 38, .inl (cI, 300, .inl mu))] H := hP
  have hD : va_D (fun _ => True) [(b 0, .inr (8, [.ref (b 1), .int (nI mt), .int (gg 2), .int (gg 3), .int (gg 4), .int (gg 5), .int (gg 6), .int (gg 7), .int (gg 8), .int (gg 9), .ref (b 11), .ref (b 12), .ref (b 13), .int (nI mc), .int (nI mh), .ref (b 16), .ref (b 17), .ref (b 18), .ref (b 19), .ref (b 20), .ref (b 21), .ref (b 22), .ref (b 23), .ref (b 24), .int (nI mf), .ref (b 26), .ref (b 27), .ref (b 28), .ref (b 29), .ref (b 30), .ref (b 31), .ref (b 32), .int (gg 32), .int (nI md), .ref (b 35), .ref (b 36), .ref (b 37), .ref (b 38), .ref (b 39), .ref (b 40), .int (gg 40), .ref (b 42), .ref (b 43), .ref (b 44), .int (gg 44), .ref (b 46), .ref (b 47), .int (gg 47), .ref (b 49)])), (b 35, .inl (cI, 300, .inl mo)), (b 36, .inl (cI, 300, .inl mr)), (b 37, .inl (cI, 300, .inl my)), (b 38, .inl (cI, 300, .inl mu))] := hD
  have hl : lv_has ls 4 [(0, .ref (b 0)), (1, .int p0), (2, .int y), (3, .int (nI j))] := hl
  have hI : j ≤ md := hI
  have ij := hI
  refine lv_iload_n hx hb dX8_net_4 rfl (lv_at hl 3 rfl) ?_
  refine lv_aload_n hx hb dX8_net_5 rfl (lv_at hl 0 rfl) ?_
  refine va_get (D := (dC, dI)) (ci := 8) (v := .int (nI md)) (C := RX8) (T := TX8) (N := 49) hx hb hw zz_inX8 hown hK hP 0 rfl rfl 33 (by decide) (hw _ tw_206) (fun _ h9 => h9) rfl dX8_net_6 ?_
  refine lv_icmp_ge (tgt := 64) hx hb dX8_net_9 (by decide) (fun c_1 => ?_) (fun c_1 => ?_)
  · have zc_1 := c_1
    rw [Int32.le_iff_toInt_le] at zc_1
    try rw [zz_toInt j (by omega)] at zc_1
    try rw [zz_toInt md (by omega)] at zc_1
    refine lv_iload_n hx hb dX8_net_64 rfl (lv_at hl 2 rfl) ?_
    exact W.iret (v := y) hx hb hr (fun t ht hW => ⟨⟨y, (), rfl, trivial, trivial⟩, hS.F ht⟩) hS.2.2 dX8_net_65
  · have zc_1 := c_1
    rw [Int32.le_iff_toInt_le] at zc_1
    try rw [zz_toInt j (by omega)] at zc_1
    try rw [zz_toInt md (by omega)] at zc_1
    refine lv_iload_n hx hb dX8_net_12 rfl (lv_at hl 2 rfl) ?_
    refine lv_aload_n hx hb dX8_net_13 rfl (lv_at hl 0 rfl) ?_
    refine va_get (D := (dC, dI)) (ci := 8) (v := .ref (b 36)) (C := RX8) (T := TX8) (N := 49) hx hb hw zz_inX8 hown hK hP 0 rfl rfl 35 (by decide) (hw _ tw_208) (fun _ h9 => h9) rfl dX8_net_14 ?_
    refine lv_iload_n hx hb dX8_net_17 rfl (lv_at hl 3 rfl) ?_
    refine va_iald hx hb hK hP 2 0 rfl rfl (vp_in_iff.mpr (by rw [zz_toInt j (by omega)]; constructor <;> omega)) dX8_net_18 ?_
    refine lv_iload_n hx hb dX8_net_19 rfl (lv_at hl 1 rfl) ?_
    refine lv_icmp_ne (tgt := 32) hx hb dX8_net_20 (by decide) (fun c_2 => ?_) (fun c_2 => ?_)
    · have zc_2 := c_2
      rw [← Int32.toInt_inj] at zc_2
      refine lv_iconst (v := 0) hx hb dX8_net_32 (by decide) ?_
      refine lv_iadd hx hb dX8_net_33 ?_
      refine lv_istore_n (lv' := [(2, .int (y + 0)), (0, .ref (b 0)), (1, .int p0), (3, .int (nI j))]) hx hb dX8_net_34 rfl hl (by decide) rfl (fun ls hl => ?_)
      refine lv_iload_n hx hb dX8_net_35 rfl (lv_at hl 0 rfl) ?_
      refine lv_aload_n hx hb dX8_net_36 rfl (lv_at hl 1 rfl) ?_
      refine va_get (D := (dC, dI)) (ci := 8) (v := .ref (b 35)) (C := RX8) (T := TX8) (N := 49) hx hb hw zz_inX8 hown hK hP 0 rfl rfl 34 (by decide) (hw _ tw_207) (fun _ h9 => h9) rfl dX8_net_37 ?_
      refine lv_iload_n hx hb dX8_net_40 rfl (lv_at hl 3 rfl) ?_
      refine va_iald hx hb hK hP 1 0 rfl rfl (vp_in_iff.mpr (by rw [zz_toInt j (by omega)]; constructor <;> omega)) dX8_net_41 ?_
      refine lv_iload_n hx hb dX8_net_42 rfl (lv_at hl 2 rfl) ?_
      refine lv_icmp_ne (tgt := 55) hx hb dX8_net_43 (by decide) (fun c_3 => ?_) (fun c_3 => ?_)
      · have zc_3 := c_3
        rw [← Int32.toInt_inj] at zc_3
        refine lv_iconst (v := 0) hx hb dX8_net_55 (by decide) ?_
        refine lv_isub hx hb dX8_net_56 ?_
        refine lv_istore_n (lv' := [(2, .int ((y + 0) - 0)), (0, .ref (b 0)), (1, .int p0), (3, .int (nI j))]) hx hb dX8_net_57 rfl hl (by decide) rfl (fun ls hl => ?_)
        refine lv_iinc (v := (nI (j + 1))) (lv' := [(3, .int (nI (j + 1))), (2, .int ((y + 0) - 0)), (0, .ref (b 0)), (1, .int p0)]) hx hb dX8_net_58 hl (k := 3) rfl (nI_1 _) (by decide) rfl (fun ls hl => ?_)
        refine lv_goto (tgt := 4) hx hb dX8_net_61 (by decide) ?_
        exact ih_4 ((j + 1), ((y + 0) - 0)) (show (j + 1) ≤ md from by omega) (show md - (j + 1) < md - j from by omega) _ _ _ (hP.sub [0, 1, 2, 3, 4] rfl) (hD.sub [0, 1, 2, 3, 4] (by decide) rfl) hS (lv_sub hl [2, 3, 1, 0] rfl)
      · have zc_3 := c_3
        rw [← Int32.toInt_inj] at zc_3
        refine lv_aload_n hx hb dX8_net_46 rfl (lv_at hl 1 rfl) ?_
        refine va_get (D := (dC, dI)) (ci := 8) (v := .ref (b 38)) (C := RX8) (T := TX8) (N := 49) hx hb hw zz_inX8 hown hK hP 0 rfl rfl 37 (by decide) (hw _ tw_210) (fun _ h9 => h9) rfl dX8_net_47 ?_
        refine lv_iload_n hx hb dX8_net_50 rfl (lv_at hl 3 rfl) ?_
        refine va_iald hx hb hK hP 4 0 rfl rfl (vp_in_iff.mpr (by rw [zz_toInt j (by omega)]; constructor <;> omega)) dX8_net_51 ?_
        refine lv_goto (tgt := 56) hx hb dX8_net_52 (by decide) ?_
        refine lv_isub hx hb dX8_net_56 ?_
        refine lv_istore_n (lv' := [(2, .int ((y + 0) - (mu (Int32.toNatClampNeg (nI j))))), (0, .ref (b 0)), (1, .int p0), (3, .int (nI j))]) hx hb dX8_net_57 rfl hl (by decide) rfl (fun ls hl => ?_)
        refine lv_iinc (v := (nI (j + 1))) (lv' := [(3, .int (nI (j + 1))), (2, .int ((y + 0) - (mu (Int32.toNatClampNeg (nI j))))), (0, .ref (b 0)), (1, .int p0)]) hx hb dX8_net_58 hl (k := 3) rfl (nI_1 _) (by decide) rfl (fun ls hl => ?_)
        refine lv_goto (tgt := 4) hx hb dX8_net_61 (by decide) ?_
        exact ih_4 ((j + 1), ((y + 0) - (mu (Int32.toNatClampNeg (nI j))))) (show (j + 1) ≤ md from by omega) (show md - (j + 1) < md - j from by omega) _ _ _ (hP.sub [0, 1, 2, 3, 4] rfl) (hD.sub [0, 1, 2, 3, 4] (by decide) rfl) hS (lv_sub hl [2, 3, 1, 0] rfl)
    · have zc_2 := c_2
      rw [← Int32.toInt_inj] at zc_2
      refine lv_aload_n hx hb dX8_net_23 rfl (lv_at hl 0 rfl) ?_
      refine va_get (D := (dC, dI)) (ci := 8) (v := .ref (b 38)) (C := RX8) (T := TX8) (N := 49) hx hb hw zz_inX8 hown hK hP 0 rfl rfl 37 (by decide) (hw _ tw_210) (fun _ h9 => h9) rfl dX8_net_24 ?_
      refine lv_iload_n hx hb dX8_net_27 rfl (lv_at hl 3 rfl) ?_
      refine va_iald hx hb hK hP 4 0 rfl rfl (vp_in_iff.mpr (by rw [zz_toInt j (by omega)]; constructor <;> omega)) dX8_net_28 ?_
      refine lv_goto (tgt := 33) hx hb dX8_net_29 (by decide) ?_
      refine lv_iadd hx hb dX8_net_33 ?_
      refine lv_istore_n (lv' := [(2, .int (y + (mu (Int32.toNatClampNeg (nI j))))), (0, .ref (b 0)), (1, .int p0), (3, .int (nI j))]) hx hb dX8_net_34 rfl hl (by decide) rfl (fun ls hl => ?_)
      refine lv_iload_n hx hb dX8_net_35 rfl (lv_at hl 0 rfl) ?_
      refine lv_aload_n hx hb dX8_net_36 rfl (lv_at hl 1 rfl) ?_
      refine va_get (D := (dC, dI)) (ci := 8) (v := .ref (b 35)) (C := RX8) (T := TX8) (N := 49) hx hb hw zz_inX8 hown hK hP 0 rfl rfl 34 (by decide) (hw _ tw_207) (fun _ h9 => h9) rfl dX8_net_37 ?_
      refine lv_iload_n hx hb dX8_net_40 rfl (lv_at hl 3 rfl) ?_
      refine va_iald hx hb hK hP 1 0 rfl rfl (vp_in_iff.mpr (by rw [zz_toInt j (by omega)]; constructor <;> omega)) dX8_net_41 ?_
      refine lv_iload_n hx hb dX8_net_42 rfl (lv_at hl 2 rfl) ?_
      refine lv_icmp_ne (tgt := 55) hx hb dX8_net_43 (by decide) (fun c_4 => ?_) (fun c_4 => ?_)
      · have zc_4 := c_4
        rw [← Int32.toInt_inj] at zc_4
        refine lv_iconst (v := 0) hx hb dX8_net_55 (by decide) ?_
        refine lv_isub hx hb dX8_net_56 ?_
        refine lv_istore_n (lv' := [(2, .int ((y + (mu (Int32.toNatClampNeg (nI j)))) - 0)), (0, .ref (b 0)), (1, .int p0), (3, .int (nI j))]) hx hb dX8_net_57 rfl hl (by decide) rfl (fun ls hl => ?_)
        refine lv_iinc (v := (nI (j + 1))) (lv' := [(3, .int (nI (j + 1))), (2, .int ((y + (mu (Int32.toNatClampNeg (nI j)))) - 0)), (0, .ref (b 0)), (1, .int p0)]) hx hb dX8_net_58 hl (k := 3) rfl (nI_1 _) (by decide) rfl (fun ls hl => ?_)
        refine lv_goto (tgt := 4) hx hb dX8_net_61 (by decide) ?_
        exact ih_4 ((j + 1), ((y + (mu (Int32.toNatClampNeg (nI j)))) - 0)) (show (j + 1) ≤ md from by omega) (show md - (j + 1) < md - j from by omega) _ _ _ (hP.sub [0, 1, 2, 3, 4] rfl) (hD.sub [0, 1, 2, 3, 4] (by decide) rfl) hS (lv_sub hl [2, 3, 1, 0] rfl)
      · have zc_4 := c_4
        rw [← Int32.toInt_inj] at zc_4
        refine lv_aload_n hx hb dX8_net_46 rfl (lv_at hl 1 rfl) ?_
        refine va_get (D := (dC, dI)) (ci := 8) (v := .ref (b 38)) (C := RX8) (T := TX8) (N := 49) hx hb hw zz_inX8 hown hK hP 0 rfl rfl 37 (by decide) (hw _ tw_210) (fun _ h9 => h9) rfl dX8_net_47 ?_
        refine lv_iload_n hx hb dX8_net_50 rfl (lv_at hl 3 rfl) ?_
        refine va_iald hx hb hK hP 4 0 rfl rfl (vp_in_iff.mpr (by rw [zz_toInt j (by omega)]; constructor <;> omega)) dX8_net_51 ?_
        refine lv_goto (tgt := 56) hx hb dX8_net_52 (by decide) ?_
        refine lv_isub hx hb dX8_net_56 ?_
        refine lv_istore_n (lv' := [(2, .int ((y + (mu (Int32.toNatClampNeg (nI j)))) - (mu (Int32.toNatClampNeg (nI j))))), (0, .ref (b 0)), (1, .int p0), (3, .int (nI j))]) hx hb dX8_net_57 rfl hl (by decide) rfl (fun ls hl => ?_)
        refine lv_iinc (v := (nI (j + 1))) (lv' := [(3, .int (nI (j + 1))), (2, .int ((y + (mu (Int32.toNatClampNeg (nI j)))) - (mu (Int32.toNatClampNeg (nI j))))), (0, .ref (b 0)), (1, .int p0)]) hx hb dX8_net_58 hl (k := 3) rfl (nI_1 _) (by decide) rfl (fun ls hl => ?_)
        refine lv_goto (tgt := 4) hx hb dX8_net_61 (by decide) ?_
        exact ih_4 ((j + 1), ((y + (mu (Int32.toNatClampNeg (nI j)))) - (mu (Int32.toNatClampNeg (nI j))))) (show (j + 1) ≤ md from by omega) (show md - (j + 1) < md - j from by omega) _ _ _ (hP.sub [0, 1, 2, 3, 4] rfl) (hD.sub [0, 1, 2, 3, 4] (by decide) rfl) hS (lv_sub hl [2, 3, 1, 0] rfl)

set_option maxHeartbeats 4000000 in
set_option maxRecDepth 100000 in
theorem m_fieldOf (l : Launch) (dC : Nat → ClassId) (dI : Nat → Nat → Nat) (b : Nat → Nat) (gg : Nat → Int32) (mt : Nat) (mc : Nat) (mh : Nat) (mf : Nat) (md : Nat) (cI : ClassId) (ow : Nat → Int32) (kd : Nat → Int32) (nee : Nat → Int32) (re : Nat → Int32) (va : Nat → Int32) (dn : Nat → Int32) (gt : Nat → Int32) (p0 : Int32) (p1 : Int32) (sz : Nat) (hmf : mf ≤ 12) : Met l yX8_fieldOf (zz_w yX8_fieldOf cX8_fieldOf 3 (some .int)) ({ frames := 2, cells := 0, slots := 0, locals := 46 }) (va_Pc [.ref (b 0), .int p0, .int p1] (zz_B (dC, dI) sz [(b 0, .inr (8, [.ref (b 1), .int (nI mt), .int (gg 2), .int (gg 3), .int (gg 4), .int (gg 5), .int (gg 6), .int (gg 7), .int (gg 8), .int (gg 9), .ref (b 11), .ref (b 12), .ref (b 13), .int (nI mc), .int (nI mh), .ref (b 16), .ref (b 17), .ref (b 18), .ref (b 19), .ref (b 20), .ref (b 21), .ref (b 22), .ref (b 23), .ref (b 24), .int (nI mf), .ref (b 26), .ref (b 27), .ref (b 28), .ref (b 29), .ref (b 30), .ref (b 31), .ref (b 32), .int (gg 32), .int (nI md), .ref (b 35), .ref (b 36), .ref (b 37), .ref (b 38), .ref (b 39), .ref (b 40), .int (gg 40), .ref (b 42), .ref (b 43), .ref (b 44), .int (gg 44), .ref (b 46), .ref (b 47), .int (gg 47), .ref (b 49)])), (b 26, .inl (cI, 12, .inl ow)), (b 27, .inl (cI, 12, .inl kd)), (b 28, .inl (cI, 12, .inl nee)), (b 29, .inl (cI, 12, .inl re)), (b 30, .inl (cI, 12, .inl va)), (b 31, .inl (cI, 12, .inl dn)), (b 32, .inl (cI, 12, .inl gt))] [(cI, .int)])) (va_Qi (fun (_ : Int32) (_ : Unit) => True) (fun _ _ => True) (va_A [] sz)) 0 0 (va_A [] sz) := by
  refine Met.ofW (cc := cX8_fieldOf) (maxL := 3) (ret := (some .int)) (by decide) rfl ?_
  intro p e s m args below meth c s₁ B hml hv
  obtain ⟨rfl, hsz, hP, hK, hD0, hN⟩ := hv
  have hx := B.exec
  have hb := B.bytes
  have hr := B.returns
  have hts := atoms_spec (ws := zz_w yX8_fieldOf cX8_fieldOf 3 (some .int)) B.pre
  have hw : ∀ w ∈ zz_all, w.before _ s = true := fun w h => hts w (List.mem_cons_of_mem _ h)
  have hown : s.vm.findClass RX8 = some m.cls := findClass_of_methodNamed B.named
  have hlocks := B.notSynchronized
  subst hsz
  have hD := hD0
  generalize hAe : va_A [] s.heap.size = A
  have hA : ∀ q : Nat, s.heap.size ≤ q → A q := fun q h => by rw [← hAe]; exact Or.inr h
  have hS : va_S A s.heap s.heap [] := va_S.rf
  have hP : va_P (dC, dI) vwCl [(b 0, .inr (8, [.ref (b 1), .int (nI mt), .int (gg 2), .int (gg 3), .int (gg 4), .int (gg 5), .int (gg 6), .int (gg 7), .int (gg 8), .int (gg 9), .ref (b 11), .ref (b 12), .ref (b 13), .int (nI mc), .int (nI mh), .ref (b 16), .ref (b 17), .ref (b 18), .ref (b 19), .ref (b 20), .ref (b 21), .ref (b 22), .ref (b 23), .ref (b 24), .int (nI mf), .ref (b 26), .ref (b 27), .ref (b 28), .ref (b 29), .ref (b 30), .ref (b 31), .ref (b 32), .int (gg 32), .int (nI md), .ref (b 35), .ref (b 36), .ref (b 37), .ref (b 38), .ref (b 39), .ref (b 40), .int (gg 40), .ref (b 42), .ref (b 43), .ref (b 44), .int (gg 44), .ref (b 46), .ref (b 47), .int (gg 47), .ref (b 49)])), (b 26, .inl (cI, 12, .inl ow)), (b 27, .inl (cI, 12, .inl kd)), (b 28, .inl (cI, 12, .inl nee)), (b 29, .inl (cI, 12, .inl re)), (b 30, .inl (cI, 12, .inl va)), (b 31, .inl (cI, 12, .inl dn)), (b 32, .inl (cI, 12, .inl gt))] s.heap := hP
  have hl := lv_entry ([.ref (b 0), .int p0, .int p1]) (n := 3) (Nat.le_of_ble_eq_true rfl)
  rw [lg_entry_eq]
  generalize (lg_sl ([.ref (b 0), .int p0, .int p1]) ++ List.replicate (3 - (lg_sl ([.ref (b 0), .int p0, .int p1])).length) Slot.unset).toArray = ls at hl ⊢
  have hl : lv_has ls 3 [(0, .ref (b 0)), (1, .int p0), (2, .int p1)] := hl
  refine lv_aload_n hx hb dX8_fieldOf_0 rfl (lv_at hl 0 rfl) ?_
  refine lv_iload_n hx hb dX8_fieldOf_1 rfl (lv_at hl 1 rfl) ?_
  have hPc := hP.sub (ws' := [(b 0, .inr (8, [.ref (b 1), .int (nI mt), .int (gg 2), .int (gg 3), .int (gg 4), .int (gg 5), .int (gg 6), .int (gg 7), .int (gg 8), .int (gg 9), .ref (b 11), .ref (b 12), .ref (b 13), .int (nI mc), .int (nI mh), .ref (b 16), .ref (b 17), .ref (b 18), .ref (b 19), .ref (b 20), .ref (b 21), .ref (b 22), .ref (b 23), .ref (b 24), .int (nI mf), .ref (b 26), .ref (b 27), .ref (b 28), .ref (b 29), .ref (b 30), .ref (b 31), .ref (b 32), .int (gg 32), .int (nI md), .ref (b 35), .ref (b 36), .ref (b 37), .ref (b 38), .ref (b 39), .ref (b 40), .int (gg 40), .ref (b 42), .ref (b 43), .ref (b 44), .int (gg 44), .ref (b 46), .ref (b 47), .int (gg 47), .ref (b 49)]))]) [0] rfl
  have hDc := hD.sub (ws' := [(b 0, .inr (8, [.ref (b 1), .int (nI mt), .int (gg 2), .int (gg 3), .int (gg 4), .int (gg 5), .int (gg 6), .int (gg 7), .int (gg 8), .int (gg 9), .ref (b 11), .ref (b 12), .ref (b 13), .int (nI mc), .int (nI mh), .ref (b 16), .ref (b 17), .ref (b 18), .ref (b 19), .ref (b 20), .ref (b 21), .ref (b 22), .ref (b 23), .ref (b 24), .int (nI mf), .ref (b 26), .ref (b 27), .ref (b 28), .ref (b 29), .ref (b 30), .ref (b 31), .ref (b 32), .int (gg 32), .int (nI md), .ref (b 35), .ref (b 36), .ref (b 37), .ref (b 38), .ref (b 39), .ref (b 40), .int (gg 40), .ref (b 42), .ref (b 43), .ref (b 44), .int (gg 44), .ref (b 46), .ref (b 47), .int (gg 47), .ref (b 49)]))]) [0] (by decide) rfl
  have hKc := hK.sub (tys' := []) [] rfl
  have hFc := zz_free0 hS hA
  refine va_calli (va_runV (As := [.int p0]) (rest := []) ⟨hx, hb, hml, hown, hw⟩ (m_isField l dC dI b gg mt mc mh mf md p0 s.heap.size (by omega)) ⟨callB_of 1 hw (zz_good tw_229) rfl rfl rfl (hw _ tw_184) (hw _ tw_230) (by decide +kernel) ⟨Nat.le_of_ble_eq_true rfl, Nat.le_of_ble_eq_true rfl⟩, (hw _ tw_231), (hw _ tw_232)⟩ ⟨zz_blind, va_recv hKc hPc (ci := 8) (q0 := 0) rfl rfl, zz_pre hPc hKc hDc hN⟩ rfl rfl hl.1 rfl (lv_room (Nat.le_of_ble_eq_true rfl)) dX8_fieldOf_2 ⟨Nat.le_of_ble_eq_true rfl, Nat.le_of_ble_eq_true rfl⟩) hS (fun q _ h => hFc q h) hFc (fun r_1 u_1 t H1 locs ht hvm e_1 hB hz1 hk1 hS => ?_)
  try dsimp only at e_1
  have hP := zz_keep hP hk1
  clear hk1 hB ht hvm
  generalize H1 = H at hP hS ⊢
  rcases e_1 with ⟨n1_1, er_1⟩ | ⟨n1_1, er_1⟩
  · refine zz_seti 1 er_1 ?_
    refine lv_if_ne (tgt := 10) hx hb dX8_fieldOf_5 (by decide) (fun _ => ?_) (fun c_9 => absurd c_9 (by decide))
    refine lv_iload_n hx hb dX8_fieldOf_10 rfl (lv_at hl 2 rfl) ?_
    by_cases c_2 : p1 = 0
    · have zc_2 := c_2
      rw [← Int32.toInt_inj] at zc_2
      try rw [show (0 : Int32).toInt = 0 from by decide] at zc_2
      refine lv_tableIn (tgt := 52) hx hb dX8_fieldOf_11 (by rw [c_2]; decide) (by rw [c_2]; decide) (by rw [c_2]; rfl) (by decide) ?_
      refine lv_aload_n hx hb dX8_fieldOf_52 rfl (lv_at hl 0 rfl) ?_
      refine va_get (D := (dC, dI)) (ci := 8) (v := .ref (b 26)) (C := RX8) (T := TX8) (N := 49) hx hb hw zz_inX8 hown hK hP 0 rfl rfl 25 (by decide) (hw _ tw_240) (fun _ h9 => h9) rfl dX8_fieldOf_53 ?_
      refine lv_iload_n hx hb dX8_fieldOf_56 rfl (lv_at hl 1 rfl) ?_
      refine va_iald hx hb hK hP 1 0 rfl rfl (vp_in_iff.mpr (by constructor <;> omega)) dX8_fieldOf_57 ?_
      exact W.iret (v := (ow (Int32.toNatClampNeg p0))) hx hb hr (fun t ht hW => ⟨⟨(ow (Int32.toNatClampNeg p0)), (), rfl, trivial, trivial⟩, hS.F ht⟩) hS.2.2 dX8_fieldOf_58
    by_cases c_3 : p1 = 1
    · have zc_3 := c_3
      rw [← Int32.toInt_inj] at zc_3
      try rw [show (1 : Int32).toInt = 1 from by decide] at zc_3
      refine lv_tableIn (tgt := 59) hx hb dX8_fieldOf_11 (by rw [c_3]; decide) (by rw [c_3]; decide) (by rw [c_3]; rfl) (by decide) ?_
      refine lv_aload_n hx hb dX8_fieldOf_59 rfl (lv_at hl 0 rfl) ?_
      refine va_get (D := (dC, dI)) (ci := 8) (v := .ref (b 27)) (C := RX8) (T := TX8) (N := 49) hx hb hw zz_inX8 hown hK hP 0 rfl rfl 26 (by decide) (hw _ tw_241) (fun _ h9 => h9) rfl dX8_fieldOf_60 ?_
      refine lv_iload_n hx hb dX8_fieldOf_63 rfl (lv_at hl 1 rfl) ?_
      refine va_iald hx hb hK hP 2 0 rfl rfl (vp_in_iff.mpr (by constructor <;> omega)) dX8_fieldOf_64 ?_
      exact W.iret (v := (kd (Int32.toNatClampNeg p0))) hx hb hr (fun t ht hW => ⟨⟨(kd (Int32.toNatClampNeg p0)), (), rfl, trivial, trivial⟩, hS.F ht⟩) hS.2.2 dX8_fieldOf_65
    by_cases c_4 : p1 = 2
    · have zc_4 := c_4
      rw [← Int32.toInt_inj] at zc_4
      try rw [show (2 : Int32).toInt = 2 from by decide] at zc_4
      refine lv_tableIn (tgt := 66) hx hb dX8_fieldOf_11 (by rw [c_4]; decide) (by rw [c_4]; decide) (by rw [c_4]; rfl) (by decide) ?_
      refine lv_aload_n hx hb dX8_fieldOf_66 rfl (lv_at hl 0 rfl) ?_
      refine va_get (D := (dC, dI)) (ci := 8) (v := .ref (b 28)) (C := RX8) (T := TX8) (N := 49) hx hb hw zz_inX8 hown hK hP 0 rfl rfl 27 (by decide) (hw _ tw_233) (fun _ h9 => h9) rfl dX8_fieldOf_67 ?_
      refine lv_iload_n hx hb dX8_fieldOf_70 rfl (lv_at hl 1 rfl) ?_
      refine va_iald hx hb hK hP 3 0 rfl rfl (vp_in_iff.mpr (by constructor <;> omega)) dX8_fieldOf_71 ?_
      exact W.iret (v := (nee (Int32.toNatClampNeg p0))) hx hb hr (fun t ht hW => ⟨⟨(nee (Int32.toNatClampNeg p0)), (), rfl, trivial, trivial⟩, hS.F ht⟩) hS.2.2 dX8_fieldOf_72
    by_cases c_5 : p1 = 3
    · have zc_5 := c_5
      rw [← Int32.toInt_inj] at zc_5
      try rw [show (3 : Int32).toInt = 3 from by decide] at zc_5
      refine lv_tableIn (tgt := 73) hx hb dX8_fieldOf_11 (by rw [c_5]; decide) (by rw [c_5]; decide) (by rw [c_5]; rfl) (by decide) ?_
      refine lv_aload_n hx hb dX8_fieldOf_73 rfl (lv_at hl 0 rfl) ?_
      refine va_get (D := (dC, dI)) (ci := 8) (v := .ref (b 29)) (C := RX8) (T := TX8) (N := 49) hx hb hw zz_inX8 hown hK hP 0 rfl rfl 28 (by decide) (hw _ tw_223) (fun _ h9 => h9) rfl dX8_fieldOf_74 ?_
      refine lv_iload_n hx hb dX8_fieldOf_77 rfl (lv_at hl 1 rfl) ?_
      refine va_iald hx hb hK hP 4 0 rfl rfl (vp_in_iff.mpr (by constructor <;> omega)) dX8_fieldOf_78 ?_
      exact W.iret (v := (re (Int32.toNatClampNeg p0))) hx hb hr (fun t ht hW => ⟨⟨(re (Int32.toNatClampNeg p0)), (), rfl, trivial, trivial⟩, hS.F ht⟩) hS.2.2 dX8_fieldOf_79
    by_cases c_6 : p1 = 4
    · have zc_6 := c_6
      rw [← Int32.toInt_inj] at zc_6
      try rw [show (4 : Int32).toInt = 4 from by decide] at zc_6
      refine lv_tableIn (tgt := 80) hx hb dX8_fieldOf_11 (by rw [c_6]; decide) (by rw [c_6]; decide) (by rw [c_6]; rfl) (by decide) ?_
      refine lv_aload_n hx hb dX8_fieldOf_80 rfl (lv_at hl 0 rfl) ?_
      refine va_get (D := (dC, dI)) (ci := 8) (v := .ref (b 30)) (C := RX8) (T := TX8) (N := 49) hx hb hw zz_inX8 hown hK hP 0 rfl rfl 29 (by decide) (hw _ tw_224) (fun _ h9 => h9) rfl dX8_fieldOf_81 ?_
      refine lv_iload_n hx hb dX8_fieldOf_84 rfl (lv_at hl 1 rfl) ?_
      refine va_iald hx hb hK hP 5 0 rfl rfl (vp_in_iff.mpr (by constructor <;> omega)) dX8_fieldOf_85 ?_
      exact W.iret (v := (va (Int32.toNatClampNeg p0))) hx hb hr (fun t ht hW => ⟨⟨(va (Int32.toNatClampNeg p0)), (), rfl, trivial, trivial⟩, hS.F ht⟩) hS.2.2 dX8_fieldOf_86
    by_cases c_7 : p1 = 5
    · have zc_7 := c_7
      rw [← Int32.toInt_inj] at zc_7
      try rw [show (5 : Int32).toInt = 5 from by decide] at zc_7
      refine lv_tableIn (tgt := 87) hx hb dX8_fieldOf_11 (by rw [c_7]; decide) (by rw [c_7]; decide) (by rw [c_7]; rfl) (by decide) ?_
      refine lv_aload_n hx hb dX8_fieldOf_87 rfl (lv_at hl 0 rfl) ?_
      refine va_get (D := (dC, dI)) (ci := 8) (v := .ref (b 31)) (C := RX8) (T := TX8) (N := 49) hx hb hw zz_inX8 hown hK hP 0 rfl rfl 30 (by decide) (hw _ tw_234) (fun _ h9 => h9) rfl dX8_fieldOf_88 ?_
      refine lv_iload_n hx hb dX8_fieldOf_91 rfl (lv_at hl 1 rfl) ?_
      refine va_iald hx hb hK hP 6 0 rfl rfl (vp_in_iff.mpr (by constructor <;> omega)) dX8_fieldOf_92 ?_
      exact W.iret (v := (dn (Int32.toNatClampNeg p0))) hx hb hr (fun t ht hW => ⟨⟨(dn (Int32.toNatClampNeg p0)), (), rfl, trivial, trivial⟩, hS.F ht⟩) hS.2.2 dX8_fieldOf_93
    by_cases c_8 : p1 = 6
    · have zc_8 := c_8
      rw [← Int32.toInt_inj] at zc_8
      try rw [show (6 : Int32).toInt = 6 from by decide] at zc_8
      refine lv_tableIn (tgt := 94) hx hb dX8_fieldOf_11 (by rw [c_8]; decide) (by rw [c_8]; decide) (by rw [c_8]; rfl) (by decide) ?_
      refine lv_aload_n hx hb dX8_fieldOf_94 rfl (lv_at hl 0 rfl) ?_
      refine va_get (D := (dC, dI)) (ci := 8) (v := .ref (b 31)) (C := RX8) (T := TX8) (N := 49) hx hb hw zz_inX8 hown hK hP 0 rfl rfl 30 (by decide) (hw _ tw_234) (fun _ h9 => h9) rfl dX8_fieldOf_95 ?_
      refine lv_iload_n hx hb dX8_fieldOf_98 rfl (lv_at hl 1 rfl) ?_
      refine va_iald hx hb hK hP 6 0 rfl rfl (vp_in_iff.mpr (by constructor <;> omega)) dX8_fieldOf_99 ?_
      refine lv_if_ge (tgt := 107) hx hb dX8_fieldOf_100 (by decide) (fun c_9 => ?_) (fun c_9 => ?_)
      · have zc_9 := c_9
        rw [Int32.le_iff_toInt_le] at zc_9
        try rw [show (0 : Int32).toInt = 0 from by decide] at zc_9
        refine lv_aload_n hx hb dX8_fieldOf_107 rfl (lv_at hl 0 rfl) ?_
        refine va_get (D := (dC, dI)) (ci := 8) (v := .ref (b 32)) (C := RX8) (T := TX8) (N := 49) hx hb hw zz_inX8 hown hK hP 0 rfl rfl 31 (by decide) (hw _ tw_235) (fun _ h9 => h9) rfl dX8_fieldOf_108 ?_
        refine lv_iload_n hx hb dX8_fieldOf_111 rfl (lv_at hl 1 rfl) ?_
        refine va_iald hx hb hK hP 7 0 rfl rfl (vp_in_iff.mpr (by constructor <;> omega)) dX8_fieldOf_112 ?_
        exact W.iret (v := (gt (Int32.toNatClampNeg p0))) hx hb hr (fun t ht hW => ⟨⟨(gt (Int32.toNatClampNeg p0)), (), rfl, trivial, trivial⟩, hS.F ht⟩) hS.2.2 dX8_fieldOf_113
      · have zc_9 := c_9
        rw [Int32.le_iff_toInt_le] at zc_9
        try rw [show (0 : Int32).toInt = 0 from by decide] at zc_9
        refine lv_iconst (v := (-1)) hx hb dX8_fieldOf_103 (by decide) ?_
        refine lv_goto (tgt := 113) hx hb dX8_fieldOf_104 (by decide) ?_
        exact W.iret (v := (-1)) hx hb hr (fun t ht hW => ⟨⟨(-1), (), rfl, trivial, trivial⟩, hS.F ht⟩) hS.2.2 dX8_fieldOf_113
    refine lv_tableOut (tgt := 114) hx hb dX8_fieldOf_11 (by have := zz_ne c_2; rw [show (0 : Int32).toInt = 0 from by decide] at this; have := zz_ne c_3; rw [show (1 : Int32).toInt = 1 from by decide] at this; have := zz_ne c_4; rw [show (2 : Int32).toInt = 2 from by decide] at this; have := zz_ne c_5; rw [show (3 : Int32).toInt = 3 from by decide] at this; have := zz_ne c_6; rw [show (4 : Int32).toInt = 4 from by decide] at this; have := zz_ne c_7; rw [show (5 : Int32).toInt = 5 from by decide] at this; have := zz_ne c_8; rw [show (6 : Int32).toInt = 6 from by decide] at this; omega) (by decide) ?_
    have zc_2 := c_2
    rw [← Int32.toInt_inj] at zc_2
    try rw [show (0 : Int32).toInt = 0 from by decide] at zc_2
    have zc_3 := c_3
    rw [← Int32.toInt_inj] at zc_3
    try rw [show (1 : Int32).toInt = 1 from by decide] at zc_3
    have zc_4 := c_4
    rw [← Int32.toInt_inj] at zc_4
    try rw [show (2 : Int32).toInt = 2 from by decide] at zc_4
    have zc_5 := c_5
    rw [← Int32.toInt_inj] at zc_5
    try rw [show (3 : Int32).toInt = 3 from by decide] at zc_5
    have zc_6 := c_6
    rw [← Int32.toInt_inj] at zc_6
    try rw [show (4 : Int32).toInt = 4 from by decide] at zc_6
    have zc_7 := c_7
    rw [← Int32.toInt_inj] at zc_7
    try rw [show (5 : Int32).toInt = 5 from by decide] at zc_7
    have zc_8 := c_8
    rw [← Int32.toInt_inj] at zc_8
    try rw [show (6 : Int32).toInt = 6 from by decide] at zc_8
    refine lv_iconst (v := (-1)) hx hb dX8_fieldOf_114 (by decide) ?_
    exact W.iret (v := (-1)) hx hb hr (fun t ht hW => ⟨⟨(-1), (), rfl, trivial, trivial⟩, hS.F ht⟩) hS.2.2 dX8_fieldOf_115
  · refine zz_seti 0 er_1 ?_
    refine lv_if_ne (tgt := 10) hx hb dX8_fieldOf_5 (by decide) (fun c_9 => absurd c_9 (by decide)) (fun _ => ?_)
    refine lv_iconst (v := (-1)) hx hb dX8_fieldOf_8 (by decide) ?_
    exact W.iret (v := (-1)) hx hb hr (fun t ht hW => ⟨⟨(-1), (), rfl, trivial, trivial⟩, hS.F ht⟩) hS.2.2 dX8_fieldOf_9
