theorem tw_168 : Cond.code yX7_waitingFields cX7_waitingFields 3 (some .int) ∈ zz_all := zz_m3 124 rfl rfl
theorem tw_169 : Cond.methodLink RX7 205 yX7_waitingFields ∈ zz_all := zz_m3 121 rfl rfl
theorem tw_170 : Cond.instanceMethod yX7_waitingFields ∈ zz_all := zz_m3 123 rfl rfl
theorem tw_171 : Cond.selects RX7 yX7_waitingFields yX7_waitingFields ∈ zz_all := zz_ms 30 rfl rfl
theorem tw_172 : Cond.fieldLink RX7 58 "HandsReturned" "order" "LHandsReturned$Plan;" ∈ zz_all := zz_m2 33 rfl rfl
theorem tw_173 : Cond.code yX5_begin cX5_begin 3 none ∈ zz_all := zz_m3 128 rfl rfl
theorem tw_174 : Cond.instanceMethod yX5_begin ∈ zz_all := zz_m3 127 rfl rfl
theorem tw_175 : Cond.selects RX5 yX5_begin yX5_begin ∈ zz_all := zz_ms 31 rfl rfl
theorem tw_176 : Cond.code yX5_choose cX5_choose 6 (some .int) ∈ zz_all := zz_m3 141 rfl rfl
theorem tw_177 : Cond.instanceMethod yX5_choose ∈ zz_all := zz_m3 140 rfl rfl
theorem tw_178 : Cond.selects RX5 yX5_choose yX5_choose ∈ zz_all := zz_ms 34 rfl rfl
theorem tw_179 : Cond.code yX5_take cX5_take 6 none ∈ zz_all := zz_m3 133 rfl rfl
theorem tw_180 : Cond.instanceMethod yX5_take ∈ zz_all := zz_m3 132 rfl rfl
theorem tw_181 : Cond.selects RX5 yX5_take yX5_take ∈ zz_all := zz_ms 32 rfl rfl
theorem zy_b14plan3_0 : decode cX7_waitingFields 0 = .ok (.iconst 0, 1) ∧ decode cX7_waitingFields 1 = .ok (.istore_n 1, 1) ∧ decode cX7_waitingFields 2 = .ok (.iconst 0, 1) ∧ decode cX7_waitingFields 3 = .ok (.istore_n 2, 1) ∧ decode cX7_waitingFields 4 = .ok (.iload_n 2, 1) ∧ decode cX7_waitingFields 5 = .ok (.aload_n 0, 1) ∧ decode cX7_waitingFields 6 = .ok (.getfield 77, 3) ∧ decode cX7_waitingFields 9 = .ok (.if_icmp .ge 24, 3) := by decide +kernel
theorem dX7_waitingFields_0 : decode cX7_waitingFields 0 = .ok (.iconst 0, 1) := zy_b14plan3_0.1
theorem dX7_waitingFields_1 : decode cX7_waitingFields 1 = .ok (.istore_n 1, 1) := zy_b14plan3_0.2.1
theorem dX7_waitingFields_2 : decode cX7_waitingFields 2 = .ok (.iconst 0, 1) := zy_b14plan3_0.2.2.1
theorem dX7_waitingFields_3 : decode cX7_waitingFields 3 = .ok (.istore_n 2, 1) := zy_b14plan3_0.2.2.2.1
theorem dX7_waitingFields_4 : decode cX7_waitingFields 4 = .ok (.iload_n 2, 1) := zy_b14plan3_0.2.2.2.2.1
theorem dX7_waitingFields_5 : decode cX7_waitingFields 5 = .ok (.aload_n 0, 1) := zy_b14plan3_0.2.2.2.2.2.1
theorem dX7_waitingFields_6 : decode cX7_waitingFields 6 = .ok (.getfield 77, 3) := zy_b14plan3_0.2.2.2.2.2.2.1
theorem dX7_waitingFields_9 : decode cX7_waitingFields 9 = .ok (.if_icmp .ge 24, 3) := zy_b14plan3_0.2.2.2.2.2.2.2
theorem zy_b14plan3_1 : decode cX7_waitingFields 12 = .ok (.aload_n 0, 1) ∧ decode cX7_waitingFields 13 = .ok (.getfield 18, 3) ∧ decode cX7_waitingFields 16 = .ok (.iload_n 2, 1) ∧ decode cX7_waitingFields 17 = .ok (.aaload, 1) ∧ decode cX7_waitingFields 18 = .ok (.getfield 90, 3) ∧ decode cX7_waitingFields 21 = .ok (.ifCond .le 6, 3) ∧ decode cX7_waitingFields 24 = .ok (.iinc 1 1, 3) ∧ decode cX7_waitingFields 27 = .ok (.iinc 2 1, 3) := by decide +kernel
theorem dX7_waitingFields_12 : decode cX7_waitingFields 12 = .ok (.aload_n 0, 1) := zy_b14plan3_1.1
theorem dX7_waitingFields_13 : decode cX7_waitingFields 13 = .ok (.getfield 18, 3) := zy_b14plan3_1.2.1
theorem dX7_waitingFields_16 : decode cX7_waitingFields 16 = .ok (.iload_n 2, 1) := zy_b14plan3_1.2.2.1
theorem dX7_waitingFields_17 : decode cX7_waitingFields 17 = .ok (.aaload, 1) := zy_b14plan3_1.2.2.2.1
theorem dX7_waitingFields_18 : decode cX7_waitingFields 18 = .ok (.getfield 90, 3) := zy_b14plan3_1.2.2.2.2.1
theorem dX7_waitingFields_21 : decode cX7_waitingFields 21 = .ok (.ifCond .le 6, 3) := zy_b14plan3_1.2.2.2.2.2.1
theorem dX7_waitingFields_24 : decode cX7_waitingFields 24 = .ok (.iinc 1 1, 3) := zy_b14plan3_1.2.2.2.2.2.2.1
theorem dX7_waitingFields_27 : decode cX7_waitingFields 27 = .ok (.iinc 2 1, 3) := zy_b14plan3_1.2.2.2.2.2.2.2
theorem zy_b14plan3_2 : decode cX7_waitingFields 30 = .ok (.goto (-26), 3) ∧ decode cX7_waitingFields 33 = .ok (.iload_n 1, 1) ∧ decode cX7_waitingFields 34 = .ok (.ireturn, 1) := by decide +kernel
theorem dX7_waitingFields_30 : decode cX7_waitingFields 30 = .ok (.goto (-26), 3) := zy_b14plan3_2.1
theorem dX7_waitingFields_33 : decode cX7_waitingFields 33 = .ok (.iload_n 1, 1) := zy_b14plan3_2.2.1
theorem dX7_waitingFields_34 : decode cX7_waitingFields 34 = .ok (.ireturn, 1) := zy_b14plan3_2.2.2
theorem zy_b14plan3_3 : decode cX7_plan 0 = .ok (.iload_n 1, 1) ∧ decode cX7_plan 1 = .ok (.iconst 1, 1) ∧ decode cX7_plan 2 = .ok (.bipush 99, 2) ∧ decode cX7_plan 4 = .ok (.invokestatic 80, 3) ∧ decode cX7_plan 7 = .ok (.ifCond .eq 12, 3) ∧ decode cX7_plan 10 = .ok (.aload_n 0, 1) ∧ decode cX7_plan 11 = .ok (.invokevirtual 205, 3) ∧ decode cX7_plan 14 = .ok (.bipush 7, 2) := by decide +kernel
theorem dX7_plan_0 : decode cX7_plan 0 = .ok (.iload_n 1, 1) := zy_b14plan3_3.1
theorem dX7_plan_1 : decode cX7_plan 1 = .ok (.iconst 1, 1) := zy_b14plan3_3.2.1
theorem dX7_plan_2 : decode cX7_plan 2 = .ok (.bipush 99, 2) := zy_b14plan3_3.2.2.1
theorem dX7_plan_4 : decode cX7_plan 4 = .ok (.invokestatic 80, 3) := zy_b14plan3_3.2.2.2.1
theorem dX7_plan_7 : decode cX7_plan 7 = .ok (.ifCond .eq 12, 3) := zy_b14plan3_3.2.2.2.2.1
theorem dX7_plan_10 : decode cX7_plan 10 = .ok (.aload_n 0, 1) := zy_b14plan3_3.2.2.2.2.2.1
theorem dX7_plan_11 : decode cX7_plan 11 = .ok (.invokevirtual 205, 3) := zy_b14plan3_3.2.2.2.2.2.2.1
theorem dX7_plan_14 : decode cX7_plan 14 = .ok (.bipush 7, 2) := zy_b14plan3_3.2.2.2.2.2.2.2
theorem zy_b14plan3_4 : decode cX7_plan 16 = .ok (.if_icmp .le 5, 3) ∧ decode cX7_plan 19 = .ok (.iconst (-1), 1) ∧ decode cX7_plan 20 = .ok (.ireturn, 1) ∧ decode cX7_plan 21 = .ok (.aload_n 0, 1) ∧ decode cX7_plan 22 = .ok (.getfield 58, 3) ∧ decode cX7_plan 25 = .ok (.aload_n 0, 1) ∧ decode cX7_plan 26 = .ok (.getfield 129, 3) ∧ decode cX7_plan 29 = .ok (.iload_n 1, 1) := by decide +kernel
theorem dX7_plan_16 : decode cX7_plan 16 = .ok (.if_icmp .le 5, 3) := zy_b14plan3_4.1
theorem dX7_plan_19 : decode cX7_plan 19 = .ok (.iconst (-1), 1) := zy_b14plan3_4.2.1
theorem dX7_plan_20 : decode cX7_plan 20 = .ok (.ireturn, 1) := zy_b14plan3_4.2.2.1
theorem dX7_plan_21 : decode cX7_plan 21 = .ok (.aload_n 0, 1) := zy_b14plan3_4.2.2.2.1
theorem dX7_plan_22 : decode cX7_plan 22 = .ok (.getfield 58, 3) := zy_b14plan3_4.2.2.2.2.1
theorem dX7_plan_25 : decode cX7_plan 25 = .ok (.aload_n 0, 1) := zy_b14plan3_4.2.2.2.2.2.1
theorem dX7_plan_26 : decode cX7_plan 26 = .ok (.getfield 129, 3) := zy_b14plan3_4.2.2.2.2.2.2.1
theorem dX7_plan_29 : decode cX7_plan 29 = .ok (.iload_n 1, 1) := zy_b14plan3_4.2.2.2.2.2.2.2
theorem zy_b14plan3_5 : decode cX7_plan 30 = .ok (.invokevirtual 208, 3) ∧ decode cX7_plan 33 = .ok (.iconst 0, 1) ∧ decode cX7_plan 34 = .ok (.istore_n 2, 1) ∧ decode cX7_plan 35 = .ok (.iload_n 2, 1) ∧ decode cX7_plan 36 = .ok (.aload_n 0, 1) ∧ decode cX7_plan 37 = .ok (.getfield 77, 3) ∧ decode cX7_plan 40 = .ok (.if_icmp .ge 35, 3) ∧ decode cX7_plan 43 = .ok (.aload_n 0, 1) := by decide +kernel
theorem dX7_plan_30 : decode cX7_plan 30 = .ok (.invokevirtual 208, 3) := zy_b14plan3_5.1
theorem dX7_plan_33 : decode cX7_plan 33 = .ok (.iconst 0, 1) := zy_b14plan3_5.2.1
theorem dX7_plan_34 : decode cX7_plan 34 = .ok (.istore_n 2, 1) := zy_b14plan3_5.2.2.1
theorem dX7_plan_35 : decode cX7_plan 35 = .ok (.iload_n 2, 1) := zy_b14plan3_5.2.2.2.1
theorem dX7_plan_36 : decode cX7_plan 36 = .ok (.aload_n 0, 1) := zy_b14plan3_5.2.2.2.2.1
theorem dX7_plan_37 : decode cX7_plan 37 = .ok (.getfield 77, 3) := zy_b14plan3_5.2.2.2.2.2.1
theorem dX7_plan_40 : decode cX7_plan 40 = .ok (.if_icmp .ge 35, 3) := zy_b14plan3_5.2.2.2.2.2.2.1
theorem dX7_plan_43 : decode cX7_plan 43 = .ok (.aload_n 0, 1) := zy_b14plan3_5.2.2.2.2.2.2.2
theorem zy_b14plan3_6 : decode cX7_plan 44 = .ok (.getfield 18, 3) ∧ decode cX7_plan 47 = .ok (.iload_n 2, 1) ∧ decode cX7_plan 48 = .ok (.aaload, 1) ∧ decode cX7_plan 49 = .ok (.getfield 90, 3) ∧ decode cX7_plan 52 = .ok (.ifCond .le 17, 3) ∧ decode cX7_plan 55 = .ok (.aload_n 0, 1) ∧ decode cX7_plan 56 = .ok (.getfield 58, 3) ∧ decode cX7_plan 59 = .ok (.iload_n 2, 1) := by decide +kernel
theorem dX7_plan_44 : decode cX7_plan 44 = .ok (.getfield 18, 3) := zy_b14plan3_6.1
theorem dX7_plan_47 : decode cX7_plan 47 = .ok (.iload_n 2, 1) := zy_b14plan3_6.2.1
theorem dX7_plan_48 : decode cX7_plan 48 = .ok (.aaload, 1) := zy_b14plan3_6.2.2.1
theorem dX7_plan_49 : decode cX7_plan 49 = .ok (.getfield 90, 3) := zy_b14plan3_6.2.2.2.1
theorem dX7_plan_52 : decode cX7_plan 52 = .ok (.ifCond .le 17, 3) := zy_b14plan3_6.2.2.2.2.1
theorem dX7_plan_55 : decode cX7_plan 55 = .ok (.aload_n 0, 1) := zy_b14plan3_6.2.2.2.2.2.1
theorem dX7_plan_56 : decode cX7_plan 56 = .ok (.getfield 58, 3) := zy_b14plan3_6.2.2.2.2.2.2.1
theorem dX7_plan_59 : decode cX7_plan 59 = .ok (.iload_n 2, 1) := zy_b14plan3_6.2.2.2.2.2.2.2
theorem zy_b14plan3_7 : decode cX7_plan 60 = .ok (.aload_n 0, 1) ∧ decode cX7_plan 61 = .ok (.getfield 18, 3) ∧ decode cX7_plan 64 = .ok (.iload_n 2, 1) ∧ decode cX7_plan 65 = .ok (.aaload, 1) ∧ decode cX7_plan 66 = .ok (.invokevirtual 212, 3) ∧ decode cX7_plan 69 = .ok (.iinc 2 1, 3) ∧ decode cX7_plan 72 = .ok (.goto (-37), 3) ∧ decode cX7_plan 75 = .ok (.aload_n 0, 1) := by decide +kernel
theorem dX7_plan_60 : decode cX7_plan 60 = .ok (.aload_n 0, 1) := zy_b14plan3_7.1
theorem dX7_plan_61 : decode cX7_plan 61 = .ok (.getfield 18, 3) := zy_b14plan3_7.2.1
theorem dX7_plan_64 : decode cX7_plan 64 = .ok (.iload_n 2, 1) := zy_b14plan3_7.2.2.1
theorem dX7_plan_65 : decode cX7_plan 65 = .ok (.aaload, 1) := zy_b14plan3_7.2.2.2.1
theorem dX7_plan_66 : decode cX7_plan 66 = .ok (.invokevirtual 212, 3) := zy_b14plan3_7.2.2.2.2.1
theorem dX7_plan_69 : decode cX7_plan 69 = .ok (.iinc 2 1, 3) := zy_b14plan3_7.2.2.2.2.2.1
theorem dX7_plan_72 : decode cX7_plan 72 = .ok (.goto (-37), 3) := zy_b14plan3_7.2.2.2.2.2.2.1
theorem dX7_plan_75 : decode cX7_plan 75 = .ok (.aload_n 0, 1) := zy_b14plan3_7.2.2.2.2.2.2.2
theorem zy_b14plan3_8 : decode cX7_plan 76 = .ok (.getfield 58, 3) ∧ decode cX7_plan 79 = .ok (.aload_n 0, 1) ∧ decode cX7_plan 80 = .ok (.getfield 23, 3) ∧ decode cX7_plan 83 = .ok (.invokevirtual 216, 3) ∧ decode cX7_plan 86 = .ok (.ireturn, 1) := by decide +kernel
theorem dX7_plan_76 : decode cX7_plan 76 = .ok (.getfield 58, 3) := zy_b14plan3_8.1
theorem dX7_plan_79 : decode cX7_plan 79 = .ok (.aload_n 0, 1) := zy_b14plan3_8.2.1
theorem dX7_plan_80 : decode cX7_plan 80 = .ok (.getfield 23, 3) := zy_b14plan3_8.2.2.1
theorem dX7_plan_83 : decode cX7_plan 83 = .ok (.invokevirtual 216, 3) := zy_b14plan3_8.2.2.2.1
theorem dX7_plan_86 : decode cX7_plan 86 = .ok (.ireturn, 1) := zy_b14plan3_8.2.2.2.2
theorem zy_b14plan3_9 : decode cX7_planned 0 = .ok (.iload_n 1, 1) ∧ decode cX7_planned 1 = .ok (.iconst 0, 1) ∧ decode cX7_planned 2 = .ok (.aload_n 0, 1) ∧ decode cX7_planned 3 = .ok (.getfield 58, 3) ∧ decode cX7_planned 6 = .ok (.getfield 220, 3) ∧ decode cX7_planned 9 = .ok (.iconst 1, 1) ∧ decode cX7_planned 10 = .ok (.isub, 1) ∧ decode cX7_planned 11 = .ok (.invokestatic 80, 3) := by decide +kernel
theorem dX7_planned_0 : decode cX7_planned 0 = .ok (.iload_n 1, 1) := zy_b14plan3_9.1
theorem dX7_planned_1 : decode cX7_planned 1 = .ok (.iconst 0, 1) := zy_b14plan3_9.2.1
theorem dX7_planned_2 : decode cX7_planned 2 = .ok (.aload_n 0, 1) := zy_b14plan3_9.2.2.1
theorem dX7_planned_3 : decode cX7_planned 3 = .ok (.getfield 58, 3) := zy_b14plan3_9.2.2.2.1
theorem dX7_planned_6 : decode cX7_planned 6 = .ok (.getfield 220, 3) := zy_b14plan3_9.2.2.2.2.1
theorem dX7_planned_9 : decode cX7_planned 9 = .ok (.iconst 1, 1) := zy_b14plan3_9.2.2.2.2.2.1
theorem dX7_planned_10 : decode cX7_planned 10 = .ok (.isub, 1) := zy_b14plan3_9.2.2.2.2.2.2.1
theorem dX7_planned_11 : decode cX7_planned 11 = .ok (.invokestatic 80, 3) := zy_b14plan3_9.2.2.2.2.2.2.2
theorem zy_b14plan3_10 : decode cX7_planned 14 = .ok (.ifCond .eq 15, 3) ∧ decode cX7_planned 17 = .ok (.aload_n 0, 1) ∧ decode cX7_planned 18 = .ok (.getfield 58, 3) ∧ decode cX7_planned 21 = .ok (.getfield 223, 3) ∧ decode cX7_planned 24 = .ok (.iload_n 1, 1) ∧ decode cX7_planned 25 = .ok (.iaload, 1) ∧ decode cX7_planned 26 = .ok (.goto 4, 3) ∧ decode cX7_planned 29 = .ok (.iconst (-1), 1) := by decide +kernel
theorem dX7_planned_14 : decode cX7_planned 14 = .ok (.ifCond .eq 15, 3) := zy_b14plan3_10.1
theorem dX7_planned_17 : decode cX7_planned 17 = .ok (.aload_n 0, 1) := zy_b14plan3_10.2.1
theorem dX7_planned_18 : decode cX7_planned 18 = .ok (.getfield 58, 3) := zy_b14plan3_10.2.2.1
theorem dX7_planned_21 : decode cX7_planned 21 = .ok (.getfield 223, 3) := zy_b14plan3_10.2.2.2.1
theorem dX7_planned_24 : decode cX7_planned 24 = .ok (.iload_n 1, 1) := zy_b14plan3_10.2.2.2.2.1
theorem dX7_planned_25 : decode cX7_planned 25 = .ok (.iaload, 1) := zy_b14plan3_10.2.2.2.2.2.1
theorem dX7_planned_26 : decode cX7_planned 26 = .ok (.goto 4, 3) := zy_b14plan3_10.2.2.2.2.2.2.1
theorem dX7_planned_29 : decode cX7_planned 29 = .ok (.iconst (-1), 1) := zy_b14plan3_10.2.2.2.2.2.2.2
theorem dX7_planned_30 : decode cX7_planned 30 = .ok (.ireturn, 1) := by decide +kernel
set_option maxHeartbeats 4000000 in
set_option maxRecDepth 100000 in
theorem k_waiting (l : Launch) (dC : Nat → ClassId) (dI : Nat → Nat → Nat) (a : Nat → Nat) (nh : Nat) (nf : Nat) (clk : Int32) (hi : Int32) (cF : ClassId) (fF : Nat → Option Nat) (V : Nat → Nat → Int32) (L : List Nat) (K : Nat → Nat) (sz : Nat) (hc8 : nh ≤ 8) (hf12 : nf ≤ 12) (hfF : ∀ k, k < 12 → fF k = some (a (11 + k))) (hF : ∀ k, k < 12 → a (11 + k) ∈ L ∧ K (a (11 + k)) = 3) : Met l yX7_waitingFields (zz_w yX7_waitingFields cX7_waitingFields 3 (some .int)) ({ frames := 0, cells := 0, slots := 0, locals := 0 }) (va_Pc [.ref (a 0)] (zz_B (dC, dI) sz (([(a 0, .inr (7, [.ref (a 1), .ref (a 10), .ref (a 23), .ref (a 24), .ref (a 26), .ref (a 29), .ref (a 34), .ref (a 43), .int (nI nh), .int (nI nf), .int clk, .int hi])), (a 10, .inl (cF, 12, .inr (.inr (.inr (.inr fF)))))] : va_W) ++ va_pl L (zz_F K V)) [(cF, .object RX3)])) (va_Qi (fun (_ : Int32) (_ : Unit) => True) (fun _ _ => True) (va_A [] sz)) 0 0 (va_A [] sz) := by
  refine Met.ofW (cc := cX7_waitingFields) (maxL := 3) (ret := (some .int)) (by decide) rfl ?_
  intro p e s m args below meth c s₁ B hml hv
  obtain ⟨rfl, hsz, hP, hK, hD0, hN⟩ := hv
  have hx := B.exec
  have hb := B.bytes
  have hr := B.returns
  have hts := atoms_spec (ws := zz_w yX7_waitingFields cX7_waitingFields 3 (some .int)) B.pre
  have hw : ∀ w ∈ zz_all, w.before _ s = true := fun w h => hts w (List.mem_cons_of_mem _ h)
  have hown : s.vm.findClass RX7 = some m.cls := findClass_of_methodNamed B.named
  have hlocks := B.notSynchronized
  subst hsz
  have hD := hD0
  generalize hAe : va_A [] s.heap.size = A
  have hA : ∀ q : Nat, s.heap.size ≤ q → A q := fun q h => by rw [← hAe]; exact Or.inr h
  have hS : va_S A s.heap s.heap [] := va_S.rf
  have hP : va_P (dC, dI) vwCl (([(a 0, .inr (7, [.ref (a 1), .ref (a 10), .ref (a 23), .ref (a 24), .ref (a 26), .ref (a 29), .ref (a 34), .ref (a 43), .int (nI nh), .int (nI nf), .int clk, .int hi])), (a 10, .inl (cF, 12, .inr (.inr (.inr (.inr fF)))))] : va_W) ++ va_pl L (zz_F K V)) s.heap := hP
  have hl := lv_entry ([.ref (a 0)]) (n := 3) (Nat.le_of_ble_eq_true rfl)
  rw [lg_entry_eq]
  generalize (lg_sl ([.ref (a 0)]) ++ List.replicate (3 - (lg_sl ([.ref (a 0)])).length) Slot.unset).toArray = ls at hl ⊢
  have hl : lv_has ls 3 [(0, .ref (a 0))] := hl
  refine lv_iconst (v := 0) hx hb dX7_waitingFields_0 (by decide) ?_
  refine lv_istore_n (lv' := [(1, .int 0), (0, .ref (a 0))]) hx hb dX7_waitingFields_1 rfl hl (by decide) rfl (fun ls hl => ?_)
  refine lv_iconst (v := 0) hx hb dX7_waitingFields_2 (by decide) ?_
  refine lv_istore_n (lv' := [(2, .int 0), (1, .int 0), (0, .ref (a 0))]) hx hb dX7_waitingFields_3 rfl hl (by decide) rfl (fun ls hl => ?_)
  refine zz_loopS (fun (u : (Nat) × (Int32)) => match u with | (k, y) => (([(a 0, .inr (7, [.ref (a 1), .ref (a 10), .ref (a 23), .ref (a 24), .ref (a 26), .ref (a 29), .ref (a 34), .ref (a 43), .int (nI nh), .int (nI nf), .int clk, .int hi])), (a 10, .inl (cF, 12, .inr (.inr (.inr (.inr fF)))))] : va_W) ++ va_pl L (zz_F K V))) (fun (u : (Nat) × (Int32)) => match u with | (k, y) => [(0, .ref (a 0)), (1, .int y), (2, .int (nI k))]) (fun (u : (Nat) × (Int32)) => match u with | (k, y) => k ≤ nf) (fun (u : (Nat) × (Int32)) => match u with | (k, y) => nf - k) (fun u hI H locs ls hP hD hS hl ih_4 => ?_) (0, 0) (show 0 ≤ nf from by omega) _ _ _ (hP.part (cx := [(a 0, .inr (7, [.ref (a 1), .ref (a 10), .ref (a 23), .ref (a 24), .ref (a 26), .ref (a 29), .ref (a 34), .ref (a 43), .int (nI nh), .int (nI nf), .int clk, .int hi])), (a 10, .inl (cF, 12, .inr (.inr (.inr (.inr fF)))))]) [0, 1] rfl) (hD.part (cx := [(a 0, .inr (7, [.ref (a 1), .ref (a 10), .ref (a 23), .ref (a 24), .ref (a 26), .ref (a 29), .ref (a 34), .ref (a 43), .int (nI nh), .int (nI nf), .int clk, .int hi])), (a 10, .inl (cF, 12, .inr (.inr (.inr (.inr fF)))))]) [0, 1] (by decide) rfl) hS (lv_sub hl [2, 1, 0] rfl)
  obtain ⟨k, y⟩ := u
  obtain ⟨hP, hD⟩ := zz_ty (D := (dC, dI)) (cl := vwCl) (A := (fun _ => True)) (H := H) (([(a 0, .inr (7, [.ref (a 1), .ref (a 10), .ref (a 23), .ref (a 24), .ref (a 26), .ref (a 29), .ref (a 34), .ref (a 43), .int (nI nh), .int (nI nf), .int clk, .int hi])), (a 10, .inl (cF, 12, .inr (.inr (.inr (.inr fF)))))] : va_W) ++ va_pl L (zz_F K V)) hP hD rfl
  have hl : lv_has ls 3 [(0, .ref (a 0)), (1, .int y), (2, .int (nI k))] := hl
  have hI : k ≤ nf := hI
  have ik := hI
  refine lv_iload_n hx hb dX7_waitingFields_4 rfl (lv_at hl 2 rfl) ?_
  refine lv_aload_n hx hb dX7_waitingFields_5 rfl (lv_at hl 0 rfl) ?_
  refine va_get (D := (dC, dI)) (ci := 7) (v := .int (nI nf)) (C := RX7) (T := TX7) (N := 12) hx hb hw zz_inX7 hown hK hP 0 rfl rfl 9 (by decide) (hw _ tw_6) (fun _ h9 => h9) rfl dX7_waitingFields_6 ?_
  refine lv_icmp_ge (tgt := 33) hx hb dX7_waitingFields_9 (by decide) (fun c_1 => ?_) (fun c_1 => ?_)
  · have zc_1 := c_1
    rw [Int32.le_iff_toInt_le] at zc_1
    try rw [zz_toInt k (by omega)] at zc_1
    try rw [zz_toInt nf (by omega)] at zc_1
    refine lv_iload_n hx hb dX7_waitingFields_33 rfl (lv_at hl 1 rfl) ?_
    exact W.iret (v := y) hx hb hr (fun t ht hW => ⟨⟨y, (), rfl, trivial, trivial⟩, hS.F ht⟩) hS.2.2 dX7_waitingFields_34
  · have zc_1 := c_1
    rw [Int32.le_iff_toInt_le] at zc_1
    try rw [zz_toInt k (by omega)] at zc_1
    try rw [zz_toInt nf (by omega)] at zc_1
    refine lv_aload_n hx hb dX7_waitingFields_12 rfl (lv_at hl 0 rfl) ?_
    refine va_get (D := (dC, dI)) (ci := 7) (v := .ref (a 10)) (C := RX7) (T := TX7) (N := 12) hx hb hw zz_inX7 hown hK hP 0 rfl rfl 1 (by decide) (hw _ tw_7) (fun _ h9 => h9) rfl dX7_waitingFields_13 ?_
    refine lv_iload_n hx hb dX7_waitingFields_16 rfl (lv_at hl 2 rfl) ?_
    refine va_aldq hx hb hK hP 1 0 rfl rfl (vp_in_iff.mpr (by rw [zz_toInt k (by omega)]; constructor <;> omega)) dX7_waitingFields_17 ?_
    refine zz_setv (.ref (a (11 + k))) (by rw [zz_cl (by omega)]; exact congrArg va_rf (hfF k (by omega))) ?_
    obtain ⟨kq_2, hq_2⟩ := zz_pg3 (X := [(a 0, .inr (7, [.ref (a 1), .ref (a 10), .ref (a 23), .ref (a 24), .ref (a 26), .ref (a 29), .ref (a 34), .ref (a 43), .int (nI nh), .int (nI nf), .int clk, .int hi])), (a 10, .inl (cF, 12, .inr (.inr (.inr (.inr fF)))))]) (V := V) (hF k (by omega)).1 (hF k (by omega)).2
    have hDo := hD
    refine va_getN (D := (dC, dI)) (ci := 3) (v := .int (V (a (11 + k)) 2)) (C := RX3) (T := TX3) (N := 7) hx hb hw zz_inX3 hown hK hP kq_2 hq_2 rfl 2 (by decide) (hN.use zz_n13) (fun _ h9 => h9) rfl dX7_waitingFields_18 ?_
    refine lv_if_le (tgt := 27) hx hb dX7_waitingFields_21 (by decide) (fun c_3 => ?_) (fun c_3 => ?_)
    · have zc_3 := c_3
      rw [Int32.le_iff_toInt_le] at zc_3
      try rw [show (0 : Int32).toInt = 0 from by decide] at zc_3
      refine lv_iinc (v := (nI (k + 1))) (lv' := [(2, .int (nI (k + 1))), (0, .ref (a 0)), (1, .int y)]) hx hb dX7_waitingFields_27 hl (k := 2) rfl (nI_1 _) (by decide) rfl (fun ls hl => ?_)
      refine lv_goto (tgt := 4) hx hb dX7_waitingFields_30 (by decide) ?_
      exact ih_4 ((k + 1), y) (show (k + 1) ≤ nf from by omega) (show nf - (k + 1) < nf - k from by omega) _ _ _ (hP.part (cx := [(a 0, .inr (7, [.ref (a 1), .ref (a 10), .ref (a 23), .ref (a 24), .ref (a 26), .ref (a 29), .ref (a 34), .ref (a 43), .int (nI nh), .int (nI nf), .int clk, .int hi])), (a 10, .inl (cF, 12, .inr (.inr (.inr (.inr fF)))))]) [0, 1] rfl) (hD.part (cx := [(a 0, .inr (7, [.ref (a 1), .ref (a 10), .ref (a 23), .ref (a 24), .ref (a 26), .ref (a 29), .ref (a 34), .ref (a 43), .int (nI nh), .int (nI nf), .int clk, .int hi])), (a 10, .inl (cF, 12, .inr (.inr (.inr (.inr fF)))))]) [0, 1] (by decide) rfl) hS (lv_sub hl [1, 2, 0] rfl)
    · have zc_3 := c_3
      rw [Int32.le_iff_toInt_le] at zc_3
      try rw [show (0 : Int32).toInt = 0 from by decide] at zc_3
      refine lv_iinc (v := (y + 1)) (lv' := [(1, .int (y + 1)), (0, .ref (a 0)), (2, .int (nI k))]) hx hb dX7_waitingFields_24 hl (k := 1) rfl rfl (by decide) rfl (fun ls hl => ?_)
      refine lv_iinc (v := (nI (k + 1))) (lv' := [(2, .int (nI (k + 1))), (1, .int (y + 1)), (0, .ref (a 0))]) hx hb dX7_waitingFields_27 hl (k := 2) rfl (nI_1 _) (by decide) rfl (fun ls hl => ?_)
      refine lv_goto (tgt := 4) hx hb dX7_waitingFields_30 (by decide) ?_
      exact ih_4 ((k + 1), (y + 1)) (show (k + 1) ≤ nf from by omega) (show nf - (k + 1) < nf - k from by omega) _ _ _ (hP.part (cx := [(a 0, .inr (7, [.ref (a 1), .ref (a 10), .ref (a 23), .ref (a 24), .ref (a 26), .ref (a 29), .ref (a 34), .ref (a 43), .int (nI nh), .int (nI nf), .int clk, .int hi])), (a 10, .inl (cF, 12, .inr (.inr (.inr (.inr fF)))))]) [0, 1] rfl) (hD.part (cx := [(a 0, .inr (7, [.ref (a 1), .ref (a 10), .ref (a 23), .ref (a 24), .ref (a 26), .ref (a 29), .ref (a 34), .ref (a 43), .int (nI nh), .int (nI nf), .int clk, .int hi])), (a 10, .inl (cF, 12, .inr (.inr (.inr (.inr fF)))))]) [0, 1] (by decide) rfl) hS (lv_sub hl [2, 1, 0] rfl)
set_option maxHeartbeats 4000000 in
set_option maxRecDepth 100000 in
theorem k_plan (l : Launch) (dC : Nat → ClassId) (dI : Nat → Nat → Nat) (a : Nat → Nat) (nh : Nat) (nf : Nat) (clk : Int32) (hi : Int32) (cF : ClassId) (fF : Nat → Option Nat) (V : Nat → Nat → Int32) (cI : ClassId) (fl : Nat → Int32) (np : Nat) (cc : Nat) (td : Int32) (hd : Int32) (q0 : Nat → Int32) (q1 : Nat → Int32) (q2 : Nat → Int32) (q3 : Nat → Int32) (q4 : Nat → Int32) (q5 : Nat → Int32) (q6 : Nat → Int32) (q7 : Nat → Int32) (p0 : Int32) (L : List Nat) (K : Nat → Nat) (sz : Nat) (hc8 : nh ≤ 8) (hf12 : nf ≤ 12) (hfF : ∀ k, k < 12 → fF k = some (a (11 + k))) (hF : ∀ k, k < 12 → a (11 + k) ∈ L ∧ K (a (11 + k)) = 3) (hnp : np ≤ 7) (hcc : cc ≤ 7) (hbn : zz_bnx q6) : Met l yX7_plan (zz_w yX7_plan cX7_plan 3 (some .int)) ({ frames := 4, cells := 0, slots := 0, locals := 92 }) (va_Pc [.ref (a 0), .int p0] (zz_B (dC, dI) sz (([(a 0, .inr (7, [.ref (a 1), .ref (a 10), .ref (a 23), .ref (a 24), .ref (a 26), .ref (a 29), .ref (a 34), .ref (a 43), .int (nI nh), .int (nI nf), .int clk, .int hi])), (a 10, .inl (cF, 12, .inr (.inr (.inr (.inr fF))))), (a 23, .inl (cI, 10, .inl fl)), (a 43, .inr (5, [.ref (a 44), .ref (a 45), .ref (a 46), .ref (a 47), .ref (a 48), .ref (a 49), .ref (a 50), .ref (a 51), .int (nI cc), .int (nI np), .int td, .int hd])), (a 44, .inl (cI, 7, .inl q0)), (a 45, .inl (cI, 7, .inl q1)), (a 46, .inl (cI, 7, .inl q2)), (a 47, .inl (cI, 7, .inl q3)), (a 48, .inl (cI, 7, .inl q4)), (a 49, .inl (cI, 128, .inl q5)), (a 50, .inl (cI, 128, .inl q6)), (a 51, .inl (cI, 7, .inl q7))] : va_W) ++ va_pl L (zz_F K V)) [(cF, .object RX3), (cI, .int)])) (va_Qi (fun (_ : Int32) (u : Nat × Nat × Int32 × Int32 × (Nat → Int32) × (Nat → Int32) × (Nat → Int32) × (Nat → Int32) × (Nat → Int32) × (Nat → Int32) × (Nat → Int32) × (Nat → Int32)) => match u with | (n2, c2, _, _, _, _, _, _, _, _, b2, _) => n2 ≤ 7 ∧ c2 ≤ 7 ∧ zz_bnx b2) (fun (u : Nat × Nat × Int32 × Int32 × (Nat → Int32) × (Nat → Int32) × (Nat → Int32) × (Nat → Int32) × (Nat → Int32) × (Nat → Int32) × (Nat → Int32) × (Nat → Int32)) (t : State) => match u with | (u0, u1, u2, u3, u4, u5, u6, u7, u8, u9, u10, u11) => va_P (dC, dI) vwCl (([(a 0, .inr (7, [.ref (a 1), .ref (a 10), .ref (a 23), .ref (a 24), .ref (a 26), .ref (a 29), .ref (a 34), .ref (a 43), .int (nI nh), .int (nI nf), .int clk, .int hi])), (a 10, .inl (cF, 12, .inr (.inr (.inr (.inr fF))))), (a 23, .inl (cI, 10, .inl fl)), (a 43, .inr (5, [.ref (a 44), .ref (a 45), .ref (a 46), .ref (a 47), .ref (a 48), .ref (a 49), .ref (a 50), .ref (a 51), .int (nI u1), .int (nI u0), .int u2, .int u3])), (a 44, .inl (cI, 7, .inl u4)), (a 45, .inl (cI, 7, .inl u5)), (a 46, .inl (cI, 7, .inl u6)), (a 47, .inl (cI, 7, .inl u7)), (a 48, .inl (cI, 7, .inl u8)), (a 49, .inl (cI, 128, .inl u9)), (a 50, .inl (cI, 128, .inl u10)), (a 51, .inl (cI, 7, .inl u11))] : va_W) ++ va_pl L (zz_F K V)) t.heap ∧ va_K (dC, dI) vwCl [(cF, .object RX3), (cI, .int)] t ∧ va_D (va_A (([(a 0, .inr (7, [.ref (a 1), .ref (a 10), .ref (a 23), .ref (a 24), .ref (a 26), .ref (a 29), .ref (a 34), .ref (a 43), .int (nI nh), .int (nI nf), .int clk, .int hi])), (a 10, .inl (cF, 12, .inr (.inr (.inr (.inr fF))))), (a 23, .inl (cI, 10, .inl fl)), (a 43, .inr (5, [.ref (a 44), .ref (a 45), .ref (a 46), .ref (a 47), .ref (a 48), .ref (a 49), .ref (a 50), .ref (a 51), .int (nI cc), .int (nI np), .int td, .int hd])), (a 44, .inl (cI, 7, .inl q0)), (a 45, .inl (cI, 7, .inl q1)), (a 46, .inl (cI, 7, .inl q2)), (a 47, .inl (cI, 7, .inl q3)), (a 48, .inl (cI, 7, .inl q4)), (a 49, .inl (cI, 128, .inl q5)), (a 50, .inl (cI, 128, .inl q6)), (a 51, .inl (cI, 7, .inl q7))] : va_W) ++ va_pl L (zz_F K V)) sz) (([(a 0, .inr (7, [.ref (a 1), .ref (a 10), .ref (a 23), .ref (a 24), .ref (a 26), .ref (a 29), .ref (a 34), .ref (a 43), .int (nI nh), .int (nI nf), .int clk, .int hi])), (a 10, .inl (cF, 12, .inr (.inr (.inr (.inr fF))))), (a 23, .inl (cI, 10, .inl fl)), (a 43, .inr (5, [.ref (a 44), .ref (a 45), .ref (a 46), .ref (a 47), .ref (a 48), .ref (a 49), .ref (a 50), .ref (a 51), .int (nI u1), .int (nI u0), .int u2, .int u3])), (a 44, .inl (cI, 7, .inl u4)), (a 45, .inl (cI, 7, .inl u5)), (a 46, .inl (cI, 7, .inl u6)), (a 47, .inl (cI, 7, .inl u7)), (a 48, .inl (cI, 7, .inl u8)), (a 49, .inl (cI, 128, .inl u9)), (a 50, .inl (cI, 128, .inl u10)), (a 51, .inl (cI, 7, .inl u11))] : va_W) ++ va_pl L (zz_F K V))) (va_A (([(a 0, .inr (7, [.ref (a 1), .ref (a 10), .ref (a 23), .ref (a 24), .ref (a 26), .ref (a 29), .ref (a 34), .ref (a 43), .int (nI nh), .int (nI nf), .int clk, .int hi])), (a 10, .inl (cF, 12, .inr (.inr (.inr (.inr fF))))), (a 23, .inl (cI, 10, .inl fl)), (a 43, .inr (5, [.ref (a 44), .ref (a 45), .ref (a 46), .ref (a 47), .ref (a 48), .ref (a 49), .ref (a 50), .ref (a 51), .int (nI cc), .int (nI np), .int td, .int hd])), (a 44, .inl (cI, 7, .inl q0)), (a 45, .inl (cI, 7, .inl q1)), (a 46, .inl (cI, 7, .inl q2)), (a 47, .inl (cI, 7, .inl q3)), (a 48, .inl (cI, 7, .inl q4)), (a 49, .inl (cI, 128, .inl q5)), (a 50, .inl (cI, 128, .inl q6)), (a 51, .inl (cI, 7, .inl q7))] : va_W) ++ va_pl L (zz_F K V)) sz)) 0 0 (va_A (([(a 0, .inr (7, [.ref (a 1), .ref (a 10), .ref (a 23), .ref (a 24), .ref (a 26), .ref (a 29), .ref (a 34), .ref (a 43), .int (nI nh), .int (nI nf), .int clk, .int hi])), (a 10, .inl (cF, 12, .inr (.inr (.inr (.inr fF))))), (a 23, .inl (cI, 10, .inl fl)), (a 43, .inr (5, [.ref (a 44), .ref (a 45), .ref (a 46), .ref (a 47), .ref (a 48), .ref (a 49), .ref (a 50), .ref (a 51), .int (nI cc), .int (nI np), .int td, .int hd])), (a 44, .inl (cI, 7, .inl q0)), (a 45, .inl (cI, 7, .inl q1)), (a 46, .inl (cI, 7, .inl q2)), (a 47, .inl (cI, 7, .inl q3)), (a 48, .inl (cI, 7, .inl q4)), (a 49, .inl (cI, 128, .inl q5)), (a 50, .inl (cI, 128, .inl q6)), (a 51, .inl (cI, 7, .inl q7))] : va_W) ++ va_pl L (zz_F K V)) sz) := by
  refine Met.ofW (cc := cX7_plan) (maxL := 3) (ret := (some .int)) (by decide) rfl ?_
  intro p e s m args below meth c s₁ B hml hv
  obtain ⟨rfl, hsz, hP, hK, hD0, hN⟩ := hv
  have hx := B.exec
  have hb := B.bytes
  have hr := B.returns
  have hts := atoms_spec (ws := zz_w yX7_plan cX7_plan 3 (some .int)) B.pre
  have hw : ∀ w ∈ zz_all, w.before _ s = true := fun w h => hts w (List.mem_cons_of_mem _ h)
  have hown : s.vm.findClass RX7 = some m.cls := findClass_of_methodNamed B.named
  have hlocks := B.notSynchronized
  subst hsz
  have hD := hD0.self (sz := s.heap.size)
  generalize hAe : va_A (([(a 0, .inr (7, [.ref (a 1), .ref (a 10), .ref (a 23), .ref (a 24), .ref (a 26), .ref (a 29), .ref (a 34), .ref (a 43), .int (nI nh), .int (nI nf), .int clk, .int hi])), (a 10, .inl (cF, 12, .inr (.inr (.inr (.inr fF))))), (a 23, .inl (cI, 10, .inl fl)), (a 43, .inr (5, [.ref (a 44), .ref (a 45), .ref (a 46), .ref (a 47), .ref (a 48), .ref (a 49), .ref (a 50), .ref (a 51), .int (nI cc), .int (nI np), .int td, .int hd])), (a 44, .inl (cI, 7, .inl q0)), (a 45, .inl (cI, 7, .inl q1)), (a 46, .inl (cI, 7, .inl q2)), (a 47, .inl (cI, 7, .inl q3)), (a 48, .inl (cI, 7, .inl q4)), (a 49, .inl (cI, 128, .inl q5)), (a 50, .inl (cI, 128, .inl q6)), (a 51, .inl (cI, 7, .inl q7))] : va_W) ++ va_pl L (zz_F K V)) s.heap.size = A at hD ⊢
  have hA : ∀ q : Nat, s.heap.size ≤ q → A q := fun q h => by rw [← hAe]; exact Or.inr h
  have hS : va_S A s.heap s.heap [] := va_S.rf
  have hP : va_P (dC, dI) vwCl (([(a 0, .inr (7, [.ref (a 1), .ref (a 10), .ref (a 23), .ref (a 24), .ref (a 26), .ref (a 29), .ref (a 34), .ref (a 43), .int (nI nh), .int (nI nf), .int clk, .int hi])), (a 10, .inl (cF, 12, .inr (.inr (.inr (.inr fF))))), (a 23, .inl (cI, 10, .inl fl)), (a 43, .inr (5, [.ref (a 44), .ref (a 45), .ref (a 46), .ref (a 47), .ref (a 48), .ref (a 49), .ref (a 50), .ref (a 51), .int (nI cc), .int (nI np), .int td, .int hd])), (a 44, .inl (cI, 7, .inl q0)), (a 45, .inl (cI, 7, .inl q1)), (a 46, .inl (cI, 7, .inl q2)), (a 47, .inl (cI, 7, .inl q3)), (a 48, .inl (cI, 7, .inl q4)), (a 49, .inl (cI, 128, .inl q5)), (a 50, .inl (cI, 128, .inl q6)), (a 51, .inl (cI, 7, .inl q7))] : va_W) ++ va_pl L (zz_F K V)) s.heap := hP
  have hl := lv_entry ([.ref (a 0), .int p0]) (n := 3) (Nat.le_of_ble_eq_true rfl)
  rw [lg_entry_eq]
  generalize (lg_sl ([.ref (a 0), .int p0]) ++ List.replicate (3 - (lg_sl ([.ref (a 0), .int p0])).length) Slot.unset).toArray = ls at hl ⊢
  have hl : lv_has ls 3 [(0, .ref (a 0)), (1, .int p0)] := hl
  refine lv_iload_n hx hb dX7_plan_0 rfl (lv_at hl 1 rfl) ?_
  refine lv_iconst (v := 1) hx hb dX7_plan_1 (by decide) ?_
  refine lv_bipush (v := 99) hx hb dX7_plan_2 (by decide) ?_
  obtain ⟨hPc, hDc⟩ := zz_sub2 (ws' := []) hP hD [] (by decide) rfl
  have hKc := hK.sub (tys' := []) [] rfl
  have hFc := zz_free0 hS hA
  refine va_calli (va_runS (As := [.int p0, .int 1, .int 99]) (rest := []) ⟨hx, hb, hml, hown, hw⟩ (k_within l dC dI p0 1 99 s.heap.size) ⟨callB_of 3 hw (zz_good tw_1) rfl rfl rfl (hw _ tw_2) (hw _ tw_3) (by decide +kernel) ⟨Nat.le_of_ble_eq_true rfl, Nat.le_of_ble_eq_true rfl⟩, (hw _ tw_4)⟩ ⟨zz_blind, zz_pre hPc hKc hDc hN⟩ rfl rfl hl.1 rfl (lv_room (Nat.le_of_ble_eq_true rfl)) dX7_plan_4 ⟨Nat.le_of_ble_eq_true rfl, Nat.le_of_ble_eq_true rfl⟩) hS (fun q _ h => hFc q h) hFc (fun r_1 u_1 t H1 locs ht hvm e_1 hB hz1 hk1 hS => ?_)
  try dsimp only at e_1
  have hP := zz_keep hP hk1
  clear hk1 hB ht hvm
  generalize H1 = H at hP hS ⊢
  refine lv_if_eq (tgt := 19) hx hb dX7_plan_7 (by decide) (fun c_2 => ?_) (fun c_2 => ?_)
  · have zc_2 := c_2
    rw [e_1, zz_in0, Int32.le_iff_toInt_le, Int32.le_iff_toInt_le] at zc_2
    try rw [show (1 : Int32).toInt = 1 from by decide] at zc_2
    try rw [show (99 : Int32).toInt = 99 from by decide] at zc_2
    refine lv_iconst (v := (-1)) hx hb dX7_plan_19 (by decide) ?_
    obtain ⟨hP9, hD9⟩ := zz_part2 (cx := [(a 0, .inr (7, [.ref (a 1), .ref (a 10), .ref (a 23), .ref (a 24), .ref (a 26), .ref (a 29), .ref (a 34), .ref (a 43), .int (nI nh), .int (nI nf), .int clk, .int hi])), (a 10, .inl (cF, 12, .inr (.inr (.inr (.inr fF))))), (a 23, .inl (cI, 10, .inl fl)), (a 43, .inr (5, [.ref (a 44), .ref (a 45), .ref (a 46), .ref (a 47), .ref (a 48), .ref (a 49), .ref (a 50), .ref (a 51), .int (nI cc), .int (nI np), .int td, .int hd])), (a 44, .inl (cI, 7, .inl q0)), (a 45, .inl (cI, 7, .inl q1)), (a 46, .inl (cI, 7, .inl q2)), (a 47, .inl (cI, 7, .inl q3)), (a 48, .inl (cI, 7, .inl q4)), (a 49, .inl (cI, 128, .inl q5)), (a 50, .inl (cI, 128, .inl q6)), (a 51, .inl (cI, 7, .inl q7))]) hP hD [0, 1, 2, 3, 4, 5, 6, 7, 8, 9, 10, 11] (by decide) rfl
    have hK9 := hK.sub (tys' := [(cF, .object RX3), (cI, .int)]) [0, 1] rfl
    exact W.iret (v := (-1)) hx hb hr (fun t ht hW => ⟨⟨(-1), (np, cc, td, hd, q0, q1, q2, q3, q4, q5, q6, q7), rfl, ⟨by omega, by omega, hbn⟩, by rw [ht]; exact hP9, va_K.moved hW.alike hK9, hD9⟩, hS.F ht⟩) hS.2.2 dX7_plan_20
  · have zc_2 := c_2
    rw [e_1, zz_in0, Int32.le_iff_toInt_le, Int32.le_iff_toInt_le] at zc_2
    try rw [show (1 : Int32).toInt = 1 from by decide] at zc_2
    try rw [show (99 : Int32).toInt = 99 from by decide] at zc_2
    refine lv_aload_n hx hb dX7_plan_10 rfl (lv_at hl 0 rfl) ?_
    obtain ⟨hPc, hDc⟩ := zz_part2 (cx := [(a 0, .inr (7, [.ref (a 1), .ref (a 10), .ref (a 23), .ref (a 24), .ref (a 26), .ref (a 29), .ref (a 34), .ref (a 43), .int (nI nh), .int (nI nf), .int clk, .int hi])), (a 10, .inl (cF, 12, .inr (.inr (.inr (.inr fF)))))]) hP hD [0, 1] (by decide) rfl
    have hKc := hK.sub (tys' := [(cF, .object RX3)]) [0] rfl
    have hFc := zz_free0 hS hA
    refine va_calli (va_runV (As := []) (rest := []) ⟨hx, hb, hml, hown, hw⟩ (k_waiting l dC dI a nh nf clk hi cF fF V L K H.size (by omega) (by omega) hfF hF) ⟨callB_of 0 hw (zz_good tw_168) rfl rfl rfl (hw _ tw_2) (hw _ tw_169) (by decide +kernel) ⟨Nat.le_of_ble_eq_true rfl, Nat.le_of_ble_eq_true rfl⟩, (hw _ tw_170), (hw _ tw_171)⟩ ⟨zz_blind, va_recv hKc hPc (ci := 7) (q0 := 0) rfl rfl, zz_pre hPc hKc hDc hN⟩ rfl rfl hl.1 rfl (lv_room (Nat.le_of_ble_eq_true rfl)) dX7_plan_11 ⟨Nat.le_of_ble_eq_true rfl, Nat.le_of_ble_eq_true rfl⟩) hS (fun q _ h => hFc q h) hFc (fun r_3 u_3 t H1 locs ht hvm e_3 hB hz1 hk1 hS => ?_)
    try dsimp only at e_3
    have hP := zz_keep hP hk1
    clear hk1 hB ht hvm
    generalize H1 = H at hP hS ⊢
    refine lv_bipush (v := 7) hx hb dX7_plan_14 (by decide) ?_
    refine lv_icmp_le (tgt := 21) hx hb dX7_plan_16 (by decide) (fun c_4 => ?_) (fun c_4 => ?_)
    · have zc_4 := c_4
      rw [Int32.le_iff_toInt_le] at zc_4
      try rw [show (7 : Int32).toInt = 7 from by decide] at zc_4
      refine lv_aload_n hx hb dX7_plan_21 rfl (lv_at hl 0 rfl) ?_
      refine va_get (D := (dC, dI)) (ci := 7) (v := .ref (a 43)) (C := RX7) (T := TX7) (N := 12) hx hb hw zz_inX7 hown hK hP 0 rfl rfl 7 (by decide) (hw _ tw_172) (fun _ h9 => h9) rfl dX7_plan_22 ?_
      refine lv_aload_n hx hb dX7_plan_25 rfl (lv_at hl 0 rfl) ?_
      refine va_get (D := (dC, dI)) (ci := 7) (v := .int clk) (C := RX7) (T := TX7) (N := 12) hx hb hw zz_inX7 hown hK hP 0 rfl rfl 10 (by decide) (hw _ tw_39) (fun _ h9 => h9) rfl dX7_plan_26 ?_
      refine lv_iload_n hx hb dX7_plan_29 rfl (lv_at hl 1 rfl) ?_
      obtain ⟨hPc, hDc⟩ := zz_sub2 (ws' := [(a 43, .inr (5, [.ref (a 44), .ref (a 45), .ref (a 46), .ref (a 47), .ref (a 48), .ref (a 49), .ref (a 50), .ref (a 51), .int (nI cc), .int (nI np), .int td, .int hd]))]) hP hD [3] (by decide) rfl
      have hKc := hK.sub (tys' := []) [] rfl
      have hFc := zz_free1 hDc hS hA
      refine va_callv (va_runVN (As := [.int clk, .int p0]) (rest := []) ⟨hx, hb, hml, hown, hw⟩ (k_begin l dC dI a np cc td hd clk p0 H.size) ⟨va_cnB 2 hw (zz_good tw_173) rfl rfl rfl (hN.1 _ zz_n62) (hw _ tw_152) (by decide +kernel) ⟨Nat.le_of_ble_eq_true rfl, Nat.le_of_ble_eq_true rfl⟩, (hw _ tw_174), (hw _ tw_175)⟩ ⟨zz_blind, va_recv hKc hPc (ci := 5) (q0 := 0) rfl rfl, zz_pre hPc hKc hDc hN⟩ rfl rfl hl.1 rfl (lv_room (Nat.le_of_ble_eq_true rfl)) dX7_plan_30 ⟨Nat.le_of_ble_eq_true rfl, Nat.le_of_ble_eq_true rfl⟩) hS (fun q _ h => hFc q h) hFc (fun u_5 t H1 locs ht hvm e_5 hB hz1 hk1 hS => ?_)
      try dsimp only at e_5
      obtain ⟨td2, hd2⟩ := u_5
      obtain ⟨hP1, hK1, hD1⟩ := hB
      rw [ht] at hP1
      have hK1 := va_K.moved hvm.symm hK1
      try dsimp only at e_5
      obtain ⟨hP, hD⟩ := va_joinQ (wr := [(a 0, .inr (7, [.ref (a 1), .ref (a 10), .ref (a 23), .ref (a 24), .ref (a 26), .ref (a 29), .ref (a 34), .ref (a 43), .int (nI nh), .int (nI nf), .int clk, .int hi])), (a 10, .inl (cF, 12, .inr (.inr (.inr (.inr fF))))), (a 23, .inl (cI, 10, .inl fl)), (a 44, .inl (cI, 7, .inl q0)), (a 45, .inl (cI, 7, .inl q1)), (a 46, .inl (cI, 7, .inl q2)), (a 47, .inl (cI, 7, .inl q3)), (a 48, .inl (cI, 7, .inl q4)), (a 49, .inl (cI, 128, .inl q5)), (a 50, .inl (cI, 128, .inl q6)), (a 51, .inl (cI, 7, .inl q7))]) (w1 := [(a 43, .inr (5, [.ref (a 44), .ref (a 45), .ref (a 46), .ref (a 47), .ref (a 48), .ref (a 49), .ref (a 50), .ref (a 51), .int (nI cc), .int (nI 0), .int td2, .int hd2]))]) hP hD [3] [0, 1, 2, 4, 5, 6, 7, 8, 9, 10, 11] rfl rfl (by decide) (by decide) hk1 hFc hP1 hD1
      clear hk1 ht hvm
      generalize H1 = H at hP hS ⊢
      obtain ⟨hP, hD⟩ := zz_ty (D := (dC, dI)) (cl := vwCl) (A := A) (H := H) (([(a 0, .inr (7, [.ref (a 1), .ref (a 10), .ref (a 23), .ref (a 24), .ref (a 26), .ref (a 29), .ref (a 34), .ref (a 43), .int (nI nh), .int (nI nf), .int clk, .int hi])), (a 10, .inl (cF, 12, .inr (.inr (.inr (.inr fF))))), (a 23, .inl (cI, 10, .inl fl)), (a 44, .inl (cI, 7, .inl q0)), (a 45, .inl (cI, 7, .inl q1)), (a 46, .inl (cI, 7, .inl q2)), (a 47, .inl (cI, 7, .inl q3)), (a 48, .inl (cI, 7, .inl q4)), (a 49, .inl (cI, 128, .inl q5)), (a 50, .inl (cI, 128, .inl q6)), (a 51, .inl (cI, 7, .inl q7)), (a 43, .inr (5, [.ref (a 44), .ref (a 45), .ref (a 46), .ref (a 47), .ref (a 48), .ref (a 49), .ref (a 50), .ref (a 51), .int (nI cc), .int (nI 0), .int td2, .int hd2]))] : va_W) ++ va_pl L (zz_F K V)) hP hD rfl
      refine lv_iconst (v := 0) hx hb dX7_plan_33 (by decide) ?_
      refine lv_istore_n (lv' := [(2, .int 0), (0, .ref (a 0)), (1, .int p0)]) hx hb dX7_plan_34 rfl hl (by decide) rfl (fun ls hl => ?_)
      refine zz_loopS (fun (u : (Nat) × (Nat) × (Nat → Int32) × (Nat → Int32) × (Nat → Int32) × (Nat → Int32) × (Nat → Int32)) => match u with | (i, mp, h0, h1, h2, h3, h4) => (([(a 0, .inr (7, [.ref (a 1), .ref (a 10), .ref (a 23), .ref (a 24), .ref (a 26), .ref (a 29), .ref (a 34), .ref (a 43), .int (nI nh), .int (nI nf), .int clk, .int hi])), (a 10, .inl (cF, 12, .inr (.inr (.inr (.inr fF))))), (a 23, .inl (cI, 10, .inl fl)), (a 43, .inr (5, [.ref (a 44), .ref (a 45), .ref (a 46), .ref (a 47), .ref (a 48), .ref (a 49), .ref (a 50), .ref (a 51), .int (nI cc), .int (nI mp), .int td2, .int hd2])), (a 44, .inl (cI, 7, .inl h0)), (a 45, .inl (cI, 7, .inl h1)), (a 46, .inl (cI, 7, .inl h2)), (a 47, .inl (cI, 7, .inl h3)), (a 48, .inl (cI, 7, .inl h4)), (a 49, .inl (cI, 128, .inl q5)), (a 50, .inl (cI, 128, .inl q6)), (a 51, .inl (cI, 7, .inl q7))] : va_W) ++ va_pl L (zz_F K V))) (fun (u : (Nat) × (Nat) × (Nat → Int32) × (Nat → Int32) × (Nat → Int32) × (Nat → Int32) × (Nat → Int32)) => match u with | (i, mp, h0, h1, h2, h3, h4) => [(0, .ref (a 0)), (1, .int p0), (2, .int (nI i))]) (fun (u : (Nat) × (Nat) × (Nat → Int32) × (Nat → Int32) × (Nat → Int32) × (Nat → Int32) × (Nat → Int32)) => match u with | (i, mp, h0, h1, h2, h3, h4) => i ≤ nf ∧ mp ≤ 7) (fun (u : (Nat) × (Nat) × (Nat → Int32) × (Nat → Int32) × (Nat → Int32) × (Nat → Int32) × (Nat → Int32)) => match u with | (i, mp, h0, h1, h2, h3, h4) => nf - i) (fun u hI H locs ls hP hD hS hl ih_35 => ?_) (0, 0, q0, q1, q2, q3, q4) (show 0 ≤ nf ∧ 0 ≤ 7 from (by refine ⟨?_, ?_⟩ <;> omega)) _ _ _ (hP.part (cx := [(a 0, .inr (7, [.ref (a 1), .ref (a 10), .ref (a 23), .ref (a 24), .ref (a 26), .ref (a 29), .ref (a 34), .ref (a 43), .int (nI nh), .int (nI nf), .int clk, .int hi])), (a 10, .inl (cF, 12, .inr (.inr (.inr (.inr fF))))), (a 23, .inl (cI, 10, .inl fl)), (a 43, .inr (5, [.ref (a 44), .ref (a 45), .ref (a 46), .ref (a 47), .ref (a 48), .ref (a 49), .ref (a 50), .ref (a 51), .int (nI cc), .int (nI 0), .int td2, .int hd2])), (a 44, .inl (cI, 7, .inl q0)), (a 45, .inl (cI, 7, .inl q1)), (a 46, .inl (cI, 7, .inl q2)), (a 47, .inl (cI, 7, .inl q3)), (a 48, .inl (cI, 7, .inl q4)), (a 49, .inl (cI, 128, .inl q5)), (a 50, .inl (cI, 128, .inl q6)), (a 51, .inl (cI, 7, .inl q7))]) [0, 1, 2, 11, 3, 4, 5, 6, 7, 8, 9, 10] rfl) (hD.part (cx := [(a 0, .inr (7, [.ref (a 1), .ref (a 10), .ref (a 23), .ref (a 24), .ref (a 26), .ref (a 29), .ref (a 34), .ref (a 43), .int (nI nh), .int (nI nf), .int clk, .int hi])), (a 10, .inl (cF, 12, .inr (.inr (.inr (.inr fF))))), (a 23, .inl (cI, 10, .inl fl)), (a 43, .inr (5, [.ref (a 44), .ref (a 45), .ref (a 46), .ref (a 47), .ref (a 48), .ref (a 49), .ref (a 50), .ref (a 51), .int (nI cc), .int (nI 0), .int td2, .int hd2])), (a 44, .inl (cI, 7, .inl q0)), (a 45, .inl (cI, 7, .inl q1)), (a 46, .inl (cI, 7, .inl q2)), (a 47, .inl (cI, 7, .inl q3)), (a 48, .inl (cI, 7, .inl q4)), (a 49, .inl (cI, 128, .inl q5)), (a 50, .inl (cI, 128, .inl q6)), (a 51, .inl (cI, 7, .inl q7))]) [0, 1, 2, 11, 3, 4, 5, 6, 7, 8, 9, 10] (by decide) rfl) hS (lv_sub hl [1, 2, 0] rfl)
      obtain ⟨i, mp, h0, h1, h2, h3, h4⟩ := u
      obtain ⟨hP, hD⟩ := zz_ty (D := (dC, dI)) (cl := vwCl) (A := A) (H := H) (([(a 0, .inr (7, [.ref (a 1), .ref (a 10), .ref (a 23), .ref (a 24), .ref (a 26), .ref (a 29), .ref (a 34), .ref (a 43), .int (nI nh), .int (nI nf), .int clk, .int hi])), (a 10, .inl (cF, 12, .inr (.inr (.inr (.inr fF))))), (a 23, .inl (cI, 10, .inl fl)), (a 43, .inr (5, [.ref (a 44), .ref (a 45), .ref (a 46), .ref (a 47), .ref (a 48), .ref (a 49), .ref (a 50), .ref (a 51), .int (nI cc), .int (nI mp), .int td2, .int hd2])), (a 44, .inl (cI, 7, .inl h0)), (a 45, .inl (cI, 7, .inl h1)), (a 46, .inl (cI, 7, .inl h2)), (a 47, .inl (cI, 7, .inl h3)), (a 48, .inl (cI, 7, .inl h4)), (a 49, .inl (cI, 128, .inl q5)), (a 50, .inl (cI, 128, .inl q6)), (a 51, .inl (cI, 7, .inl q7))] : va_W) ++ va_pl L (zz_F K V)) hP hD rfl
      have hl : lv_has ls 3 [(0, .ref (a 0)), (1, .int p0), (2, .int (nI i))] := hl
      have hI : i ≤ nf ∧ mp ≤ 7 := hI
      obtain ⟨ii, im⟩ := hI
      refine lv_iload_n hx hb dX7_plan_35 rfl (lv_at hl 2 rfl) ?_
      refine lv_aload_n hx hb dX7_plan_36 rfl (lv_at hl 0 rfl) ?_
      refine va_get (D := (dC, dI)) (ci := 7) (v := .int (nI nf)) (C := RX7) (T := TX7) (N := 12) hx hb hw zz_inX7 hown hK hP 0 rfl rfl 9 (by decide) (hw _ tw_6) (fun _ h9 => h9) rfl dX7_plan_37 ?_
      refine lv_icmp_ge (tgt := 75) hx hb dX7_plan_40 (by decide) (fun c_6 => ?_) (fun c_6 => ?_)
      · have zc_6 := c_6
        rw [Int32.le_iff_toInt_le] at zc_6
        try rw [zz_toInt i (by omega)] at zc_6
        try rw [zz_toInt nf (by omega)] at zc_6
        refine lv_aload_n hx hb dX7_plan_75 rfl (lv_at hl 0 rfl) ?_
        refine va_get (D := (dC, dI)) (ci := 7) (v := .ref (a 43)) (C := RX7) (T := TX7) (N := 12) hx hb hw zz_inX7 hown hK hP 0 rfl rfl 7 (by decide) (hw _ tw_172) (fun _ h9 => h9) rfl dX7_plan_76 ?_
        refine lv_aload_n hx hb dX7_plan_79 rfl (lv_at hl 0 rfl) ?_
        refine va_get (D := (dC, dI)) (ci := 7) (v := .ref (a 23)) (C := RX7) (T := TX7) (N := 12) hx hb hw zz_inX7 hown hK hP 0 rfl rfl 2 (by decide) (hw _ tw_40) (fun _ h9 => h9) rfl dX7_plan_80 ?_
        obtain ⟨hPc, hDc⟩ := zz_sub2 (ws' := [(a 43, .inr (5, [.ref (a 44), .ref (a 45), .ref (a 46), .ref (a 47), .ref (a 48), .ref (a 49), .ref (a 50), .ref (a 51), .int (nI cc), .int (nI mp), .int td2, .int hd2])), (a 44, .inl (cI, 7, .inl h0)), (a 45, .inl (cI, 7, .inl h1)), (a 46, .inl (cI, 7, .inl h2)), (a 47, .inl (cI, 7, .inl h3)), (a 48, .inl (cI, 7, .inl h4)), (a 49, .inl (cI, 128, .inl q5)), (a 50, .inl (cI, 128, .inl q6)), (a 51, .inl (cI, 7, .inl q7)), (a 23, .inl (cI, 10, .inl fl))]) hP hD [3, 4, 5, 6, 7, 8, 9, 10, 11, 2] (by decide) rfl
        have hKc := hK.sub (tys' := [(cI, .int)]) [1] rfl
        have hFc := zz_free1 hDc hS hA
        refine va_calli (va_runVN (As := [.ref (a 23)]) (rest := []) ⟨hx, hb, hml, hown, hw⟩ (k_choose l dC dI a cI mp cc td2 hd2 h0 h1 h2 h3 h4 q5 q6 q7 fl H.size (by omega) hbn) ⟨va_cnB 1 hw (zz_good tw_176) rfl rfl rfl (hN.1 _ zz_n64) (hw _ tw_152) (by decide +kernel) ⟨Nat.le_of_ble_eq_true rfl, Nat.le_of_ble_eq_true rfl⟩, (hw _ tw_177), (hw _ tw_178)⟩ ⟨zz_blind, va_recv hKc hPc (ci := 5) (q0 := 0) rfl rfl, zz_pre hPc hKc hDc hN⟩ rfl rfl hl.1 rfl (lv_room (Nat.le_of_ble_eq_true rfl)) dX7_plan_83 ⟨Nat.le_of_ble_eq_true rfl, Nat.le_of_ble_eq_true rfl⟩) hS (fun q _ h => hFc q h) hFc (fun r_7 u_7 t H1 locs ht hvm e_7 hB hz1 hk1 hS => ?_)
        try dsimp only at e_7
        obtain ⟨v_7_0, v_7_1, v_7_2, v_7_3⟩ := u_7
        obtain ⟨hP1, hK1, hD1⟩ := hB
        rw [ht] at hP1
        have hK1 := va_K.moved hvm.symm hK1
        try dsimp only at e_7
        obtain ⟨hP, hD⟩ := va_joinQ (wr := [(a 0, .inr (7, [.ref (a 1), .ref (a 10), .ref (a 23), .ref (a 24), .ref (a 26), .ref (a 29), .ref (a 34), .ref (a 43), .int (nI nh), .int (nI nf), .int clk, .int hi])), (a 10, .inl (cF, 12, .inr (.inr (.inr (.inr fF)))))]) (w1 := [(a 43, .inr (5, [.ref (a 44), .ref (a 45), .ref (a 46), .ref (a 47), .ref (a 48), .ref (a 49), .ref (a 50), .ref (a 51), .int (nI v_7_0), .int (nI mp), .int td2, .int hd2])), (a 44, .inl (cI, 7, .inl h0)), (a 45, .inl (cI, 7, .inl h1)), (a 46, .inl (cI, 7, .inl h2)), (a 47, .inl (cI, 7, .inl h3)), (a 48, .inl (cI, 7, .inl h4)), (a 49, .inl (cI, 128, .inl v_7_1)), (a 50, .inl (cI, 128, .inl v_7_2)), (a 51, .inl (cI, 7, .inl v_7_3)), (a 23, .inl (cI, 10, .inl fl))]) hP hD [3, 4, 5, 6, 7, 8, 9, 10, 11, 2] [0, 1] rfl rfl (by decide) (by decide) hk1 hFc hP1 hD1
        clear hk1 ht hvm
        generalize H1 = H at hP hS ⊢
        obtain ⟨hP, hD⟩ := zz_ty (D := (dC, dI)) (cl := vwCl) (A := A) (H := H) (([(a 0, .inr (7, [.ref (a 1), .ref (a 10), .ref (a 23), .ref (a 24), .ref (a 26), .ref (a 29), .ref (a 34), .ref (a 43), .int (nI nh), .int (nI nf), .int clk, .int hi])), (a 10, .inl (cF, 12, .inr (.inr (.inr (.inr fF))))), (a 43, .inr (5, [.ref (a 44), .ref (a 45), .ref (a 46), .ref (a 47), .ref (a 48), .ref (a 49), .ref (a 50), .ref (a 51), .int (nI v_7_0), .int (nI mp), .int td2, .int hd2])), (a 44, .inl (cI, 7, .inl h0)), (a 45, .inl (cI, 7, .inl h1)), (a 46, .inl (cI, 7, .inl h2)), (a 47, .inl (cI, 7, .inl h3)), (a 48, .inl (cI, 7, .inl h4)), (a 49, .inl (cI, 128, .inl v_7_1)), (a 50, .inl (cI, 128, .inl v_7_2)), (a 51, .inl (cI, 7, .inl v_7_3)), (a 23, .inl (cI, 10, .inl fl))] : va_W) ++ va_pl L (zz_F K V)) hP hD rfl
        obtain ⟨ec_e_7, eb_e_7⟩ := e_7
        obtain ⟨hP9, hD9⟩ := zz_part2 (cx := [(a 0, .inr (7, [.ref (a 1), .ref (a 10), .ref (a 23), .ref (a 24), .ref (a 26), .ref (a 29), .ref (a 34), .ref (a 43), .int (nI nh), .int (nI nf), .int clk, .int hi])), (a 10, .inl (cF, 12, .inr (.inr (.inr (.inr fF))))), (a 23, .inl (cI, 10, .inl fl)), (a 43, .inr (5, [.ref (a 44), .ref (a 45), .ref (a 46), .ref (a 47), .ref (a 48), .ref (a 49), .ref (a 50), .ref (a 51), .int (nI v_7_0), .int (nI mp), .int td2, .int hd2])), (a 44, .inl (cI, 7, .inl h0)), (a 45, .inl (cI, 7, .inl h1)), (a 46, .inl (cI, 7, .inl h2)), (a 47, .inl (cI, 7, .inl h3)), (a 48, .inl (cI, 7, .inl h4)), (a 49, .inl (cI, 128, .inl v_7_1)), (a 50, .inl (cI, 128, .inl v_7_2)), (a 51, .inl (cI, 7, .inl v_7_3))]) hP hD [0, 1, 11, 2, 3, 4, 5, 6, 7, 8, 9, 10] (by decide) rfl
        have hK9 := hK.sub (tys' := [(cF, .object RX3), (cI, .int)]) [0, 1] rfl
        exact W.iret (v := r_7) hx hb hr (fun t ht hW => ⟨⟨r_7, (mp, v_7_0, td2, hd2, h0, h1, h2, h3, h4, v_7_1, v_7_2, v_7_3), rfl, ⟨by omega, by omega, eb_e_7⟩, by rw [ht]; exact hP9, va_K.moved hW.alike hK9, hD9⟩, hS.F ht⟩) hS.2.2 dX7_plan_86
      · have zc_6 := c_6
        rw [Int32.le_iff_toInt_le] at zc_6
        try rw [zz_toInt i (by omega)] at zc_6
        try rw [zz_toInt nf (by omega)] at zc_6
        refine lv_aload_n hx hb dX7_plan_43 rfl (lv_at hl 0 rfl) ?_
        refine va_get (D := (dC, dI)) (ci := 7) (v := .ref (a 10)) (C := RX7) (T := TX7) (N := 12) hx hb hw zz_inX7 hown hK hP 0 rfl rfl 1 (by decide) (hw _ tw_7) (fun _ h9 => h9) rfl dX7_plan_44 ?_
        refine lv_iload_n hx hb dX7_plan_47 rfl (lv_at hl 2 rfl) ?_
        refine va_aldq hx hb hK hP 1 0 rfl rfl (vp_in_iff.mpr (by rw [zz_toInt i (by omega)]; constructor <;> omega)) dX7_plan_48 ?_
        refine zz_setv (.ref (a (11 + i))) (by rw [zz_cl (by omega)]; exact congrArg va_rf (hfF i (by omega))) ?_
        obtain ⟨kq_8, hq_8⟩ := zz_pg3 (X := [(a 0, .inr (7, [.ref (a 1), .ref (a 10), .ref (a 23), .ref (a 24), .ref (a 26), .ref (a 29), .ref (a 34), .ref (a 43), .int (nI nh), .int (nI nf), .int clk, .int hi])), (a 10, .inl (cF, 12, .inr (.inr (.inr (.inr fF))))), (a 23, .inl (cI, 10, .inl fl)), (a 43, .inr (5, [.ref (a 44), .ref (a 45), .ref (a 46), .ref (a 47), .ref (a 48), .ref (a 49), .ref (a 50), .ref (a 51), .int (nI cc), .int (nI mp), .int td2, .int hd2])), (a 44, .inl (cI, 7, .inl h0)), (a 45, .inl (cI, 7, .inl h1)), (a 46, .inl (cI, 7, .inl h2)), (a 47, .inl (cI, 7, .inl h3)), (a 48, .inl (cI, 7, .inl h4)), (a 49, .inl (cI, 128, .inl q5)), (a 50, .inl (cI, 128, .inl q6)), (a 51, .inl (cI, 7, .inl q7))]) (V := V) (hF i (by omega)).1 (hF i (by omega)).2
        have hDo := hD
        refine va_getN (D := (dC, dI)) (ci := 3) (v := .int (V (a (11 + i)) 2)) (C := RX3) (T := TX3) (N := 7) hx hb hw zz_inX3 hown hK hP kq_8 hq_8 rfl 2 (by decide) (hN.use zz_n13) (fun _ h9 => h9) rfl dX7_plan_49 ?_
        refine lv_if_le (tgt := 69) hx hb dX7_plan_52 (by decide) (fun c_9 => ?_) (fun c_9 => ?_)
        · have zc_9 := c_9
          rw [Int32.le_iff_toInt_le] at zc_9
          try rw [show (0 : Int32).toInt = 0 from by decide] at zc_9
          refine lv_iinc (v := (nI (i + 1))) (lv' := [(2, .int (nI (i + 1))), (0, .ref (a 0)), (1, .int p0)]) hx hb dX7_plan_69 hl (k := 2) rfl (nI_1 _) (by decide) rfl (fun ls hl => ?_)
          refine lv_goto (tgt := 35) hx hb dX7_plan_72 (by decide) ?_
          exact ih_35 ((i + 1), mp, h0, h1, h2, h3, h4) (show (i + 1) ≤ nf ∧ mp ≤ 7 from (by refine ⟨?_, ?_⟩ <;> omega)) (show nf - (i + 1) < nf - i from by omega) _ _ _ (hP.part (cx := [(a 0, .inr (7, [.ref (a 1), .ref (a 10), .ref (a 23), .ref (a 24), .ref (a 26), .ref (a 29), .ref (a 34), .ref (a 43), .int (nI nh), .int (nI nf), .int clk, .int hi])), (a 10, .inl (cF, 12, .inr (.inr (.inr (.inr fF))))), (a 23, .inl (cI, 10, .inl fl)), (a 43, .inr (5, [.ref (a 44), .ref (a 45), .ref (a 46), .ref (a 47), .ref (a 48), .ref (a 49), .ref (a 50), .ref (a 51), .int (nI cc), .int (nI mp), .int td2, .int hd2])), (a 44, .inl (cI, 7, .inl h0)), (a 45, .inl (cI, 7, .inl h1)), (a 46, .inl (cI, 7, .inl h2)), (a 47, .inl (cI, 7, .inl h3)), (a 48, .inl (cI, 7, .inl h4)), (a 49, .inl (cI, 128, .inl q5)), (a 50, .inl (cI, 128, .inl q6)), (a 51, .inl (cI, 7, .inl q7))]) [0, 1, 2, 3, 4, 5, 6, 7, 8, 9, 10, 11] rfl) (hD.part (cx := [(a 0, .inr (7, [.ref (a 1), .ref (a 10), .ref (a 23), .ref (a 24), .ref (a 26), .ref (a 29), .ref (a 34), .ref (a 43), .int (nI nh), .int (nI nf), .int clk, .int hi])), (a 10, .inl (cF, 12, .inr (.inr (.inr (.inr fF))))), (a 23, .inl (cI, 10, .inl fl)), (a 43, .inr (5, [.ref (a 44), .ref (a 45), .ref (a 46), .ref (a 47), .ref (a 48), .ref (a 49), .ref (a 50), .ref (a 51), .int (nI cc), .int (nI mp), .int td2, .int hd2])), (a 44, .inl (cI, 7, .inl h0)), (a 45, .inl (cI, 7, .inl h1)), (a 46, .inl (cI, 7, .inl h2)), (a 47, .inl (cI, 7, .inl h3)), (a 48, .inl (cI, 7, .inl h4)), (a 49, .inl (cI, 128, .inl q5)), (a 50, .inl (cI, 128, .inl q6)), (a 51, .inl (cI, 7, .inl q7))]) [0, 1, 2, 3, 4, 5, 6, 7, 8, 9, 10, 11] (by decide) rfl) hS (lv_sub hl [1, 2, 0] rfl)
        · have zc_9 := c_9
          rw [Int32.le_iff_toInt_le] at zc_9
          try rw [show (0 : Int32).toInt = 0 from by decide] at zc_9
          refine lv_aload_n hx hb dX7_plan_55 rfl (lv_at hl 0 rfl) ?_
          refine va_get (D := (dC, dI)) (ci := 7) (v := .ref (a 43)) (C := RX7) (T := TX7) (N := 12) hx hb hw zz_inX7 hown hK hP 0 rfl rfl 7 (by decide) (hw _ tw_172) (fun _ h9 => h9) rfl dX7_plan_56 ?_
          refine lv_iload_n hx hb dX7_plan_59 rfl (lv_at hl 2 rfl) ?_
          refine lv_aload_n hx hb dX7_plan_60 rfl (lv_at hl 0 rfl) ?_
          refine va_get (D := (dC, dI)) (ci := 7) (v := .ref (a 10)) (C := RX7) (T := TX7) (N := 12) hx hb hw zz_inX7 hown hK hP 0 rfl rfl 1 (by decide) (hw _ tw_7) (fun _ h9 => h9) rfl dX7_plan_61 ?_
          refine lv_iload_n hx hb dX7_plan_64 rfl (lv_at hl 2 rfl) ?_
          refine va_aldq hx hb hK hP 1 0 rfl rfl (vp_in_iff.mpr (by rw [zz_toInt i (by omega)]; constructor <;> omega)) dX7_plan_65 ?_
          refine zz_setv (.ref (a (11 + i))) (by rw [zz_cl (by omega)]; exact congrArg va_rf (hfF i (by omega))) ?_
          obtain ⟨hPc, hDc⟩ := zz_part2 (cx := [(a 43, .inr (5, [.ref (a 44), .ref (a 45), .ref (a 46), .ref (a 47), .ref (a 48), .ref (a 49), .ref (a 50), .ref (a 51), .int (nI cc), .int (nI mp), .int td2, .int hd2])), (a 44, .inl (cI, 7, .inl h0)), (a 45, .inl (cI, 7, .inl h1)), (a 46, .inl (cI, 7, .inl h2)), (a 47, .inl (cI, 7, .inl h3)), (a 48, .inl (cI, 7, .inl h4))]) hP hD [3, 4, 5, 6, 7, 8] (by decide) rfl
          have hKc := hK.sub (tys' := [(cI, .int)]) [1] rfl
          have hFc := zz_free1 hDc hS hA
          refine va_callv (va_runVN (As := [.int (nI i), .ref (a (11 + i))]) (rest := []) ⟨hx, hb, hml, hown, hw⟩ (k_take l dC dI a cI mp cc td2 hd2 h0 h1 h2 h3 h4 V (nI i) (a (11 + i)) L K H.size (by omega) (hF i (by omega)).1 (hF i (by omega)).2) ⟨va_cnB 2 hw (zz_good tw_179) rfl rfl rfl (hN.1 _ zz_n63) (hw _ tw_152) (by decide +kernel) ⟨Nat.le_of_ble_eq_true rfl, Nat.le_of_ble_eq_true rfl⟩, (hw _ tw_180), (hw _ tw_181)⟩ ⟨zz_blind, va_recv hKc hPc (ci := 5) (q0 := 0) rfl rfl, zz_pre hPc hKc hDc hN⟩ rfl rfl hl.1 rfl (lv_room (Nat.le_of_ble_eq_true rfl)) dX7_plan_66 ⟨Nat.le_of_ble_eq_true rfl, Nat.le_of_ble_eq_true rfl⟩) hS (fun q _ h => hFc q h) hFc (fun u_10 t H1 locs ht hvm e_10 hB hz1 hk1 hS => ?_)
          try dsimp only at e_10
          obtain ⟨v_10_0, v_10_1, v_10_2, v_10_3, v_10_4, v_10_5⟩ := u_10
          obtain ⟨hP1, hK1, hD1⟩ := hB
          rw [ht] at hP1
          have hK1 := va_K.moved hvm.symm hK1
          try dsimp only at e_10
          obtain ⟨hP, hD⟩ := va_joinP (cx := [(a 43, .inr (5, [.ref (a 44), .ref (a 45), .ref (a 46), .ref (a 47), .ref (a 48), .ref (a 49), .ref (a 50), .ref (a 51), .int (nI cc), .int (nI mp), .int td2, .int hd2])), (a 44, .inl (cI, 7, .inl h0)), (a 45, .inl (cI, 7, .inl h1)), (a 46, .inl (cI, 7, .inl h2)), (a 47, .inl (cI, 7, .inl h3)), (a 48, .inl (cI, 7, .inl h4))]) (wr := [(a 0, .inr (7, [.ref (a 1), .ref (a 10), .ref (a 23), .ref (a 24), .ref (a 26), .ref (a 29), .ref (a 34), .ref (a 43), .int (nI nh), .int (nI nf), .int clk, .int hi])), (a 10, .inl (cF, 12, .inr (.inr (.inr (.inr fF))))), (a 23, .inl (cI, 10, .inl fl)), (a 49, .inl (cI, 128, .inl q5)), (a 50, .inl (cI, 128, .inl q6)), (a 51, .inl (cI, 7, .inl q7))]) (rx := [(a 43, .inr (5, [.ref (a 44), .ref (a 45), .ref (a 46), .ref (a 47), .ref (a 48), .ref (a 49), .ref (a 50), .ref (a 51), .int (nI cc), .int (nI v_10_0), .int td2, .int hd2])), (a 44, .inl (cI, 7, .inl v_10_1)), (a 45, .inl (cI, 7, .inl v_10_2)), (a 46, .inl (cI, 7, .inl v_10_3)), (a 47, .inl (cI, 7, .inl v_10_4)), (a 48, .inl (cI, 7, .inl v_10_5))]) hP hD [3, 4, 5, 6, 7, 8] [0, 1, 2, 9, 10, 11] rfl rfl (by decide) (by decide) hk1 hFc hP1 hD1
          clear hk1 ht hvm
          generalize H1 = H at hP hS ⊢
          obtain ⟨hP, hD⟩ := zz_ty (D := (dC, dI)) (cl := vwCl) (A := A) (H := H) (([(a 0, .inr (7, [.ref (a 1), .ref (a 10), .ref (a 23), .ref (a 24), .ref (a 26), .ref (a 29), .ref (a 34), .ref (a 43), .int (nI nh), .int (nI nf), .int clk, .int hi])), (a 10, .inl (cF, 12, .inr (.inr (.inr (.inr fF))))), (a 23, .inl (cI, 10, .inl fl)), (a 49, .inl (cI, 128, .inl q5)), (a 50, .inl (cI, 128, .inl q6)), (a 51, .inl (cI, 7, .inl q7)), (a 43, .inr (5, [.ref (a 44), .ref (a 45), .ref (a 46), .ref (a 47), .ref (a 48), .ref (a 49), .ref (a 50), .ref (a 51), .int (nI cc), .int (nI v_10_0), .int td2, .int hd2])), (a 44, .inl (cI, 7, .inl v_10_1)), (a 45, .inl (cI, 7, .inl v_10_2)), (a 46, .inl (cI, 7, .inl v_10_3)), (a 47, .inl (cI, 7, .inl v_10_4)), (a 48, .inl (cI, 7, .inl v_10_5))] : va_W) ++ va_pl L (zz_F K V)) hP hD rfl
          refine lv_iinc (v := (nI (i + 1))) (lv' := [(2, .int (nI (i + 1))), (0, .ref (a 0)), (1, .int p0)]) hx hb dX7_plan_69 hl (k := 2) rfl (nI_1 _) (by decide) rfl (fun ls hl => ?_)
          refine lv_goto (tgt := 35) hx hb dX7_plan_72 (by decide) ?_
          exact ih_35 ((i + 1), v_10_0, v_10_1, v_10_2, v_10_3, v_10_4, v_10_5) (show (i + 1) ≤ nf ∧ v_10_0 ≤ 7 from (by refine ⟨?_, ?_⟩ <;> omega)) (show nf - (i + 1) < nf - i from by omega) _ _ _ (hP.part (cx := [(a 0, .inr (7, [.ref (a 1), .ref (a 10), .ref (a 23), .ref (a 24), .ref (a 26), .ref (a 29), .ref (a 34), .ref (a 43), .int (nI nh), .int (nI nf), .int clk, .int hi])), (a 10, .inl (cF, 12, .inr (.inr (.inr (.inr fF))))), (a 23, .inl (cI, 10, .inl fl)), (a 43, .inr (5, [.ref (a 44), .ref (a 45), .ref (a 46), .ref (a 47), .ref (a 48), .ref (a 49), .ref (a 50), .ref (a 51), .int (nI cc), .int (nI v_10_0), .int td2, .int hd2])), (a 44, .inl (cI, 7, .inl v_10_1)), (a 45, .inl (cI, 7, .inl v_10_2)), (a 46, .inl (cI, 7, .inl v_10_3)), (a 47, .inl (cI, 7, .inl v_10_4)), (a 48, .inl (cI, 7, .inl v_10_5)), (a 49, .inl (cI, 128, .inl q5)), (a 50, .inl (cI, 128, .inl q6)), (a 51, .inl (cI, 7, .inl q7))]) [0, 1, 2, 6, 7, 8, 9, 10, 11, 3, 4, 5] rfl) (hD.part (cx := [(a 0, .inr (7, [.ref (a 1), .ref (a 10), .ref (a 23), .ref (a 24), .ref (a 26), .ref (a 29), .ref (a 34), .ref (a 43), .int (nI nh), .int (nI nf), .int clk, .int hi])), (a 10, .inl (cF, 12, .inr (.inr (.inr (.inr fF))))), (a 23, .inl (cI, 10, .inl fl)), (a 43, .inr (5, [.ref (a 44), .ref (a 45), .ref (a 46), .ref (a 47), .ref (a 48), .ref (a 49), .ref (a 50), .ref (a 51), .int (nI cc), .int (nI v_10_0), .int td2, .int hd2])), (a 44, .inl (cI, 7, .inl v_10_1)), (a 45, .inl (cI, 7, .inl v_10_2)), (a 46, .inl (cI, 7, .inl v_10_3)), (a 47, .inl (cI, 7, .inl v_10_4)), (a 48, .inl (cI, 7, .inl v_10_5)), (a 49, .inl (cI, 128, .inl q5)), (a 50, .inl (cI, 128, .inl q6)), (a 51, .inl (cI, 7, .inl q7))]) [0, 1, 2, 6, 7, 8, 9, 10, 11, 3, 4, 5] (by decide) rfl) hS (lv_sub hl [1, 2, 0] rfl)
    · have zc_4 := c_4
      rw [Int32.le_iff_toInt_le] at zc_4
      try rw [show (7 : Int32).toInt = 7 from by decide] at zc_4
      refine lv_iconst (v := (-1)) hx hb dX7_plan_19 (by decide) ?_
      obtain ⟨hP9, hD9⟩ := zz_part2 (cx := [(a 0, .inr (7, [.ref (a 1), .ref (a 10), .ref (a 23), .ref (a 24), .ref (a 26), .ref (a 29), .ref (a 34), .ref (a 43), .int (nI nh), .int (nI nf), .int clk, .int hi])), (a 10, .inl (cF, 12, .inr (.inr (.inr (.inr fF))))), (a 23, .inl (cI, 10, .inl fl)), (a 43, .inr (5, [.ref (a 44), .ref (a 45), .ref (a 46), .ref (a 47), .ref (a 48), .ref (a 49), .ref (a 50), .ref (a 51), .int (nI cc), .int (nI np), .int td, .int hd])), (a 44, .inl (cI, 7, .inl q0)), (a 45, .inl (cI, 7, .inl q1)), (a 46, .inl (cI, 7, .inl q2)), (a 47, .inl (cI, 7, .inl q3)), (a 48, .inl (cI, 7, .inl q4)), (a 49, .inl (cI, 128, .inl q5)), (a 50, .inl (cI, 128, .inl q6)), (a 51, .inl (cI, 7, .inl q7))]) hP hD [0, 1, 2, 3, 4, 5, 6, 7, 8, 9, 10, 11] (by decide) rfl
      have hK9 := hK.sub (tys' := [(cF, .object RX3), (cI, .int)]) [0, 1] rfl
      exact W.iret (v := (-1)) hx hb hr (fun t ht hW => ⟨⟨(-1), (np, cc, td, hd, q0, q1, q2, q3, q4, q5, q6, q7), rfl, ⟨by omega, by omega, hbn⟩, by rw [ht]; exact hP9, va_K.moved hW.alike hK9, hD9⟩, hS.F ht⟩) hS.2.2 dX7_plan_20
set_option maxHeartbeats 4000000 in
set_option maxRecDepth 100000 in
theorem k_planned (l : Launch) (dC : Nat → ClassId) (dI : Nat → Nat → Nat) (a : Nat → Nat) (nh : Nat) (nf : Nat) (clk : Int32) (hi : Int32) (cI : ClassId) (np : Nat) (cc : Nat) (td : Int32) (hd : Int32) (q7 : Nat → Int32) (p0 : Int32) (sz : Nat) (hcc : cc ≤ 7) : Met l yX7_planned (zz_w yX7_planned cX7_planned 2 (some .int)) ({ frames := 1, cells := 0, slots := 0, locals := 22 }) (va_Pc [.ref (a 0), .int p0] (zz_B (dC, dI) sz [(a 0, .inr (7, [.ref (a 1), .ref (a 10), .ref (a 23), .ref (a 24), .ref (a 26), .ref (a 29), .ref (a 34), .ref (a 43), .int (nI nh), .int (nI nf), .int clk, .int hi])), (a 43, .inr (5, [.ref (a 44), .ref (a 45), .ref (a 46), .ref (a 47), .ref (a 48), .ref (a 49), .ref (a 50), .ref (a 51), .int (nI cc), .int (nI np), .int td, .int hd])), (a 51, .inl (cI, 7, .inl q7))] [(cI, .int)])) (va_Qi (fun (_ : Int32) (_ : Unit) => True) (fun _ _ => True) (va_A [] sz)) 0 0 (va_A [] sz) := by
  refine Met.ofW (cc := cX7_planned) (maxL := 2) (ret := (some .int)) (by decide) rfl ?_
  intro p e s m args below meth c s₁ B hml hv
  obtain ⟨rfl, hsz, hP, hK, hD0, hN⟩ := hv
  have hx := B.exec
  have hb := B.bytes
  have hr := B.returns
  have hts := atoms_spec (ws := zz_w yX7_planned cX7_planned 2 (some .int)) B.pre
  have hw : ∀ w ∈ zz_all, w.before _ s = true := fun w h => hts w (List.mem_cons_of_mem _ h)
  have hown : s.vm.findClass RX7 = some m.cls := findClass_of_methodNamed B.named
  have hlocks := B.notSynchronized
  subst hsz
  have hD := hD0
  generalize hAe : va_A [] s.heap.size = A
  have hA : ∀ q : Nat, s.heap.size ≤ q → A q := fun q h => by rw [← hAe]; exact Or.inr h
  have hS : va_S A s.heap s.heap [] := va_S.rf
  have hP : va_P (dC, dI) vwCl [(a 0, .inr (7, [.ref (a 1), .ref (a 10), .ref (a 23), .ref (a 24), .ref (a 26), .ref (a 29), .ref (a 34), .ref (a 43), .int (nI nh), .int (nI nf), .int clk, .int hi])), (a 43, .inr (5, [.ref (a 44), .ref (a 45), .ref (a 46), .ref (a 47), .ref (a 48), .ref (a 49), .ref (a 50), .ref (a 51), .int (nI cc), .int (nI np), .int td, .int hd])), (a 51, .inl (cI, 7, .inl q7))] s.heap := hP
  have hl := lv_entry ([.ref (a 0), .int p0]) (n := 2) (Nat.le_of_ble_eq_true rfl)
  rw [lg_entry_eq]
  generalize (lg_sl ([.ref (a 0), .int p0]) ++ List.replicate (2 - (lg_sl ([.ref (a 0), .int p0])).length) Slot.unset).toArray = ls at hl ⊢
  have hl : lv_has ls 2 [(0, .ref (a 0)), (1, .int p0)] := hl
  refine lv_iload_n hx hb dX7_planned_0 rfl (lv_at hl 1 rfl) ?_
  refine lv_iconst (v := 0) hx hb dX7_planned_1 (by decide) ?_
  refine lv_aload_n hx hb dX7_planned_2 rfl (lv_at hl 0 rfl) ?_
  refine va_get (D := (dC, dI)) (ci := 7) (v := .ref (a 43)) (C := RX7) (T := TX7) (N := 12) hx hb hw zz_inX7 hown hK hP 0 rfl rfl 7 (by decide) (hw _ tw_172) (fun _ h9 => h9) rfl dX7_planned_3 ?_
  refine va_getN (D := (dC, dI)) (ci := 5) (v := .int (nI cc)) (C := RX5) (T := TX5) (N := 12) hx hb hw zz_inX5 hown hK hP 1 rfl rfl 8 (by decide) (hN.use zz_n45) (fun _ h9 => h9) rfl dX7_planned_6 ?_
  refine lv_iconst (v := 1) hx hb dX7_planned_9 (by decide) ?_
  refine lv_isub hx hb dX7_planned_10 ?_
  obtain ⟨hPc, hDc⟩ := zz_sub2 (ws' := []) hP hD [] (by decide) rfl
  have hKc := hK.sub (tys' := []) [] rfl
  have hFc := zz_free0 hS hA
  refine va_calli (va_runS (As := [.int p0, .int 0, .int ((nI cc) - 1)]) (rest := []) ⟨hx, hb, hml, hown, hw⟩ (k_within l dC dI p0 0 ((nI cc) - 1) s.heap.size) ⟨callB_of 3 hw (zz_good tw_1) rfl rfl rfl (hw _ tw_2) (hw _ tw_3) (by decide +kernel) ⟨Nat.le_of_ble_eq_true rfl, Nat.le_of_ble_eq_true rfl⟩, (hw _ tw_4)⟩ ⟨zz_blind, zz_pre hPc hKc hDc hN⟩ rfl rfl hl.1 rfl (lv_room (Nat.le_of_ble_eq_true rfl)) dX7_planned_11 ⟨Nat.le_of_ble_eq_true rfl, Nat.le_of_ble_eq_true rfl⟩) hS (fun q _ h => hFc q h) hFc (fun r_1 u_1 t H1 locs ht hvm e_1 hB hz1 hk1 hS => ?_)
  try dsimp only at e_1
  have hP := zz_keep hP hk1
  clear hk1 hB ht hvm
  generalize H1 = H at hP hS ⊢
  refine lv_if_eq (tgt := 29) hx hb dX7_planned_14 (by decide) (fun c_2 => ?_) (fun c_2 => ?_)
  · have zc_2 := c_2
    rw [e_1, zz_in0, Int32.le_iff_toInt_le, Int32.le_iff_toInt_le] at zc_2
    try rw [show (0 : Int32).toInt = 0 from by decide] at zc_2
    try rw [zz_pred (c := cc) (by omega)] at zc_2
    refine lv_iconst (v := (-1)) hx hb dX7_planned_29 (by decide) ?_
    exact W.iret (v := (-1)) hx hb hr (fun t ht hW => ⟨⟨(-1), (), rfl, trivial, trivial⟩, hS.F ht⟩) hS.2.2 dX7_planned_30
  · have zc_2 := c_2
    rw [e_1, zz_in0, Int32.le_iff_toInt_le, Int32.le_iff_toInt_le] at zc_2
    try rw [show (0 : Int32).toInt = 0 from by decide] at zc_2
    try rw [zz_pred (c := cc) (by omega)] at zc_2
    refine lv_aload_n hx hb dX7_planned_17 rfl (lv_at hl 0 rfl) ?_
    refine va_get (D := (dC, dI)) (ci := 7) (v := .ref (a 43)) (C := RX7) (T := TX7) (N := 12) hx hb hw zz_inX7 hown hK hP 0 rfl rfl 7 (by decide) (hw _ tw_172) (fun _ h9 => h9) rfl dX7_planned_18 ?_
    refine va_getN (D := (dC, dI)) (ci := 5) (v := .ref (a 51)) (C := RX5) (T := TX5) (N := 12) hx hb hw zz_inX5 hown hK hP 1 rfl rfl 7 (by decide) (hN.use zz_n44) (fun _ h9 => h9) rfl dX7_planned_21 ?_
    refine lv_iload_n hx hb dX7_planned_24 rfl (lv_at hl 1 rfl) ?_
    refine va_iald hx hb hK hP 2 0 rfl rfl (vp_in_iff.mpr (by constructor <;> omega)) dX7_planned_25 ?_
    refine lv_goto (tgt := 30) hx hb dX7_planned_26 (by decide) ?_
    exact W.iret (v := (q7 (Int32.toNatClampNeg p0))) hx hb hr (fun t ht hW => ⟨⟨(q7 (Int32.toNatClampNeg p0)), (), rfl, trivial, trivial⟩, hS.F ht⟩) hS.2.2 dX7_planned_30
