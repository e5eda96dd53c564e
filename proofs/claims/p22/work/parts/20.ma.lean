theorem tw_182 : Cond.fieldLink RX8 115 "HandsReturnedModel" "houses" "I" ∈ zz_all := zz_m3 179 rfl rfl
theorem tw_183 : Cond.code yX8_in cX8_in 6 (some .boolean) ∈ zz_all := zz_m4 81 rfl rfl
theorem tw_184 : Cond.initialized RX8 ∈ zz_all := zz_m1 10 rfl rfl
theorem tw_185 : Cond.methodLink RX8 118 yX8_in ∈ zz_all := zz_m4 79 rfl rfl
theorem tw_186 : Cond.static yX8_in ∈ zz_all := zz_m4 80 rfl rfl
theorem tw_187 : Cond.fieldLink RX8 122 "HandsReturnedModel" "fields" "I" ∈ zz_all := zz_m3 189 rfl rfl
theorem tw_188 : Cond.constantLong RX8 125 9 ∈ zz_all := zz_m4 78 rfl rfl
theorem tw_189 : Cond.fieldLink RX8 31 "HandsReturnedModel" "hands" "[I" ∈ zz_all := zz_m3 180 rfl rfl
theorem tw_190 : Cond.fieldLink RX8 34 "HandsReturnedModel" "isWidow" "[Z" ∈ zz_all := zz_m3 181 rfl rfl
theorem zy_b20ma_0 : decode cX8_isHouse 0 = .ok (.iload_n 1, 1) ∧ decode cX8_isHouse 1 = .ok (.i2l, 1) ∧ decode cX8_isHouse 2 = .ok (.lconst 0, 1) ∧ decode cX8_isHouse 3 = .ok (.aload_n 0, 1) ∧ decode cX8_isHouse 4 = .ok (.getfield 115, 3) ∧ decode cX8_isHouse 7 = .ok (.iconst 1, 1) ∧ decode cX8_isHouse 8 = .ok (.isub, 1) ∧ decode cX8_isHouse 9 = .ok (.i2l, 1) := by decide +kernel
theorem dX8_isHouse_0 : decode cX8_isHouse 0 = .ok (.iload_n 1, 1) := zy_b20ma_0.1
theorem dX8_isHouse_1 : decode cX8_isHouse 1 = .ok (.i2l, 1) := zy_b20ma_0.2.1
theorem dX8_isHouse_2 : decode cX8_isHouse 2 = .ok (.lconst 0, 1) := zy_b20ma_0.2.2.1
theorem dX8_isHouse_3 : decode cX8_isHouse 3 = .ok (.aload_n 0, 1) := zy_b20ma_0.2.2.2.1
theorem dX8_isHouse_4 : decode cX8_isHouse 4 = .ok (.getfield 115, 3) := zy_b20ma_0.2.2.2.2.1
theorem dX8_isHouse_7 : decode cX8_isHouse 7 = .ok (.iconst 1, 1) := zy_b20ma_0.2.2.2.2.2.1
theorem dX8_isHouse_8 : decode cX8_isHouse 8 = .ok (.isub, 1) := zy_b20ma_0.2.2.2.2.2.2.1
theorem dX8_isHouse_9 : decode cX8_isHouse 9 = .ok (.i2l, 1) := zy_b20ma_0.2.2.2.2.2.2.2
theorem dX8_isHouse_10 : decode cX8_isHouse 10 = .ok (.invokestatic 118, 3) := by decide +kernel
theorem dX8_isHouse_13 : decode cX8_isHouse 13 = .ok (.ireturn, 1) := by decide +kernel
theorem zy_b20ma_1 : decode cX8_isField 0 = .ok (.iload_n 1, 1) ∧ decode cX8_isField 1 = .ok (.i2l, 1) ∧ decode cX8_isField 2 = .ok (.lconst 0, 1) ∧ decode cX8_isField 3 = .ok (.aload_n 0, 1) ∧ decode cX8_isField 4 = .ok (.getfield 122, 3) ∧ decode cX8_isField 7 = .ok (.iconst 1, 1) ∧ decode cX8_isField 8 = .ok (.isub, 1) ∧ decode cX8_isField 9 = .ok (.i2l, 1) := by decide +kernel
theorem dX8_isField_0 : decode cX8_isField 0 = .ok (.iload_n 1, 1) := zy_b20ma_1.1
theorem dX8_isField_1 : decode cX8_isField 1 = .ok (.i2l, 1) := zy_b20ma_1.2.1
theorem dX8_isField_2 : decode cX8_isField 2 = .ok (.lconst 0, 1) := zy_b20ma_1.2.2.1
theorem dX8_isField_3 : decode cX8_isField 3 = .ok (.aload_n 0, 1) := zy_b20ma_1.2.2.2.1
theorem dX8_isField_4 : decode cX8_isField 4 = .ok (.getfield 122, 3) := zy_b20ma_1.2.2.2.2.1
theorem dX8_isField_7 : decode cX8_isField 7 = .ok (.iconst 1, 1) := zy_b20ma_1.2.2.2.2.2.1
theorem dX8_isField_8 : decode cX8_isField 8 = .ok (.isub, 1) := zy_b20ma_1.2.2.2.2.2.2.1
theorem dX8_isField_9 : decode cX8_isField 9 = .ok (.i2l, 1) := zy_b20ma_1.2.2.2.2.2.2.2
theorem dX8_isField_10 : decode cX8_isField 10 = .ok (.invokestatic 118, 3) := by decide +kernel
theorem dX8_isField_13 : decode cX8_isField 13 = .ok (.ireturn, 1) := by decide +kernel
theorem zy_b20ma_2 : decode cX8_house 0 = .ok (.iload_n 1, 1) ∧ decode cX8_house 1 = .ok (.i2l, 1) ∧ decode cX8_house 2 = .ok (.lconst 1, 1) ∧ decode cX8_house 3 = .ok (.ldc2_w 125, 3) ∧ decode cX8_house 6 = .ok (.invokestatic 118, 3) ∧ decode cX8_house 9 = .ok (.ifCond .eq 12, 3) ∧ decode cX8_house 12 = .ok (.aload_n 0, 1) ∧ decode cX8_house 13 = .ok (.getfield 115, 3) := by decide +kernel
theorem dX8_house_0 : decode cX8_house 0 = .ok (.iload_n 1, 1) := zy_b20ma_2.1
theorem dX8_house_1 : decode cX8_house 1 = .ok (.i2l, 1) := zy_b20ma_2.2.1
theorem dX8_house_2 : decode cX8_house 2 = .ok (.lconst 1, 1) := zy_b20ma_2.2.2.1
theorem dX8_house_3 : decode cX8_house 3 = .ok (.ldc2_w 125, 3) := zy_b20ma_2.2.2.2.1
theorem dX8_house_6 : decode cX8_house 6 = .ok (.invokestatic 118, 3) := zy_b20ma_2.2.2.2.2.1
theorem dX8_house_9 : decode cX8_house 9 = .ok (.ifCond .eq 12, 3) := zy_b20ma_2.2.2.2.2.2.1
theorem dX8_house_12 : decode cX8_house 12 = .ok (.aload_n 0, 1) := zy_b20ma_2.2.2.2.2.2.2.1
theorem dX8_house_13 : decode cX8_house 13 = .ok (.getfield 115, 3) := zy_b20ma_2.2.2.2.2.2.2.2
theorem zy_b20ma_3 : decode cX8_house 16 = .ok (.bipush 8, 2) ∧ decode cX8_house 18 = .ok (.if_icmp .ne 5, 3) ∧ decode cX8_house 21 = .ok (.iconst (-1), 1) ∧ decode cX8_house 22 = .ok (.ireturn, 1) ∧ decode cX8_house 23 = .ok (.aload_n 0, 1) ∧ decode cX8_house 24 = .ok (.getfield 31, 3) ∧ decode cX8_house 27 = .ok (.aload_n 0, 1) ∧ decode cX8_house 28 = .ok (.getfield 115, 3) := by decide +kernel
theorem dX8_house_16 : decode cX8_house 16 = .ok (.bipush 8, 2) := zy_b20ma_3.1
theorem dX8_house_18 : decode cX8_house 18 = .ok (.if_icmp .ne 5, 3) := zy_b20ma_3.2.1
theorem dX8_house_21 : decode cX8_house 21 = .ok (.iconst (-1), 1) := zy_b20ma_3.2.2.1
theorem dX8_house_22 : decode cX8_house 22 = .ok (.ireturn, 1) := zy_b20ma_3.2.2.2.1
theorem dX8_house_23 : decode cX8_house 23 = .ok (.aload_n 0, 1) := zy_b20ma_3.2.2.2.2.1
theorem dX8_house_24 : decode cX8_house 24 = .ok (.getfield 31, 3) := zy_b20ma_3.2.2.2.2.2.1
theorem dX8_house_27 : decode cX8_house 27 = .ok (.aload_n 0, 1) := zy_b20ma_3.2.2.2.2.2.2.1
theorem dX8_house_28 : decode cX8_house 28 = .ok (.getfield 115, 3) := zy_b20ma_3.2.2.2.2.2.2.2
theorem zy_b20ma_4 : decode cX8_house 31 = .ok (.iload_n 1, 1) ∧ decode cX8_house 32 = .ok (.iastore, 1) ∧ decode cX8_house 33 = .ok (.aload_n 0, 1) ∧ decode cX8_house 34 = .ok (.getfield 34, 3) ∧ decode cX8_house 37 = .ok (.aload_n 0, 1) ∧ decode cX8_house 38 = .ok (.getfield 115, 3) ∧ decode cX8_house 41 = .ok (.iload_n 2, 1) ∧ decode cX8_house 42 = .ok (.bastore, 1) := by decide +kernel
theorem dX8_house_31 : decode cX8_house 31 = .ok (.iload_n 1, 1) := zy_b20ma_4.1
theorem dX8_house_32 : decode cX8_house 32 = .ok (.iastore, 1) := zy_b20ma_4.2.1
theorem dX8_house_33 : decode cX8_house 33 = .ok (.aload_n 0, 1) := zy_b20ma_4.2.2.1
theorem dX8_house_34 : decode cX8_house 34 = .ok (.getfield 34, 3) := zy_b20ma_4.2.2.2.1
theorem dX8_house_37 : decode cX8_house 37 = .ok (.aload_n 0, 1) := zy_b20ma_4.2.2.2.2.1
theorem dX8_house_38 : decode cX8_house 38 = .ok (.getfield 115, 3) := zy_b20ma_4.2.2.2.2.2.1
theorem dX8_house_41 : decode cX8_house 41 = .ok (.iload_n 2, 1) := zy_b20ma_4.2.2.2.2.2.2.1
theorem dX8_house_42 : decode cX8_house 42 = .ok (.bastore, 1) := zy_b20ma_4.2.2.2.2.2.2.2
theorem zy_b20ma_5 : decode cX8_house 43 = .ok (.aload_n 0, 1) ∧ decode cX8_house 44 = .ok (.dup, 1) ∧ decode cX8_house 45 = .ok (.getfield 115, 3) ∧ decode cX8_house 48 = .ok (.iconst 1, 1) ∧ decode cX8_house 49 = .ok (.iadd, 1) ∧ decode cX8_house 50 = .ok (.putfield 115, 3) ∧ decode cX8_house 53 = .ok (.aload_n 0, 1) ∧ decode cX8_house 54 = .ok (.getfield 115, 3) := by decide +kernel
theorem dX8_house_43 : decode cX8_house 43 = .ok (.aload_n 0, 1) := zy_b20ma_5.1
theorem dX8_house_44 : decode cX8_house 44 = .ok (.dup, 1) := zy_b20ma_5.2.1
theorem dX8_house_45 : decode cX8_house 45 = .ok (.getfield 115, 3) := zy_b20ma_5.2.2.1
theorem dX8_house_48 : decode cX8_house 48 = .ok (.iconst 1, 1) := zy_b20ma_5.2.2.2.1
theorem dX8_house_49 : decode cX8_house 49 = .ok (.iadd, 1) := zy_b20ma_5.2.2.2.2.1
theorem dX8_house_50 : decode cX8_house 50 = .ok (.putfield 115, 3) := zy_b20ma_5.2.2.2.2.2.1
theorem dX8_house_53 : decode cX8_house 53 = .ok (.aload_n 0, 1) := zy_b20ma_5.2.2.2.2.2.2.1
theorem dX8_house_54 : decode cX8_house 54 = .ok (.getfield 115, 3) := zy_b20ma_5.2.2.2.2.2.2.2
theorem zy_b20ma_6 : decode cX8_house 57 = .ok (.iconst 1, 1) ∧ decode cX8_house 58 = .ok (.isub, 1) ∧ decode cX8_house 59 = .ok (.ireturn, 1) := by decide +kernel
theorem dX8_house_57 : decode cX8_house 57 = .ok (.iconst 1, 1) := zy_b20ma_6.1
theorem dX8_house_58 : decode cX8_house 58 = .ok (.isub, 1) := zy_b20ma_6.2.1
theorem dX8_house_59 : decode cX8_house 59 = .ok (.ireturn, 1) := zy_b20ma_6.2.2
abbrev zz_gk (h g : Nat → Int32) : Prop := h 47 = g 47 ∧ h 8 = g 8 ∧ h 9 = g 9
abbrev zz_gl (h g : Nat → Int32) : Prop := zz_gk h g ∧ h 32 = g 32
theorem zz_gk_tr {f g h : Nat → Int32} (a : zz_gk f g) (b : zz_gk g h) : zz_gk f h := ⟨a.1.trans b.1, a.2.1.trans b.2.1, a.2.2.trans b.2.2⟩
theorem zz_isx {r x : Int32} {k : Nat} (e : r = zz_in x 0 (nI k - 1)) (h : k < 2147483648) : ((0 ≤ x.toInt ∧ x.toInt < (k : Int)) ∧ r = 1) ∨ (¬ (0 ≤ x.toInt ∧ x.toInt < (k : Int)) ∧ r = 0) := by
  have e0 : (0 : Int32).toInt = 0 := by decide
  by_cases hc : (0 : Int32) ≤ x ∧ x ≤ nI k - 1
  · left
    refine ⟨?_, by rw [e]; exact zz_in1 hc.1 hc.2⟩
    have h1 := hc.1; have h2 := hc.2
    rw [Int32.le_iff_toInt_le] at h1 h2
    rw [zz_pred h] at h2
    omega
  · right
    refine ⟨fun q => hc ?_, by rw [e]; exact zz_inN hc⟩
    rw [Int32.le_iff_toInt_le, Int32.le_iff_toInt_le, zz_pred h, e0]
    omega
theorem zz_in01 (v lo hi : Int32) : zz_in v lo hi = 0 ∨ zz_in v lo hi = 1 := by unfold zz_in; split; exact Or.inr rfl; exact Or.inl rfl
set_option maxHeartbeats 4000000 in
set_option maxRecDepth 100000 in
theorem m_isHouse (l : Launch) (dC : Nat → ClassId) (dI : Nat → Nat → Nat) (b : Nat → Nat) (gg : Nat → Int32) (mt : Nat) (mc : Nat) (mh : Nat) (mf : Nat) (md : Nat) (p0 : Int32) (sz : Nat) (hmh : mh ≤ 8) : Met l yX8_isHouse (zz_w yX8_isHouse cX8_isHouse 2 (some .boolean)) ({ frames := 1, cells := 0, slots := 0, locals := 25 }) (va_Pc [.ref (b 0), .int p0] (zz_B (dC, dI) sz [(b 0, .inr (8, [.ref (b 1), .int (nI mt), .int (gg 2), .int (gg 3), .int (gg 4), .int (gg 5), .int (gg 6), .int (gg 7), .int (gg 8), .int (gg 9), .ref (b 11), .ref (b 12), .ref (b 13), .int (nI mc), .int (nI mh), .ref (b 16), .ref (b 17), .ref (b 18), .ref (b 19), .ref (b 20), .ref (b 21), .ref (b 22), .ref (b 23), .ref (b 24), .int (nI mf), .ref (b 26), .ref (b 27), .ref (b 28), .ref (b 29), .ref (b 30), .ref (b 31), .ref (b 32), .int (gg 32), .int (nI md), .ref (b 35), .ref (b 36), .ref (b 37), .ref (b 38), .ref (b 39), .ref (b 40), .int (gg 40), .ref (b 42), .ref (b 43), .ref (b 44), .int (gg 44), .ref (b 46), .ref (b 47), .int (gg 47), .ref (b 49)]))] [])) (va_Qi (fun (r : Int32) (_ : Unit) => ((0 ≤ p0.toInt ∧ p0.toInt < (mh : Int)) ∧ r = 1) ∨ (¬ (0 ≤ p0.toInt ∧ p0.toInt < (mh : Int)) ∧ r = 0)) (fun _ _ => True) (va_A [] sz)) 0 0 (va_A [] sz) := by
  refine Met.ofW (cc := cX8_isHouse) (maxL := 2) (ret := (some .boolean)) (by decide) rfl ?_
  intro p e s m args below meth c s₁ B hml hv
  obtain ⟨rfl, hsz, hP, hK, hD0, hN⟩ := hv
  have hx := B.exec
  have hb := B.bytes
  have hr := B.returns
  have hts := atoms_spec (ws := zz_w yX8_isHouse cX8_isHouse 2 (some .boolean)) B.pre
  have hw : ∀ w ∈ zz_all, w.before _ s = true := fun w h => hts w (List.mem_cons_of_mem _ h)
  have hown : s.vm.findClass RX8 = some m.cls := findClass_of_methodNamed B.named
  have hlocks := B.notSynchronized
  subst hsz
  have hD := hD0
  generalize hAe : va_A [] s.heap.size = A
  have hA : ∀ q : Nat, s.heap.size ≤ q → A q := fun q h => by rw [← hAe]; exact Or.inr h
  have hS : va_S A s.heap s.heap [] := va_S.rf
  have hP : va_P (dC, dI) vwCl [(b 0, .inr (8, [.ref (b 1), .int (nI mt), .int (gg 2), .int (gg 3), .int (gg 4), .int (gg 5), .int (gg 6), .int (gg 7), .int (gg 8), .int (gg 9), .ref (b 11), .ref (b 12), .ref (b 13), .int (nI mc), .int (nI mh), .ref (b 16), .ref (b 17), .ref (b 18), .ref (b 19), .ref (b 20), .ref (b 21), .ref (b 22), .ref (b 23), .ref (b 24), .int (nI mf), .ref (b 26), .ref (b 27), .ref (b 28), .ref (b 29), .ref (b 30), .ref (b 31), .ref (b 32), .int (gg 32), .int (nI md), .ref (b 35), .ref (b 36), .ref (b 37), .ref (b 38), .ref (b 39), .ref (b 40), .int (gg 40), .ref (b 42), .ref (b 43), .ref (b 44), .int (gg 44), .ref (b 46), .ref (b 47), .int (gg 47), .ref (b 49)]))] s.heap := hP
  have hl := lv_entry ([.ref (b 0), .int p0]) (n := 2) (Nat.le_of_ble_eq_true rfl)
  rw [lg_entry_eq]
  generalize (lg_sl ([.ref (b 0), .int p0]) ++ List.replicate (2 - (lg_sl ([.ref (b 0), .int p0])).length) Slot.unset).toArray = ls at hl ⊢
  have hl : lv_has ls 2 [(0, .ref (b 0)), (1, .int p0)] := hl
  refine lv_iload_n hx hb dX8_isHouse_0 rfl (lv_at hl 1 rfl) ?_
  refine lv_i2l (v := Int32.toInt64 p0) hx hb dX8_isHouse_1 rfl ?_
  refine lv_lconst (v := Int32.toInt64 0) hx hb dX8_isHouse_2 (by decide) ?_
  refine lv_aload_n hx hb dX8_isHouse_3 rfl (lv_at hl 0 rfl) ?_
  refine va_get (D := (dC, dI)) (ci := 8) (v := .int (nI mh)) (C := RX8) (T := TX8) (N := 49) hx hb hw zz_inX8 hown hK hP 0 rfl rfl 14 (by decide) (hw _ tw_182) (fun _ h9 => h9) rfl dX8_isHouse_4 ?_
  refine lv_iconst (v := 1) hx hb dX8_isHouse_7 (by decide) ?_
  refine lv_isub hx hb dX8_isHouse_8 ?_
  refine lv_i2l (v := Int32.toInt64 ((nI mh) - 1)) hx hb dX8_isHouse_9 rfl ?_
  obtain ⟨hPc, hDc⟩ := zz_sub2 (ws' := []) hP hD [] (by decide) rfl
  have hKc := hK.sub (tys' := []) [] rfl
  have hFc := zz_free0 hS hA
  refine va_calli (va_runS (As := [.long (Int32.toInt64 p0), .long (Int32.toInt64 0), .long (Int32.toInt64 ((nI mh) - 1))]) (rest := []) ⟨hx, hb, hml, hown, hw⟩ (k_in l dC dI p0 0 ((nI mh) - 1) s.heap.size) ⟨callB_of 3 hw (zz_good tw_183) rfl rfl rfl (hw _ tw_184) (hw _ tw_185) (by decide +kernel) ⟨Nat.le_of_ble_eq_true rfl, Nat.le_of_ble_eq_true rfl⟩, (hw _ tw_186)⟩ ⟨zz_blind, zz_pre hPc hKc hDc hN⟩ rfl rfl hl.1 rfl (lv_room (Nat.le_of_ble_eq_true rfl)) dX8_isHouse_10 ⟨Nat.le_of_ble_eq_true rfl, Nat.le_of_ble_eq_true rfl⟩) hS (fun q _ h => hFc q h) hFc (fun r_1 u_1 t H1 locs ht hvm e_1 hB hz1 hk1 hS => ?_)
  try dsimp only at e_1
  have hP := zz_keep hP hk1
  clear hk1 hB ht hvm
  generalize H1 = H at hP hS ⊢
  exact W.zret (v := r_1) hx hb hr (zz_nz (by rw [e_1]; exact zz_in01 _ _ _)) (fun t ht hW => ⟨⟨r_1, (), rfl, (zz_isx e_1 (by omega)), trivial⟩, hS.F ht⟩) hS.2.2 dX8_isHouse_13
set_option maxHeartbeats 4000000 in
set_option maxRecDepth 100000 in
theorem m_isField (l : Launch) (dC : Nat → ClassId) (dI : Nat → Nat → Nat) (b : Nat → Nat) (gg : Nat → Int32) (mt : Nat) (mc : Nat) (mh : Nat) (mf : Nat) (md : Nat) (p0 : Int32) (sz : Nat) (hmf : mf ≤ 12) : Met l yX8_isField (zz_w yX8_isField cX8_isField 2 (some .boolean)) ({ frames := 1, cells := 0, slots := 0, locals := 25 }) (va_Pc [.ref (b 0), .int p0] (zz_B (dC, dI) sz [(b 0, .inr (8, [.ref (b 1), .int (nI mt), .int (gg 2), .int (gg 3), .int (gg 4), .int (gg 5), .int (gg 6), .int (gg 7), .int (gg 8), .int (gg 9), .ref (b 11), .ref (b 12), .ref (b 13), .int (nI mc), .int (nI mh), .ref (b 16), .ref (b 17), .ref (b 18), .ref (b 19), .ref (b 20), .ref (b 21), .ref (b 22), .ref (b 23), .ref (b 24), .int (nI mf), .ref (b 26), .ref (b 27), .ref (b 28), .ref (b 29), .ref (b 30), .ref (b 31), .ref (b 32), .int (gg 32), .int (nI md), .ref (b 35), .ref (b 36), .ref (b 37), .ref (b 38), .ref (b 39), .ref (b 40), .int (gg 40), .ref (b 42), .ref (b 43), .ref (b 44), .int (gg 44), .ref (b 46), .ref (b 47), .int (gg 47), .ref (b 49)]))] [])) (va_Qi (fun (r : Int32) (_ : Unit) => ((0 ≤ p0.toInt ∧ p0.toInt < (mf : Int)) ∧ r = 1) ∨ (¬ (0 ≤ p0.toInt ∧ p0.toInt < (mf : Int)) ∧ r = 0)) (fun _ _ => True) (va_A [] sz)) 0 0 (va_A [] sz) := by
  refine Met.ofW (cc := cX8_isField) (maxL := 2) (ret := (some .boolean)) (by decide) rfl ?_
  intro p e s m args below meth c s₁ B hml hv
  obtain ⟨rfl, hsz, hP, hK, hD0, hN⟩ := hv
  have hx := B.exec
  have hb := B.bytes
  have hr := B.returns
  have hts := atoms_spec (ws := zz_w yX8_isField cX8_isField 2 (some .boolean)) B.pre
  have hw : ∀ w ∈ zz_all, w.before _ s = true := fun w h => hts w (List.mem_cons_of_mem _ h)
  have hown : s.vm.findClass RX8 = some m.cls := findClass_of_methodNamed B.named
  have hlocks := B.notSynchronized
  subst hsz
  have hD := hD0
  generalize hAe : va_A [] s.heap.size = A
  have hA : ∀ q : Nat, s.heap.size ≤ q → A q := fun q h => by rw [← hAe]; exact Or.inr h
  have hS : va_S A s.heap s.heap [] := va_S.rf
  have hP : va_P (dC, dI) vwCl [(b 0, .inr (8, [.ref (b 1), .int (nI mt), .int (gg 2), .int (gg 3), .int (gg 4), .int (gg 5), .int (gg 6), .int (gg 7), .int (gg 8), .int (gg 9), .ref (b 11), .ref (b 12), .ref (b 13), .int (nI mc), .int (nI mh), .ref (b 16), .ref (b 17), .ref (b 18), .ref (b 19), .ref (b 20), .ref (b 21), .ref (b 22), .ref (b 23), .ref (b 24), .int (nI mf), .ref (b 26), .ref (b 27), .ref (b 28), .ref (b 29), .ref (b 30), .ref (b 31), .ref (b 32), .int (gg 32), .int (nI md), .ref (b 35), .ref (b 36), .ref (b 37), .ref (b 38), .ref (b 39), .ref (b 40), .int (gg 40), .ref (b 42), .ref (b 43), .ref (b 44), .int (gg 44), .ref (b 46), .ref (b 47), .int (gg 47), .ref (b 49)]))] s.heap := hP
  have hl := lv_entry ([.ref (b 0), .int p0]) (n := 2) (Nat.le_of_ble_eq_true rfl)
  rw [lg_entry_eq]
  generalize (lg_sl ([.ref (b 0), .int p0]) ++ List.replicate (2 - (lg_sl ([.ref (b 0), .int p0])).length) Slot.unset).toArray = ls at hl ⊢
  have hl : lv_has ls 2 [(0, .ref (b 0)), (1, .int p0)] := hl
  refine lv_iload_n hx hb dX8_isField_0 rfl (lv_at hl 1 rfl) ?_
  refine lv_i2l (v := Int32.toInt64 p0) hx hb dX8_isField_1 rfl ?_
  refine lv_lconst (v := Int32.toInt64 0) hx hb dX8_isField_2 (by decide) ?_
  refine lv_aload_n hx hb dX8_isField_3 rfl (lv_at hl 0 rfl) ?_
  refine va_get (D := (dC, dI)) (ci := 8) (v := .int (nI mf)) (C := RX8) (T := TX8) (N := 49) hx hb hw zz_inX8 hown hK hP 0 rfl rfl 24 (by decide) (hw _ tw_187) (fun _ h9 => h9) rfl dX8_isField_4 ?_
  refine lv_iconst (v := 1) hx hb dX8_isField_7 (by decide) ?_
  refine lv_isub hx hb dX8_isField_8 ?_
  refine lv_i2l (v := Int32.toInt64 ((nI mf) - 1)) hx hb dX8_isField_9 rfl ?_
  obtain ⟨hPc, hDc⟩ := zz_sub2 (ws' := []) hP hD [] (by decide) rfl
  have hKc := hK.sub (tys' := []) [] rfl
  have hFc := zz_free0 hS hA
  refine va_calli (va_runS (As := [.long (Int32.toInt64 p0), .long (Int32.toInt64 0), .long (Int32.toInt64 ((nI mf) - 1))]) (rest := []) ⟨hx, hb, hml, hown, hw⟩ (k_in l dC dI p0 0 ((nI mf) - 1) s.heap.size) ⟨callB_of 3 hw (zz_good tw_183) rfl rfl rfl (hw _ tw_184) (hw _ tw_185) (by decide +kernel) ⟨Nat.le_of_ble_eq_true rfl, Nat.le_of_ble_eq_true rfl⟩, (hw _ tw_186)⟩ ⟨zz_blind, zz_pre hPc hKc hDc hN⟩ rfl rfl hl.1 rfl (lv_room (Nat.le_of_ble_eq_true rfl)) dX8_isField_10 ⟨Nat.le_of_ble_eq_true rfl, Nat.le_of_ble_eq_true rfl⟩) hS (fun q _ h => hFc q h) hFc (fun r_1 u_1 t H1 locs ht hvm e_1 hB hz1 hk1 hS => ?_)
  try dsimp only at e_1
  have hP := zz_keep hP hk1
  clear hk1 hB ht hvm
  generalize H1 = H at hP hS ⊢
  exact W.zret (v := r_1) hx hb hr (zz_nz (by rw [e_1]; exact zz_in01 _ _ _)) (fun t ht hW => ⟨⟨r_1, (), rfl, (zz_isx e_1 (by omega)), trivial⟩, hS.F ht⟩) hS.2.2 dX8_isField_13
