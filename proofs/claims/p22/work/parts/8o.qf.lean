set_option maxHeartbeats 4000000 in
set_option maxRecDepth 100000 in
theorem mx_lossOfW (l : Launch) (dC : Nat → ClassId) (dI : Nat → Nat → Nat) (b : Nat → Nat) (gg : Nat → Int32) (mt : Nat) (mc : Nat) (mh : Nat) (mf : Nat) (md : Nat) (wt : Nat) (pz : Int32) (cI : ClassId) (re : Nat → Int32) (lo : Nat → Int32) (p0 : Int32) (p1 : Int32) (sz : Nat) (hp12 : 0 ≤ p0.toInt ∧ p0.toInt < 12) (hre : 0 ≤ (re (Int32.toNatClampNeg p0)).toInt ∧ (re (Int32.toNatClampNeg p0)).toInt ≤ p1.toInt) : Met l yX8_lossOf (zz_w yX8_lossOf cX8_lossOf 4 (some .int)) ({ frames := 0, cells := 0, slots := 0, locals := 0 }) (va_Pc [.ref (b 0), .int p0, .int p1] (zz_B (dC, dI) sz [(b 0, .inr (8, [.ref (b 1), .int (nI mt), .int (gg 2), .int (gg 3), .int (gg 4), .int (gg 5), .int (gg 6), .int (gg 7), .int (gg 8), .int (gg 9), .ref (b 11), .ref (b 12), .ref (b 13), .int (nI mc), .int (nI mh), .ref (b 16), .ref (b 17), .ref (b 18), .ref (b 19), .ref (b 20), .ref (b 21), .ref (b 22), .ref (b 23), .ref (b 24), .int (nI mf), .ref (b 26), .ref (b 27), .ref (b 28), .ref (b 29), .ref (b 30), .ref (b 31), .ref (b 32), .int (gg 32), .int (nI md), .ref (b 35), .ref (b 36), .ref (b 37), .ref (b 38), .ref (b 39), .ref (b 40), .int (gg 40), .ref (b 42), .ref (b 43), .ref (b 44), .int (nI wt), .ref (b 46), .ref (b 47), .int pz, .ref (b 49)])), (b 29, .inl (cI, 12, .inl re)), (b 24, .inl (cI, 10, .inl lo))] [(cI, .int)])) (va_Qi (fun (r : Int32) (_ : Unit) => r = lo (Int32.toNatClampNeg (if 9 < p1 - (re (Int32.toNatClampNeg p0)) then 9 else p1 - (re (Int32.toNatClampNeg p0))))) (fun _ _ => True) (va_A [] sz)) 0 0 (va_A [] sz) := by
  refine Met.ofW (cc := cX8_lossOf) (maxL := 4) (ret := (some .int)) (by decide) rfl ?_
  intro p e s m args below meth c s₁ B hml hv
  obtain ⟨rfl, hsz, hP, hK, hD0, hN⟩ := hv
  have hx := B.exec
  have hb := B.bytes
  have hr := B.returns
  have hts := atoms_spec (ws := zz_w yX8_lossOf cX8_lossOf 4 (some .int)) B.pre
  have hw : ∀ w ∈ zz_all, w.before _ s = true := fun w h => hts w (List.mem_cons_of_mem _ h)
  have hown : s.vm.findClass RX8 = some m.cls := findClass_of_methodNamed B.named
  have hlocks := B.notSynchronized
  subst hsz
  have hD := hD0
  generalize hAe : va_A [] s.heap.size = A
  have hA : ∀ q : Nat, s.heap.size ≤ q → A q := fun q h => by rw [← hAe]; exact Or.inr h
  have hS : va_S A s.heap s.heap [] := va_S.rf
  have hP : va_P (dC, dI) vwCl [(b 0, .inr (8, [.ref (b 1), .int (nI mt), .int (gg 2), .int (gg 3), .int (gg 4), .int (gg 5), .int (gg 6), .int (gg 7), .int (gg 8), .int (gg 9), .ref (b 11), .ref (b 12), .ref (b 13), .int (nI mc), .int (nI mh), .ref (b 16), .ref (b 17), .ref (b 18), .ref (b 19), .ref (b 20), .ref (b 21), .ref (b 22), .ref (b 23), .ref (b 24), .int (nI mf), .ref (b 26), .ref (b 27), .ref (b 28), .ref (b 29), .ref (b 30), .ref (b 31), .ref (b 32), .int (gg 32), .int (nI md), .ref (b 35), .ref (b 36), .ref (b 37), .ref (b 38), .ref (b 39), .ref (b 40), .int (gg 40), .ref (b 42), .ref (b 43), .ref (b 44), .int (nI wt), .ref (b 46), .ref (b 47), .int pz, .ref (b 49)])), (b 29, .inl (cI, 12, .inl re)), (b 24, .inl (cI, 10, .inl lo))] s.heap := hP
  have hl := lv_entry ([.ref (b 0), .int p0, .int p1]) (n := 4) (Nat.le_of_ble_eq_true rfl)
  rw [lg_entry_eq]
  generalize (lg_sl ([.ref (b 0), .int p0, .int p1]) ++ List.replicate (4 - (lg_sl ([.ref (b 0), .int p0, .int p1])).length) Slot.unset).toArray = ls at hl ⊢
  have hl : lv_has ls 4 [(0, .ref (b 0)), (1, .int p0), (2, .int p1)] := hl
  refine lv_iload_n hx hb dX8_lossOf_0 rfl (lv_at hl 2 rfl) ?_
  refine lv_aload_n hx hb dX8_lossOf_1 rfl (lv_at hl 0 rfl) ?_
  refine va_get (D := (dC, dI)) (ci := 8) (v := .ref (b 29)) (C := RX8) (T := TX8) (N := 49) hx hb hw zz_inX8 hown hK hP 0 rfl rfl 28 (by decide) (hw _ tw_223) (fun _ h9 => h9) rfl dX8_lossOf_2 ?_
  refine lv_iload_n hx hb dX8_lossOf_5 rfl (lv_at hl 1 rfl) ?_
  refine va_iald hx hb hK hP 1 0 rfl rfl (vp_in_iff.mpr (by constructor <;> omega)) dX8_lossOf_6 ?_
  refine lv_isub hx hb dX8_lossOf_7 ?_
  refine lv_topi (fun lt elt => ?_)
  have zlt : lt.toInt = p1.toInt - (re (Int32.toNatClampNeg p0)).toInt := by rw [elt]; exact zz_subI (by omega) (by omega)
  refine lv_istore_n (lv' := [(3, .int lt), (0, .ref (b 0)), (1, .int p0), (2, .int p1)]) hx hb dX8_lossOf_8 rfl hl (by decide) rfl (fun ls hl => ?_)
  refine lv_aload_n hx hb dX8_lossOf_9 rfl (lv_at hl 1 rfl) ?_
  refine va_get (D := (dC, dI)) (ci := 8) (v := .ref (b 24)) (C := RX8) (T := TX8) (N := 49) hx hb hw zz_inX8 hown hK hP 0 rfl rfl 23 (by decide) (hw _ tw_204) (fun _ h9 => h9) rfl dX8_lossOf_10 ?_
  refine lv_iload_n hx hb dX8_lossOf_13 rfl (lv_at hl 0 rfl) ?_
  refine lv_bipush (v := 9) hx hb dX8_lossOf_14 (by decide) ?_
  refine lv_icmp_le (tgt := 24) hx hb dX8_lossOf_16 (by decide) (fun c_1 => ?_) (fun c_1 => ?_)
  · have zc_1 := c_1
    rw [Int32.le_iff_toInt_le] at zc_1
    try rw [show (9 : Int32).toInt = 9 from by decide] at zc_1
    refine lv_iload_n hx hb dX8_lossOf_24 rfl (lv_at hl 0 rfl) ?_
    refine va_iald hx hb hK hP 2 0 rfl rfl (vp_in_iff.mpr (by constructor <;> omega)) dX8_lossOf_25 ?_
    exact W.iret (v := (lo (Int32.toNatClampNeg lt))) hx hb hr (fun t ht hW => ⟨⟨(lo (Int32.toNatClampNeg lt)), (), rfl, (by show (lo (Int32.toNatClampNeg lt)) = lo (Int32.toNatClampNeg (if 9 < p1 - (re (Int32.toNatClampNeg p0)) then 9 else p1 - (re (Int32.toNatClampNeg p0)))); rw [← elt, if_neg (Int32.not_lt.mpr c_1)]), trivial⟩, hS.F ht⟩) hS.2.2 dX8_lossOf_26
  · have zc_1 := c_1
    rw [Int32.le_iff_toInt_le] at zc_1
    try rw [show (9 : Int32).toInt = 9 from by decide] at zc_1
    refine lv_bipush (v := 9) hx hb dX8_lossOf_19 (by decide) ?_
    refine lv_goto (tgt := 25) hx hb dX8_lossOf_21 (by decide) ?_
    refine va_iald hx hb hK hP 2 0 rfl rfl (zz_vin (by decide)) dX8_lossOf_25 ?_
    exact W.iret (v := (lo (Int32.toNatClampNeg 9))) hx hb hr (fun t ht hW => ⟨⟨(lo (Int32.toNatClampNeg 9)), (), rfl, (by show (lo (Int32.toNatClampNeg 9)) = lo (Int32.toNatClampNeg (if 9 < p1 - (re (Int32.toNatClampNeg p0)) then 9 else p1 - (re (Int32.toNatClampNeg p0)))); rw [← elt, if_pos (Int32.not_le.mp c_1)]), trivial⟩, hS.F ht⟩) hS.2.2 dX8_lossOf_26
set_option maxHeartbeats 4000000 in
set_option maxRecDepth 100000 in
theorem mx_proceedsW (l : Launch) (dC : Nat → ClassId) (dI : Nat → Nat → Nat) (b : Nat → Nat) (gg : Nat → Int32) (mt : Nat) (mc : Nat) (mh : Nat) (mf : Nat) (md : Nat) (wt : Nat) (pz : Int32) (cI : ClassId) (re : Nat → Int32) (lo : Nat → Int32) (va : Nat → Int32) (p0 : Int32) (p1 : Int32) (sz : Nat) (hp12 : 0 ≤ p0.toInt ∧ p0.toInt < 12) (hre : 0 ≤ (re (Int32.toNatClampNeg p0)).toInt ∧ (re (Int32.toNatClampNeg p0)).toInt ≤ p1.toInt) : Met l yX8_proceeds (zz_w yX8_proceeds cX8_proceeds 3 (some .int)) ({ frames := 1, cells := 0, slots := 0, locals := 23 }) (va_Pc [.ref (b 0), .int p0, .int p1] (zz_B (dC, dI) sz [(b 0, .inr (8, [.ref (b 1), .int (nI mt), .int (gg 2), .int (gg 3), .int (gg 4), .int (gg 5), .int (gg 6), .int (gg 7), .int (gg 8), .int (gg 9), .ref (b 11), .ref (b 12), .ref (b 13), .int (nI mc), .int (nI mh), .ref (b 16), .ref (b 17), .ref (b 18), .ref (b 19), .ref (b 20), .ref (b 21), .ref (b 22), .ref (b 23), .ref (b 24), .int (nI mf), .ref (b 26), .ref (b 27), .ref (b 28), .ref (b 29), .ref (b 30), .ref (b 31), .ref (b 32), .int (gg 32), .int (nI md), .ref (b 35), .ref (b 36), .ref (b 37), .ref (b 38), .ref (b 39), .ref (b 40), .int (gg 40), .ref (b 42), .ref (b 43), .ref (b 44), .int (nI wt), .ref (b 46), .ref (b 47), .int pz, .ref (b 49)])), (b 29, .inl (cI, 12, .inl re)), (b 24, .inl (cI, 10, .inl lo)), (b 30, .inl (cI, 12, .inl va))] [(cI, .int)])) (va_Qi (fun (r : Int32) (_ : Unit) => r = (zz_pc lo (va (Int32.toNatClampNeg p0)) (p1 - (re (Int32.toNatClampNeg p0))))) (fun _ _ => True) (va_A [] sz)) 0 0 (va_A [] sz) := by
  refine Met.ofW (cc := cX8_proceeds) (maxL := 3) (ret := (some .int)) (by decide) rfl ?_
  intro p e s m args below meth c s₁ B hml hv
  obtain ⟨rfl, hsz, hP, hK, hD0, hN⟩ := hv
  have hx := B.exec
  have hb := B.bytes
  have hr := B.returns
  have hts := atoms_spec (ws := zz_w yX8_proceeds cX8_proceeds 3 (some .int)) B.pre
  have hw : ∀ w ∈ zz_all, w.before _ s = true := fun w h => hts w (List.mem_cons_of_mem _ h)
  have hown : s.vm.findClass RX8 = some m.cls := findClass_of_methodNamed B.named
  have hlocks := B.notSynchronized
  subst hsz
  have hD := hD0
  generalize hAe : va_A [] s.heap.size = A
  have hA : ∀ q : Nat, s.heap.size ≤ q → A q := fun q h => by rw [← hAe]; exact Or.inr h
  have hS : va_S A s.heap s.heap [] := va_S.rf
  have hP : va_P (dC, dI) vwCl [(b 0, .inr (8, [.ref (b 1), .int (nI mt), .int (gg 2), .int (gg 3), .int (gg 4), .int (gg 5), .int (gg 6), .int (gg 7), .int (gg 8), .int (gg 9), .ref (b 11), .ref (b 12), .ref (b 13), .int (nI mc), .int (nI mh), .ref (b 16), .ref (b 17), .ref (b 18), .ref (b 19), .ref (b 20), .ref (b 21), .ref (b 22), .ref (b 23), .ref (b 24), .int (nI mf), .ref (b 26), .ref (b 27), .ref (b 28), .ref (b 29), .ref (b 30), .ref (b 31), .ref (b 32), .int (gg 32), .int (nI md), .ref (b 35), .ref (b 36), .ref (b 37), .ref (b 38), .ref (b 39), .ref (b 40), .int (gg 40), .ref (b 42), .ref (b 43), .ref (b 44), .int (nI wt), .ref (b 46), .ref (b 47), .int pz, .ref (b 49)])), (b 29, .inl (cI, 12, .inl re)), (b 24, .inl (cI, 10, .inl lo)), (b 30, .inl (cI, 12, .inl va))] s.heap := hP
  have hl := lv_entry ([.ref (b 0), .int p0, .int p1]) (n := 3) (Nat.le_of_ble_eq_true rfl)
  rw [lg_entry_eq]
  generalize (lg_sl ([.ref (b 0), .int p0, .int p1]) ++ List.replicate (3 - (lg_sl ([.ref (b 0), .int p0, .int p1])).length) Slot.unset).toArray = ls at hl ⊢
  have hl : lv_has ls 3 [(0, .ref (b 0)), (1, .int p0), (2, .int p1)] := hl
  refine lv_aload_n hx hb dX8_proceeds_0 rfl (lv_at hl 0 rfl) ?_
  refine va_get (D := (dC, dI)) (ci := 8) (v := .ref (b 30)) (C := RX8) (T := TX8) (N := 49) hx hb hw zz_inX8 hown hK hP 0 rfl rfl 29 (by decide) (hw _ tw_224) (fun _ h9 => h9) rfl dX8_proceeds_1 ?_
  refine lv_iload_n hx hb dX8_proceeds_4 rfl (lv_at hl 1 rfl) ?_
  refine va_iald hx hb hK hP 3 0 rfl rfl (vp_in_iff.mpr (by constructor <;> omega)) dX8_proceeds_5 ?_
  refine lv_bipush (v := 100) hx hb dX8_proceeds_6 (by decide) ?_
  refine lv_aload_n hx hb dX8_proceeds_8 rfl (lv_at hl 0 rfl) ?_
  refine lv_iload_n hx hb dX8_proceeds_9 rfl (lv_at hl 1 rfl) ?_
  refine lv_iload_n hx hb dX8_proceeds_10 rfl (lv_at hl 2 rfl) ?_
  obtain ⟨hPc, hDc⟩ := zz_sub2 (ws' := [(b 0, .inr (8, [.ref (b 1), .int (nI mt), .int (gg 2), .int (gg 3), .int (gg 4), .int (gg 5), .int (gg 6), .int (gg 7), .int (gg 8), .int (gg 9), .ref (b 11), .ref (b 12), .ref (b 13), .int (nI mc), .int (nI mh), .ref (b 16), .ref (b 17), .ref (b 18), .ref (b 19), .ref (b 20), .ref (b 21), .ref (b 22), .ref (b 23), .ref (b 24), .int (nI mf), .ref (b 26), .ref (b 27), .ref (b 28), .ref (b 29), .ref (b 30), .ref (b 31), .ref (b 32), .int (gg 32), .int (nI md), .ref (b 35), .ref (b 36), .ref (b 37), .ref (b 38), .ref (b 39), .ref (b 40), .int (gg 40), .ref (b 42), .ref (b 43), .ref (b 44), .int (nI wt), .ref (b 46), .ref (b 47), .int pz, .ref (b 49)])), (b 29, .inl (cI, 12, .inl re)), (b 24, .inl (cI, 10, .inl lo))]) hP hD [0, 1, 2] (by decide) rfl
  have hKc := hK.sub (tys' := [(cI, .int)]) [0] rfl
  have hFc := zz_free0 hS hA
  refine va_calli (va_runV (As := [.int p0, .int p1]) (rest := [.int 100, .int (va (Int32.toNatClampNeg p0))]) ⟨hx, hb, hml, hown, hw⟩ (mx_lossOfW l dC dI b gg mt mc mh mf md wt pz cI re lo p0 p1 s.heap.size (by omega) (by omega)) ⟨callB_of 2 hw (zz_good tw_225) rfl rfl rfl (hw _ tw_184) (hw _ tw_226) (by decide +kernel) ⟨Nat.le_of_ble_eq_true rfl, Nat.le_of_ble_eq_true rfl⟩, (hw _ tw_227), (hw _ tw_228)⟩ ⟨zz_blind, va_recv hKc hPc (ci := 8) (q0 := 0) rfl rfl, zz_pre hPc hKc hDc hN⟩ rfl rfl hl.1 rfl (lv_room (Nat.le_of_ble_eq_true rfl)) dX8_proceeds_11 ⟨Nat.le_of_ble_eq_true rfl, Nat.le_of_ble_eq_true rfl⟩) hS (fun q _ h => hFc q h) hFc (fun r_1 u_1 t H1 locs ht hvm e_1 hB hz1 hk1 hS => ?_)
  try dsimp only at e_1
  have hP := zz_keep hP hk1
  clear hk1 hB ht hvm
  generalize H1 = H at hP hS ⊢
  refine zz_seti (lo (Int32.toNatClampNeg (if 9 < p1 - (re (Int32.toNatClampNeg p0)) then 9 else p1 - (re (Int32.toNatClampNeg p0))))) e_1 ?_
  refine lv_isub hx hb dX8_proceeds_14 ?_
  refine lv_imul hx hb dX8_proceeds_15 ?_
  refine lv_bipush (v := 100) hx hb dX8_proceeds_16 (by decide) ?_
  refine lv_idiv hx hb dX8_proceeds_18 (by decide) ?_
  exact W.iret (v := (((va (Int32.toNatClampNeg p0)) * (100 - (lo (Int32.toNatClampNeg (if 9 < p1 - (re (Int32.toNatClampNeg p0)) then 9 else p1 - (re (Int32.toNatClampNeg p0))))))) / 100)) hx hb hr (fun t ht hW => ⟨⟨(((va (Int32.toNatClampNeg p0)) * (100 - (lo (Int32.toNatClampNeg (if 9 < p1 - (re (Int32.toNatClampNeg p0)) then 9 else p1 - (re (Int32.toNatClampNeg p0))))))) / 100), (), rfl, rfl, trivial⟩, hS.F ht⟩) hS.2.2 dX8_proceeds_19
set_option maxHeartbeats 4000000 in
set_option maxRecDepth 100000 in
theorem mx_lost (l : Launch) (dC : Nat → ClassId) (dI : Nat → Nat → Nat) (b : Nat → Nat) (gg : Nat → Int32) (mt : Nat) (mc : Nat) (mh : Nat) (mf : Nat) (md : Nat) (wt : Nat) (pz : Int32) (cI : ClassId) (nee : Nat → Int32) (re : Nat → Int32) (va : Nat → Int32) (lo : Nat → Int32) (od : Nat → Int32) (lk : Nat → Int32) (p0 : Int32) (sz : Nat) (hmf : mf ≤ 12) (hmc : mc ≤ 400) (hwt : wt ≤ 7) (hor : zz_or od wt (fun q => q < mf ∧ 1 ≤ (nee q).toInt)) (hrn : zz_rg nee mf 0 60) (hrr : zz_rg re mf 0 400) (hp : 1 ≤ p0.toInt ∧ p0.toInt ≤ 99) (hlr : zz_rg lo 10 0 100) (hrv : zz_rg va mf 0 10000) : Met l yX8_lost (zz_w yX8_lost cX8_lost 9 (some .int)) ({ frames := 2, cells := 0, slots := 0, locals := 45 }) (va_Pc [.ref (b 0), .int p0] (zz_B (dC, dI) sz [(b 0, .inr (8, [.ref (b 1), .int (nI mt), .int (gg 2), .int (gg 3), .int (gg 4), .int (gg 5), .int (gg 6), .int (gg 7), .int (gg 8), .int (gg 9), .ref (b 11), .ref (b 12), .ref (b 13), .int (nI mc), .int (nI mh), .ref (b 16), .ref (b 17), .ref (b 18), .ref (b 19), .ref (b 20), .ref (b 21), .ref (b 22), .ref (b 23), .ref (b 24), .int (nI mf), .ref (b 26), .ref (b 27), .ref (b 28), .ref (b 29), .ref (b 30), .ref (b 31), .ref (b 32), .int (gg 32), .int (nI md), .ref (b 35), .ref (b 36), .ref (b 37), .ref (b 38), .ref (b 39), .ref (b 40), .int (gg 40), .ref (b 42), .ref (b 43), .ref (b 44), .int (nI wt), .ref (b 46), .ref (b 47), .int pz, .ref (b 49)])), (b 28, .inl (cI, 12, .inl nee)), (b 29, .inl (cI, 12, .inl re)), (b 30, .inl (cI, 12, .inl va)), (b 24, .inl (cI, 10, .inl lo)), (b 46, .inl (cI, 7, .inl od)), (b 47, .inl (cI, 12, .inl lk))] [(cI, .int)])) (va_Qi (fun (r : Int32) (_ : Nat → Int32) => r.toInt = zz_co lo va re nee mc p0.toInt.toNat wt od ∧ 0 ≤ r.toInt) (fun (u0 : Nat → Int32) (t : State) => va_P (dC, dI) vwCl [(b 0, .inr (8, [.ref (b 1), .int (nI mt), .int (gg 2), .int (gg 3), .int (gg 4), .int (gg 5), .int (gg 6), .int (gg 7), .int (gg 8), .int (gg 9), .ref (b 11), .ref (b 12), .ref (b 13), .int (nI mc), .int (nI mh), .ref (b 16), .ref (b 17), .ref (b 18), .ref (b 19), .ref (b 20), .ref (b 21), .ref (b 22), .ref (b 23), .ref (b 24), .int (nI mf), .ref (b 26), .ref (b 27), .ref (b 28), .ref (b 29), .ref (b 30), .ref (b 31), .ref (b 32), .int (gg 32), .int (nI md), .ref (b 35), .ref (b 36), .ref (b 37), .ref (b 38), .ref (b 39), .ref (b 40), .int (gg 40), .ref (b 42), .ref (b 43), .ref (b 44), .int (nI wt), .ref (b 46), .ref (b 47), .int pz, .ref (b 49)])), (b 28, .inl (cI, 12, .inl nee)), (b 29, .inl (cI, 12, .inl re)), (b 30, .inl (cI, 12, .inl va)), (b 24, .inl (cI, 10, .inl lo)), (b 46, .inl (cI, 7, .inl od)), (b 47, .inl (cI, 12, .inl u0))] t.heap ∧ va_K (dC, dI) vwCl [(cI, .int)] t ∧ va_D (va_A [(b 0, .inr (8, [.ref (b 1), .int (nI mt), .int (gg 2), .int (gg 3), .int (gg 4), .int (gg 5), .int (gg 6), .int (gg 7), .int (gg 8), .int (gg 9), .ref (b 11), .ref (b 12), .ref (b 13), .int (nI mc), .int (nI mh), .ref (b 16), .ref (b 17), .ref (b 18), .ref (b 19), .ref (b 20), .ref (b 21), .ref (b 22), .ref (b 23), .ref (b 24), .int (nI mf), .ref (b 26), .ref (b 27), .ref (b 28), .ref (b 29), .ref (b 30), .ref (b 31), .ref (b 32), .int (gg 32), .int (nI md), .ref (b 35), .ref (b 36), .ref (b 37), .ref (b 38), .ref (b 39), .ref (b 40), .int (gg 40), .ref (b 42), .ref (b 43), .ref (b 44), .int (nI wt), .ref (b 46), .ref (b 47), .int pz, .ref (b 49)])), (b 28, .inl (cI, 12, .inl nee)), (b 29, .inl (cI, 12, .inl re)), (b 30, .inl (cI, 12, .inl va)), (b 24, .inl (cI, 10, .inl lo)), (b 46, .inl (cI, 7, .inl od)), (b 47, .inl (cI, 12, .inl lk))] sz) [(b 0, .inr (8, [.ref (b 1), .int (nI mt), .int (gg 2), .int (gg 3), .int (gg 4), .int (gg 5), .int (gg 6), .int (gg 7), .int (gg 8), .int (gg 9), .ref (b 11), .ref (b 12), .ref (b 13), .int (nI mc), .int (nI mh), .ref (b 16), .ref (b 17), .ref (b 18), .ref (b 19), .ref (b 20), .ref (b 21), .ref (b 22), .ref (b 23), .ref (b 24), .int (nI mf), .ref (b 26), .ref (b 27), .ref (b 28), .ref (b 29), .ref (b 30), .ref (b 31), .ref (b 32), .int (gg 32), .int (nI md), .ref (b 35), .ref (b 36), .ref (b 37), .ref (b 38), .ref (b 39), .ref (b 40), .int (gg 40), .ref (b 42), .ref (b 43), .ref (b 44), .int (nI wt), .ref (b 46), .ref (b 47), .int pz, .ref (b 49)])), (b 28, .inl (cI, 12, .inl nee)), (b 29, .inl (cI, 12, .inl re)), (b 30, .inl (cI, 12, .inl va)), (b 24, .inl (cI, 10, .inl lo)), (b 46, .inl (cI, 7, .inl od)), (b 47, .inl (cI, 12, .inl u0))]) (va_A [(b 0, .inr (8, [.ref (b 1), .int (nI mt), .int (gg 2), .int (gg 3), .int (gg 4), .int (gg 5), .int (gg 6), .int (gg 7), .int (gg 8), .int (gg 9), .ref (b 11), .ref (b 12), .ref (b 13), .int (nI mc), .int (nI mh), .ref (b 16), .ref (b 17), .ref (b 18), .ref (b 19), .ref (b 20), .ref (b 21), .ref (b 22), .ref (b 23), .ref (b 24), .int (nI mf), .ref (b 26), .ref (b 27), .ref (b 28), .ref (b 29), .ref (b 30), .ref (b 31), .ref (b 32), .int (gg 32), .int (nI md), .ref (b 35), .ref (b 36), .ref (b 37), .ref (b 38), .ref (b 39), .ref (b 40), .int (gg 40), .ref (b 42), .ref (b 43), .ref (b 44), .int (nI wt), .ref (b 46), .ref (b 47), .int pz, .ref (b 49)])), (b 28, .inl (cI, 12, .inl nee)), (b 29, .inl (cI, 12, .inl re)), (b 30, .inl (cI, 12, .inl va)), (b 24, .inl (cI, 10, .inl lo)), (b 46, .inl (cI, 7, .inl od)), (b 47, .inl (cI, 12, .inl lk))] sz)) 0 0 (va_A [(b 0, .inr (8, [.ref (b 1), .int (nI mt), .int (gg 2), .int (gg 3), .int (gg 4), .int (gg 5), .int (gg 6), .int (gg 7), .int (gg 8), .int (gg 9), .ref (b 11), .ref (b 12), .ref (b 13), .int (nI mc), .int (nI mh), .ref (b 16), .ref (b 17), .ref (b 18), .ref (b 19), .ref (b 20), .ref (b 21), .ref (b 22), .ref (b 23), .ref (b 24), .int (nI mf), .ref (b 26), .ref (b 27), .ref (b 28), .ref (b 29), .ref (b 30), .ref (b 31), .ref (b 32), .int (gg 32), .int (nI md), .ref (b 35), .ref (b 36), .ref (b 37), .ref (b 38), .ref (b 39), .ref (b 40), .int (gg 40), .ref (b 42), .ref (b 43), .ref (b 44), .int (nI wt), .ref (b 46), .ref (b 47), .int pz, .ref (b 49)])), (b 28, .inl (cI, 12, .inl nee)), (b 29, .inl (cI, 12, .inl re)), (b 30, .inl (cI, 12, .inl va)), (b 24, .inl (cI, 10, .inl lo)), (b 46, .inl (cI, 7, .inl od)), (b 47, .inl (cI, 12, .inl lk))] sz) := by
  refine Met.ofW (cc := cX8_lost) (maxL := 9) (ret := (some .int)) (by decide) rfl ?_
  intro p e s m args below meth c s₁ B hml hv
  obtain ⟨rfl, hsz, hP, hK, hD0, hN⟩ := hv
  have hx := B.exec
  have hb := B.bytes
  have hr := B.returns
  have hts := atoms_spec (ws := zz_w yX8_lost cX8_lost 9 (some .int)) B.pre
  have hw : ∀ w ∈ zz_all, w.before _ s = true := fun w h => hts w (List.mem_cons_of_mem _ h)
  have hown : s.vm.findClass RX8 = some m.cls := findClass_of_methodNamed B.named
  have hlocks := B.notSynchronized
  subst hsz
  have hD := hD0.self (sz := s.heap.size)
  generalize hAe : va_A [(b 0, .inr (8, [.ref (b 1), .int (nI mt), .int (gg 2), .int (gg 3), .int (gg 4), .int (gg 5), .int (gg 6), .int (gg 7), .int (gg 8), .int (gg 9), .ref (b 11), .ref (b 12), .ref (b 13), .int (nI mc), .int (nI mh), .ref (b 16), .ref (b 17), .ref (b 18), .ref (b 19), .ref (b 20), .ref (b 21), .ref (b 22), .ref (b 23), .ref (b 24), .int (nI mf), .ref (b 26), .ref (b 27), .ref (b 28), .ref (b 29), .ref (b 30), .ref (b 31), .ref (b 32), .int (gg 32), .int (nI md), .ref (b 35), .ref (b 36), .ref (b 37), .ref (b 38), .ref (b 39), .ref (b 40), .int (gg 40), .ref (b 42), .ref (b 43), .ref (b 44), .int (nI wt), .ref (b 46), .ref (b 47), .int pz, .ref (b 49)])), (b 28, .inl (cI, 12, .inl nee)), (b 29, .inl (cI, 12, .inl re)), (b 30, .inl (cI, 12, .inl va)), (b 24, .inl (cI, 10, .inl lo)), (b 46, .inl (cI, 7, .inl od)), (b 47, .inl (cI, 12, .inl lk))] s.heap.size = A at hD ⊢
  have hA : ∀ q : Nat, s.heap.size ≤ q → A q := fun q h => by rw [← hAe]; exact Or.inr h
  have hS : va_S A s.heap s.heap [] := va_S.rf
  have hP : va_P (dC, dI) vwCl [(b 0, .inr (8, [.ref (b 1), .int (nI mt), .int (gg 2), .int (gg 3), .int (gg 4), .int (gg 5), .int (gg 6), .int (gg 7), .int (gg 8), .int (gg 9), .ref (b 11), .ref (b 12), .ref (b 13), .int (nI mc), .int (nI mh), .ref (b 16), .ref (b 17), .ref (b 18), .ref (b 19), .ref (b 20), .ref (b 21), .ref (b 22), .ref (b 23), .ref (b 24), .int (nI mf), .ref (b 26), .ref (b 27), .ref (b 28), .ref (b 29), .ref (b 30), .ref (b 31), .ref (b 32), .int (gg 32), .int (nI md), .ref (b 35), .ref (b 36), .ref (b 37), .ref (b 38), .ref (b 39), .ref (b 40), .int (gg 40), .ref (b 42), .ref (b 43), .ref (b 44), .int (nI wt), .ref (b 46), .ref (b 47), .int pz, .ref (b 49)])), (b 28, .inl (cI, 12, .inl nee)), (b 29, .inl (cI, 12, .inl re)), (b 30, .inl (cI, 12, .inl va)), (b 24, .inl (cI, 10, .inl lo)), (b 46, .inl (cI, 7, .inl od)), (b 47, .inl (cI, 12, .inl lk))] s.heap := hP
  have hl := lv_entry ([.ref (b 0), .int p0]) (n := 9) (Nat.le_of_ble_eq_true rfl)
  rw [lg_entry_eq]
  generalize (lg_sl ([.ref (b 0), .int p0]) ++ List.replicate (9 - (lg_sl ([.ref (b 0), .int p0])).length) Slot.unset).toArray = ls at hl ⊢
  have hl : lv_has ls 9 [(0, .ref (b 0)), (1, .int p0)] := hl
  refine lv_aload_n hx hb dX8_lost_0 rfl (lv_at hl 0 rfl) ?_
  refine va_get (D := (dC, dI)) (ci := 8) (v := .int (nI wt)) (C := RX8) (T := TX8) (N := 49) hx hb hw zz_inX8 hown hK hP 0 rfl rfl 44 (by decide) (hw _ tw_445) (fun _ h9 => h9) rfl dX8_lost_1 ?_
  refine lv_istore_n (lv' := [(2, .int (nI wt)), (0, .ref (b 0)), (1, .int p0)]) hx hb dX8_lost_4 rfl hl (by decide) rfl (fun ls hl => ?_)
  refine lv_iconst (v := 0) hx hb dX8_lost_5 (by decide) ?_
  refine lv_istore_n (lv' := [(3, .int 0), (2, .int (nI wt)), (0, .ref (b 0)), (1, .int p0)]) hx hb dX8_lost_6 rfl hl (by decide) rfl (fun ls hl => ?_)
  refine lv_iconst (v := 0) hx hb dX8_lost_7 (by decide) ?_
  refine lv_istore (lv' := [(4, .int 0), (3, .int 0), (2, .int (nI wt)), (0, .ref (b 0)), (1, .int p0)]) hx hb dX8_lost_8 hl (by decide) rfl (fun ls hl => ?_)
  refine zz_loopS (fun (u : (Nat) × (Nat → Int32)) => match u with | (i, g0) => [(b 0, .inr (8, [.ref (b 1), .int (nI mt), .int (gg 2), .int (gg 3), .int (gg 4), .int (gg 5), .int (gg 6), .int (gg 7), .int (gg 8), .int (gg 9), .ref (b 11), .ref (b 12), .ref (b 13), .int (nI mc), .int (nI mh), .ref (b 16), .ref (b 17), .ref (b 18), .ref (b 19), .ref (b 20), .ref (b 21), .ref (b 22), .ref (b 23), .ref (b 24), .int (nI mf), .ref (b 26), .ref (b 27), .ref (b 28), .ref (b 29), .ref (b 30), .ref (b 31), .ref (b 32), .int (gg 32), .int (nI md), .ref (b 35), .ref (b 36), .ref (b 37), .ref (b 38), .ref (b 39), .ref (b 40), .int (gg 40), .ref (b 42), .ref (b 43), .ref (b 44), .int (nI wt), .ref (b 46), .ref (b 47), .int pz, .ref (b 49)])), (b 28, .inl (cI, 12, .inl nee)), (b 29, .inl (cI, 12, .inl re)), (b 30, .inl (cI, 12, .inl va)), (b 24, .inl (cI, 10, .inl lo)), (b 46, .inl (cI, 7, .inl od)), (b 47, .inl (cI, 12, .inl g0))]) (fun (u : (Nat) × (Nat → Int32)) => match u with | (i, g0) => [(0, .ref (b 0)), (1, .int p0), (2, .int (nI wt)), (3, .int 0), (4, .int (nI i))]) (fun (u : (Nat) × (Nat → Int32)) => match u with | (i, g0) => i ≤ wt ∧ ∀ k : Nat, k < i → zz_cv g0 od k = zz_cv nee od k) (fun (u : (Nat) × (Nat → Int32)) => match u with | (i, g0) => wt - i) (fun u hI H locs ls hP hD hS hl ih_10 => ?_) (0, lk) ⟨by omega, fun k hk => absurd hk (by omega)⟩ _ _ _ (hP.sub [0, 1, 2, 3, 4, 5, 6] rfl) (hD.sub [0, 1, 2, 3, 4, 5, 6] (by decide) rfl) hS (lv_sub hl [3, 4, 2, 1, 0] rfl)
  obtain ⟨i, g0⟩ := u
  obtain ⟨hP, hD⟩ := zz_ty (D := (dC, dI)) (cl := vwCl) (A := A) (H := H) [(b 0, .inr (8, [.ref (b 1), .int (nI mt), .int (gg 2), .int (gg 3), .int (gg 4), .int (gg 5), .int (gg 6), .int (gg 7), .int (gg 8), .int (gg 9), .ref (b 11), .ref (b 12), .ref (b 13), .int (nI mc), .int (nI mh), .ref (b 16), .ref (b 17), .ref (b 18), .ref (b 19), .ref (b 20), .ref (b 21), .ref (b 22), .ref (b 23), .ref (b 24), .int (nI mf), .ref (b 26), .ref (b 27), .ref (b 28), .ref (b 29), .ref (b 30), .ref (b 31), .ref (b 32), .int (gg 32), .int (nI md), .ref (b 35), .ref (b 36), .ref (b 37), .ref (b 38), .ref (b 39), .ref (b 40), .int (gg 40), .ref (b 42), .ref (b 43), .ref (b 44), .int (nI wt), .ref (b 46), .ref (b 47), .int pz, .ref (b 49)])), (b 28, .inl (cI, 12, .inl nee)), (b 29, .inl (cI, 12, .inl re)), (b 30, .inl (cI, 12, .inl va)), (b 24, .inl (cI, 10, .inl lo)), (b 46, .inl (cI, 7, .inl od)), (b 47, .inl (cI, 12, .inl g0))] hP hD rfl
  have hl : lv_has ls 9 [(0, .ref (b 0)), (1, .int p0), (2, .int (nI wt)), (3, .int 0), (4, .int (nI i))] := hl
  have hI : i ≤ wt ∧ ∀ k : Nat, k < i → zz_cv g0 od k = zz_cv nee od k := hI
  obtain ⟨ij, ii⟩ := hI
  refine lv_iload hx hb dX8_lost_10 (lv_at hl 4 rfl) ?_
  refine lv_aload_n hx hb dX8_lost_12 rfl (lv_at hl 0 rfl) ?_
  refine va_get (D := (dC, dI)) (ci := 8) (v := .int (nI wt)) (C := RX8) (T := TX8) (N := 49) hx hb hw zz_inX8 hown hK hP 0 rfl rfl 44 (by decide) (hw _ tw_445) (fun _ h9 => h9) rfl dX8_lost_13 ?_
  refine lv_icmp_ge (tgt := 49) hx hb dX8_lost_16 (by decide) (fun c_1 => ?_) (fun c_1 => ?_)
  · have zc_1 := c_1
    rw [Int32.le_iff_toInt_le] at zc_1
    try rw [zz_toInt i (by omega)] at zc_1
    try rw [zz_toInt wt (by omega)] at zc_1
    have hlo := zz_fill_lo hmf hor (show i = wt from by omega) ii hrn
    have htl := zz_tl_b (f := zz_cv g0 od) wt (fun k hk => (hlo.1 k hk).2)
    refine lv_aload_n hx hb dX8_lost_49 rfl (lv_at hl 0 rfl) ?_
    refine va_get (D := (dC, dI)) (ci := 8) (v := .int (nI mc)) (C := RX8) (T := TX8) (N := 49) hx hb hw zz_inX8 hown hK hP 0 rfl rfl 13 (by decide) (hw _ tw_219) (fun _ h9 => h9) rfl dX8_lost_50 ?_
    refine lv_istore (lv' := [(4, .int (nI mc)), (0, .ref (b 0)), (1, .int p0), (2, .int (nI wt)), (3, .int 0)]) hx hb dX8_lost_53 hl (by decide) rfl (fun ls hl => ?_)
    refine zz_loopS (fun (u : (Nat) × (Int32) × (Nat) × (Nat → Int32)) => match u with | (o5, s5, dy, g5) => [(b 0, .inr (8, [.ref (b 1), .int (nI mt), .int (gg 2), .int (gg 3), .int (gg 4), .int (gg 5), .int (gg 6), .int (gg 7), .int (gg 8), .int (gg 9), .ref (b 11), .ref (b 12), .ref (b 13), .int (nI mc), .int (nI mh), .ref (b 16), .ref (b 17), .ref (b 18), .ref (b 19), .ref (b 20), .ref (b 21), .ref (b 22), .ref (b 23), .ref (b 24), .int (nI mf), .ref (b 26), .ref (b 27), .ref (b 28), .ref (b 29), .ref (b 30), .ref (b 31), .ref (b 32), .int (gg 32), .int (nI md), .ref (b 35), .ref (b 36), .ref (b 37), .ref (b 38), .ref (b 39), .ref (b 40), .int (gg 40), .ref (b 42), .ref (b 43), .ref (b 44), .int (nI wt), .ref (b 46), .ref (b 47), .int pz, .ref (b 49)])), (b 28, .inl (cI, 12, .inl nee)), (b 29, .inl (cI, 12, .inl re)), (b 30, .inl (cI, 12, .inl va)), (b 24, .inl (cI, 10, .inl lo)), (b 46, .inl (cI, 7, .inl od)), (b 47, .inl (cI, 12, .inl g5))]) (fun (u : (Nat) × (Int32) × (Nat) × (Nat → Int32)) => match u with | (o5, s5, dy, g5) => [(0, .ref (b 0)), (1, .int p0), (2, .int (nI o5)), (3, .int s5), (4, .int (nI dy))]) (fun (u : (Nat) × (Int32) × (Nat) × (Nat → Int32)) => match u with | (o5, s5, dy, g5) => zz_lo g5 od wt o5 ∧ zz_tl (zz_cv g5 od) wt ≤ 420 ∧ dy + zz_tl (zz_cv g5 od) wt ≤ 820 ∧ mc ≤ dy ∧ zz_rs lo va re nee od g5 mc p0.toInt.toNat wt (dy - mc) s5) (fun (u : (Nat) × (Int32) × (Nat) × (Nat → Int32)) => match u with | (o5, s5, dy, g5) => (400 - dy) + zz_tl (zz_cv g5 od) wt) (fun u hI H locs ls hP hD hS hl ih_55 => ?_) (wt, 0, mc, g0) ⟨hlo, by omega, by omega, by omega, (by rw [Nat.sub_self]; exact zz_rs_0 hor (fun q9 h9 => h9.2) (fun k9 h9 => ii k9 (by omega)))⟩ _ _ _ (hP.sub [0, 1, 2, 3, 4, 5, 6] rfl) (hD.sub [0, 1, 2, 3, 4, 5, 6] (by decide) rfl) hS (lv_sub hl [1, 2, 3, 4, 0] rfl)
    obtain ⟨o5, s5, dy, g5⟩ := u
    obtain ⟨hP, hD⟩ := zz_ty (D := (dC, dI)) (cl := vwCl) (A := A) (H := H) [(b 0, .inr (8, [.ref (b 1), .int (nI mt), .int (gg 2), .int (gg 3), .int (gg 4), .int (gg 5), .int (gg 6), .int (gg 7), .int (gg 8), .int (gg 9), .ref (b 11), .ref (b 12), .ref (b 13), .int (nI mc), .int (nI mh), .ref (b 16), .ref (b 17), .ref (b 18), .ref (b 19), .ref (b 20), .ref (b 21), .ref (b 22), .ref (b 23), .ref (b 24), .int (nI mf), .ref (b 26), .ref (b 27), .ref (b 28), .ref (b 29), .ref (b 30), .ref (b 31), .ref (b 32), .int (gg 32), .int (nI md), .ref (b 35), .ref (b 36), .ref (b 37), .ref (b 38), .ref (b 39), .ref (b 40), .int (gg 40), .ref (b 42), .ref (b 43), .ref (b 44), .int (nI wt), .ref (b 46), .ref (b 47), .int pz, .ref (b 49)])), (b 28, .inl (cI, 12, .inl nee)), (b 29, .inl (cI, 12, .inl re)), (b 30, .inl (cI, 12, .inl va)), (b 24, .inl (cI, 10, .inl lo)), (b 46, .inl (cI, 7, .inl od)), (b 47, .inl (cI, 12, .inl g5))] hP hD rfl
    have hl : lv_has ls 9 [(0, .ref (b 0)), (1, .int p0), (2, .int (nI o5)), (3, .int s5), (4, .int (nI dy))] := hl
    have hI : zz_lo g5 od wt o5 ∧ zz_tl (zz_cv g5 od) wt ≤ 420 ∧ dy + zz_tl (zz_cv g5 od) wt ≤ 820 ∧ mc ≤ dy ∧ zz_rs lo va re nee od g5 mc p0.toInt.toNat wt (dy - mc) s5 := hI
    obtain ⟨il5, it5, id5, imd, ir5⟩ := hI
    refine lv_iload_n hx hb dX8_lost_55 rfl (lv_at hl 2 rfl) ?_
    have ho5 : o5 ≤ wt := by rw [il5.2]; exact zz_cn_le wt
    refine lv_if_le (tgt := 197) hx hb dX8_lost_56 (by decide) (fun c_2 => ?_) (fun c_2 => ?_)
    · have zc_2 := c_2
      rw [Int32.le_iff_toInt_le] at zc_2
      try rw [zz_toInt o5 (by omega)] at zc_2
      try rw [show (0 : Int32).toInt = 0 from by decide] at zc_2
      refine lv_iload_n hx hb dX8_lost_197 rfl (lv_at hl 3 rfl) ?_
      obtain ⟨hP9, hD9⟩ := zz_sub2 (ws' := [(b 0, .inr (8, [.ref (b 1), .int (nI mt), .int (gg 2), .int (gg 3), .int (gg 4), .int (gg 5), .int (gg 6), .int (gg 7), .int (gg 8), .int (gg 9), .ref (b 11), .ref (b 12), .ref (b 13), .int (nI mc), .int (nI mh), .ref (b 16), .ref (b 17), .ref (b 18), .ref (b 19), .ref (b 20), .ref (b 21), .ref (b 22), .ref (b 23), .ref (b 24), .int (nI mf), .ref (b 26), .ref (b 27), .ref (b 28), .ref (b 29), .ref (b 30), .ref (b 31), .ref (b 32), .int (gg 32), .int (nI md), .ref (b 35), .ref (b 36), .ref (b 37), .ref (b 38), .ref (b 39), .ref (b 40), .int (gg 40), .ref (b 42), .ref (b 43), .ref (b 44), .int (nI wt), .ref (b 46), .ref (b 47), .int pz, .ref (b 49)])), (b 28, .inl (cI, 12, .inl nee)), (b 29, .inl (cI, 12, .inl re)), (b 30, .inl (cI, 12, .inl va)), (b 24, .inl (cI, 10, .inl lo)), (b 46, .inl (cI, 7, .inl od)), (b 47, .inl (cI, 12, .inl g5))]) hP hD [0, 1, 2, 3, 4, 5, 6] (by decide) rfl
      have hK9 := hK.sub (tys' := [(cI, .int)]) [0] rfl
      exact W.iret (v := s5) hx hb hr (fun t ht hW => ⟨⟨s5, (g5), rfl, (zz_rs_fin (mf := mf) hor (fun q9 h9 => h9.1) hlr hrv ir5 il5 (by omega)), by rw [ht]; exact hP9, va_K.moved hW.alike hK9, hD9⟩, hS.F ht⟩) hS.2.2 dX8_lost_198
    · have zc_2 := c_2
      rw [Int32.le_iff_toInt_le] at zc_2
      try rw [zz_toInt o5 (by omega)] at zc_2
      try rw [show (0 : Int32).toInt = 0 from by decide] at zc_2
      refine lv_iload_n hx hb dX8_lost_59 rfl (lv_at hl 1 rfl) ?_
      refine lv_istore (lv' := [(5, .int p0), (0, .ref (b 0)), (1, .int p0), (2, .int (nI o5)), (3, .int s5), (4, .int (nI dy))]) hx hb dX8_lost_60 hl (by decide) rfl (fun ls hl => ?_)
      refine lv_iconst (v := 0) hx hb dX8_lost_62 (by decide) ?_
      refine lv_istore (lv' := [(6, .int 0), (5, .int p0), (0, .ref (b 0)), (1, .int p0), (2, .int (nI o5)), (3, .int s5), (4, .int (nI dy))]) hx hb dX8_lost_63 hl (by decide) rfl (fun ls hl => ?_)
      refine zz_loopS (fun (u : (Nat) × (Int32) × (Nat) × (Int32) × (Nat → Int32)) => match u with | (n6, y6, o6, s6, g6) => [(b 0, .inr (8, [.ref (b 1), .int (nI mt), .int (gg 2), .int (gg 3), .int (gg 4), .int (gg 5), .int (gg 6), .int (gg 7), .int (gg 8), .int (gg 9), .ref (b 11), .ref (b 12), .ref (b 13), .int (nI mc), .int (nI mh), .ref (b 16), .ref (b 17), .ref (b 18), .ref (b 19), .ref (b 20), .ref (b 21), .ref (b 22), .ref (b 23), .ref (b 24), .int (nI mf), .ref (b 26), .ref (b 27), .ref (b 28), .ref (b 29), .ref (b 30), .ref (b 31), .ref (b 32), .int (gg 32), .int (nI md), .ref (b 35), .ref (b 36), .ref (b 37), .ref (b 38), .ref (b 39), .ref (b 40), .int (gg 40), .ref (b 42), .ref (b 43), .ref (b 44), .int (nI wt), .ref (b 46), .ref (b 47), .int pz, .ref (b 49)])), (b 28, .inl (cI, 12, .inl nee)), (b 29, .inl (cI, 12, .inl re)), (b 30, .inl (cI, 12, .inl va)), (b 24, .inl (cI, 10, .inl lo)), (b 46, .inl (cI, 7, .inl od)), (b 47, .inl (cI, 12, .inl g6))]) (fun (u : (Nat) × (Int32) × (Nat) × (Int32) × (Nat → Int32)) => match u with | (n6, y6, o6, s6, g6) => [(0, .ref (b 0)), (1, .int p0), (2, .int (nI o6)), (3, .int s6), (4, .int (nI dy)), (5, .int y6), (6, .int (nI n6))]) (fun (u : (Nat) × (Int32) × (Nat) × (Int32) × (Nat → Int32)) => match u with | (n6, y6, o6, s6, g6) => n6 ≤ wt ∧ (0 ≤ y6.toInt ∧ y6.toInt ≤ 99) ∧ zz_lo g6 od wt o6 ∧ zz_tl (zz_cv g6 od) wt ≤ zz_tl (zz_cv g5 od) wt ∧ zz_pr g6 g5 od re wt dy n6 y6 p0 ∧ zz_ri2 lo va re nee od g6 g5 mc p0.toInt.toNat wt (dy - mc) n6 y6 s6) (fun (u : (Nat) × (Int32) × (Nat) × (Int32) × (Nat → Int32)) => match u with | (n6, y6, o6, s6, g6) => wt - n6) (fun u hI H locs ls hP hD hS hl ih_65 => ?_) (0, p0, o5, s5, g5) ⟨by omega, by omega, il5, by omega, Or.inr ⟨rfl, rfl, fun k hk => absurd hk (by omega)⟩, zz_rs_in ir5 rfl⟩ _ _ _ (hP.sub [0, 1, 2, 3, 4, 5, 6] rfl) (hD.sub [0, 1, 2, 3, 4, 5, 6] (by decide) rfl) hS (lv_sub hl [2, 3, 4, 5, 6, 1, 0] rfl)
      obtain ⟨n6, y6, o6, s6, g6⟩ := u
      obtain ⟨hP, hD⟩ := zz_ty (D := (dC, dI)) (cl := vwCl) (A := A) (H := H) [(b 0, .inr (8, [.ref (b 1), .int (nI mt), .int (gg 2), .int (gg 3), .int (gg 4), .int (gg 5), .int (gg 6), .int (gg 7), .int (gg 8), .int (gg 9), .ref (b 11), .ref (b 12), .ref (b 13), .int (nI mc), .int (nI mh), .ref (b 16), .ref (b 17), .ref (b 18), .ref (b 19), .ref (b 20), .ref (b 21), .ref (b 22), .ref (b 23), .ref (b 24), .int (nI mf), .ref (b 26), .ref (b 27), .ref (b 28), .ref (b 29), .ref (b 30), .ref (b 31), .ref (b 32), .int (gg 32), .int (nI md), .ref (b 35), .ref (b 36), .ref (b 37), .ref (b 38), .ref (b 39), .ref (b 40), .int (gg 40), .ref (b 42), .ref (b 43), .ref (b 44), .int (nI wt), .ref (b 46), .ref (b 47), .int pz, .ref (b 49)])), (b 28, .inl (cI, 12, .inl nee)), (b 29, .inl (cI, 12, .inl re)), (b 30, .inl (cI, 12, .inl va)), (b 24, .inl (cI, 10, .inl lo)), (b 46, .inl (cI, 7, .inl od)), (b 47, .inl (cI, 12, .inl g6))] hP hD rfl
      have hl : lv_has ls 9 [(0, .ref (b 0)), (1, .int p0), (2, .int (nI o6)), (3, .int s6), (4, .int (nI dy)), (5, .int y6), (6, .int (nI n6))] := hl
      have hI : n6 ≤ wt ∧ (0 ≤ y6.toInt ∧ y6.toInt ≤ 99) ∧ zz_lo g6 od wt o6 ∧ zz_tl (zz_cv g6 od) wt ≤ zz_tl (zz_cv g5 od) wt ∧ zz_pr g6 g5 od re wt dy n6 y6 p0 ∧ zz_ri2 lo va re nee od g6 g5 mc p0.toInt.toNat wt (dy - mc) n6 y6 s6 := hI
      obtain ⟨in6, iy6, il6, it6, ip6, ir6⟩ := hI
      refine lv_iload hx hb dX8_lost_65 (lv_at hl 6 rfl) ?_
      refine lv_aload_n hx hb dX8_lost_67 rfl (lv_at hl 0 rfl) ?_
      refine va_get (D := (dC, dI)) (ci := 8) (v := .int (nI wt)) (C := RX8) (T := TX8) (N := 49) hx hb hw zz_inX8 hown hK hP 0 rfl rfl 44 (by decide) (hw _ tw_445) (fun _ h9 => h9) rfl dX8_lost_68 ?_
      refine lv_icmp_ge (tgt := 191) hx hb dX8_lost_71 (by decide) (fun c_3 => ?_) (fun c_3 => ?_)
      · have zc_3 := c_3
        rw [Int32.le_iff_toInt_le] at zc_3
        try rw [zz_toInt n6 (by omega)] at zc_3
        try rw [zz_toInt wt (by omega)] at zc_3
        have hfin : 400 ≤ dy → zz_tl (zz_cv g6 od) wt < zz_tl (zz_cv g5 od) wt := fun h9 => zz_pr_end (by rw [show n6 = wt from by omega] at ip6; exact ip6) il5 (by omega) h9 (fun k hk => by obtain ⟨qk, hqk, hqk2, eqk⟩ := hor.1 k hk; rw [zz_cv_at hqk2 eqk]; exact (hrr qk hqk.1).2)
        refine lv_iinc (v := (nI (dy + 1))) (lv' := [(4, .int (nI (dy + 1))), (0, .ref (b 0)), (1, .int p0), (2, .int (nI o6)), (3, .int s6), (5, .int y6), (6, .int (nI n6))]) hx hb dX8_lost_191 hl (k := 4) rfl (nI_1 _) (by decide) rfl (fun ls hl => ?_)
        refine lv_goto (tgt := 55) hx hb dX8_lost_194 (by decide) ?_
        exact ih_55 (o6, s6, (dy + 1), g6) ⟨il6, by omega, by omega, by omega, (by rw [show dy + 1 - mc = dy - mc + 1 by omega]; exact zz_rs_out hor ir5 ir6 (by omega))⟩ (show (400 - (dy + 1)) + zz_tl (zz_cv g6 od) wt < (400 - dy) + zz_tl (zz_cv g5 od) wt from by omega) _ _ _ (hP.sub [0, 1, 2, 3, 4, 5, 6] rfl) (hD.sub [0, 1, 2, 3, 4, 5, 6] (by decide) rfl) hS (lv_sub hl [1, 2, 3, 4, 0] rfl)
      · have zc_3 := c_3
        rw [Int32.le_iff_toInt_le] at zc_3
        try rw [zz_toInt n6 (by omega)] at zc_3
        try rw [zz_toInt wt (by omega)] at zc_3
        refine lv_aload_n hx hb dX8_lost_74 rfl (lv_at hl 0 rfl) ?_
        refine va_get (D := (dC, dI)) (ci := 8) (v := .ref (b 46)) (C := RX8) (T := TX8) (N := 49) hx hb hw zz_inX8 hown hK hP 0 rfl rfl 45 (by decide) (hw _ tw_444) (fun _ h9 => h9) rfl dX8_lost_75 ?_
        refine lv_iload hx hb dX8_lost_78 (lv_at hl 6 rfl) ?_
        refine va_iald hx hb hK hP 5 0 rfl rfl (vp_in_iff.mpr (by rw [zz_toInt n6 (by omega)]; constructor <;> omega)) dX8_lost_80 ?_
        refine zz_seti (od n6) (congrArg od (zz_cl (by omega))) ?_
        obtain ⟨qf, hqf, hqf2, eqf⟩ := hor.1 n6 (by omega)
        refine zz_seti (nI qf) eqf ?_
        have zrq := hrr qf hqf.1
        have zlk := il6.1 n6 (by omega)
        rw [zz_cv_at hqf2 eqf] at zlk
        refine lv_istore (lv' := [(7, .int (nI qf)), (0, .ref (b 0)), (1, .int p0), (2, .int (nI o6)), (3, .int s6), (4, .int (nI dy)), (5, .int y6), (6, .int (nI n6))]) hx hb dX8_lost_81 hl (by decide) rfl (fun ls hl => ?_)
        refine lv_aload_n hx hb dX8_lost_83 rfl (lv_at hl 1 rfl) ?_
        refine va_get (D := (dC, dI)) (ci := 8) (v := .ref (b 47)) (C := RX8) (T := TX8) (N := 49) hx hb hw zz_inX8 hown hK hP 0 rfl rfl 46 (by decide) (hw _ tw_450) (fun _ h9 => h9) rfl dX8_lost_84 ?_
        refine lv_iload hx hb dX8_lost_87 (lv_at hl 0 rfl) ?_
        refine va_iald hx hb hK hP 6 0 rfl rfl (vp_in_iff.mpr (by rw [zz_toInt qf (by omega)]; constructor <;> omega)) dX8_lost_89 ?_
        refine zz_seti (g6 qf) (congrArg g6 (zz_cl (by omega))) ?_
        refine lv_if_eq (tgt := 185) hx hb dX8_lost_90 (by decide) (fun c_4 => ?_) (fun c_4 => ?_)
        · have zc_4 := c_4
          rw [← Int32.toInt_inj] at zc_4
          try rw [show (0 : Int32).toInt = 0 from by decide] at zc_4
          refine lv_iinc (v := (nI (n6 + 1))) (lv' := [(6, .int (nI (n6 + 1))), (7, .int (nI qf)), (0, .ref (b 0)), (1, .int p0), (2, .int (nI o6)), (3, .int s6), (4, .int (nI dy)), (5, .int y6)]) hx hb dX8_lost_185 hl (k := 7) rfl (nI_1 _) (by decide) rfl (fun ls hl => ?_)
          refine lv_goto (tgt := 65) hx hb dX8_lost_188 (by decide) ?_
          exact ih_65 ((n6 + 1), y6, o6, s6, g6) ⟨by omega, by omega, il6, by omega, zz_pr_no ip6 hqf2 eqf (Or.inl c_4), zz_ri_no ir5 ir6 (by omega) hqf2 eqf zrq.1 (Or.inl c_4)⟩ (show wt - (n6 + 1) < wt - n6 from by omega) _ _ _ (hP.sub [0, 1, 2, 3, 4, 5, 6] rfl) (hD.sub [0, 1, 2, 3, 4, 5, 6] (by decide) rfl) hS (lv_sub hl [2, 3, 4, 5, 6, 7, 0] rfl)
        · have zc_4 := c_4
          rw [← Int32.toInt_inj] at zc_4
          try rw [show (0 : Int32).toInt = 0 from by decide] at zc_4
          refine lv_aload_n hx hb dX8_lost_93 rfl (lv_at hl 1 rfl) ?_
          refine va_get (D := (dC, dI)) (ci := 8) (v := .ref (b 29)) (C := RX8) (T := TX8) (N := 49) hx hb hw zz_inX8 hown hK hP 0 rfl rfl 28 (by decide) (hw _ tw_223) (fun _ h9 => h9) rfl dX8_lost_94 ?_
          refine lv_iload hx hb dX8_lost_97 (lv_at hl 0 rfl) ?_
          refine va_iald hx hb hK hP 2 0 rfl rfl (vp_in_iff.mpr (by rw [zz_toInt qf (by omega)]; constructor <;> omega)) dX8_lost_99 ?_
          refine zz_seti (re qf) (congrArg re (zz_cl (by omega))) ?_
          refine lv_iload hx hb dX8_lost_100 (lv_at hl 5 rfl) ?_
          refine lv_icmp_le (tgt := 108) hx hb dX8_lost_102 (by decide) (fun c_5 => ?_) (fun c_5 => ?_)
          · have zc_5 := c_5
            rw [Int32.le_iff_toInt_le] at zc_5
            try rw [zz_toInt dy (by omega)] at zc_5
            refine lv_aload_n hx hb dX8_lost_108 rfl (lv_at hl 1 rfl) ?_
            refine va_get (D := (dC, dI)) (ci := 8) (v := .ref (b 47)) (C := RX8) (T := TX8) (N := 49) hx hb hw zz_inX8 hown hK hP 0 rfl rfl 46 (by decide) (hw _ tw_450) (fun _ h9 => h9) rfl dX8_lost_109 ?_
            refine lv_iload hx hb dX8_lost_112 (lv_at hl 0 rfl) ?_
            refine va_iald hx hb hK hP 6 0 rfl rfl (vp_in_iff.mpr (by rw [zz_toInt qf (by omega)]; constructor <;> omega)) dX8_lost_114 ?_
            refine zz_seti (g6 qf) (congrArg g6 (zz_cl (by omega))) ?_
            refine lv_iload hx hb dX8_lost_115 (lv_at hl 6 rfl) ?_
            refine lv_icmp_ge (tgt := 130) hx hb dX8_lost_117 (by decide) (fun c_6 => ?_) (fun c_6 => ?_)
            · have zc_6 := c_6
              rw [Int32.le_iff_toInt_le] at zc_6
              refine lv_iload hx hb dX8_lost_130 (lv_at hl 6 rfl) ?_
              refine lv_istore (lv' := [(8, .int y6), (7, .int (nI qf)), (0, .ref (b 0)), (1, .int p0), (2, .int (nI o6)), (3, .int s6), (4, .int (nI dy)), (5, .int y6), (6, .int (nI n6))]) hx hb dX8_lost_132 hl (by decide) rfl (fun ls hl => ?_)
              refine lv_aload_n hx hb dX8_lost_134 rfl (lv_at hl 2 rfl) ?_
              refine va_get (D := (dC, dI)) (ci := 8) (v := .ref (b 47)) (C := RX8) (T := TX8) (N := 49) hx hb hw zz_inX8 hown hK hP 0 rfl rfl 46 (by decide) (hw _ tw_450) (fun _ h9 => h9) rfl dX8_lost_135 ?_
              refine lv_iload hx hb dX8_lost_138 (lv_at hl 1 rfl) ?_
              refine lv_dup2_11 hx hb dX8_lost_140 rfl rfl ?_
              refine va_iald hx hb hK hP 6 0 rfl rfl (vp_in_iff.mpr (by rw [zz_toInt qf (by omega)]; constructor <;> omega)) dX8_lost_141 ?_
              refine zz_seti (g6 qf) (congrArg g6 (zz_cl (by omega))) ?_
              refine lv_iload hx hb dX8_lost_142 (lv_at hl 0 rfl) ?_
              refine lv_isub hx hb dX8_lost_144 ?_
              refine va_iast hx hb hK hP hD hS 6 0 rfl rfl (vp_in_iff.mpr (by rw [zz_toInt qf (by omega)]; constructor <;> omega)) dX8_lost_145 (fun H locs hP hD hS => ?_)
              obtain ⟨hP, hD⟩ := zz_ty (D := (dC, dI)) (cl := vwCl) (A := A) (H := H) [(b 0, .inr (8, [.ref (b 1), .int (nI mt), .int (gg 2), .int (gg 3), .int (gg 4), .int (gg 5), .int (gg 6), .int (gg 7), .int (gg 8), .int (gg 9), .ref (b 11), .ref (b 12), .ref (b 13), .int (nI mc), .int (nI mh), .ref (b 16), .ref (b 17), .ref (b 18), .ref (b 19), .ref (b 20), .ref (b 21), .ref (b 22), .ref (b 23), .ref (b 24), .int (nI mf), .ref (b 26), .ref (b 27), .ref (b 28), .ref (b 29), .ref (b 30), .ref (b 31), .ref (b 32), .int (gg 32), .int (nI md), .ref (b 35), .ref (b 36), .ref (b 37), .ref (b 38), .ref (b 39), .ref (b 40), .int (gg 40), .ref (b 42), .ref (b 43), .ref (b 44), .int (nI wt), .ref (b 46), .ref (b 47), .int pz, .ref (b 49)])), (b 28, .inl (cI, 12, .inl nee)), (b 29, .inl (cI, 12, .inl re)), (b 30, .inl (cI, 12, .inl va)), (b 24, .inl (cI, 10, .inl lo)), (b 46, .inl (cI, 7, .inl od)), (b 47, .inl (cI, 12, .inl (upd g6 (Int32.toNatClampNeg (nI qf)) ((g6 qf) - y6))))] hP hD rfl
              have hst := zz_lo_step (x := y6) hor il6 (show n6 < wt by omega) hqf2 eqf c_4 (by omega)
              obtain ⟨g7, eg7⟩ : ∃ z : Nat → Int32, z = (upd g6 (Int32.toNatClampNeg (nI qf)) ((g6 qf) - y6)) := ⟨_, rfl⟩
              have hP : va_P (dC, dI) vwCl [(b 0, .inr (8, [.ref (b 1), .int (nI mt), .int (gg 2), .int (gg 3), .int (gg 4), .int (gg 5), .int (gg 6), .int (gg 7), .int (gg 8), .int (gg 9), .ref (b 11), .ref (b 12), .ref (b 13), .int (nI mc), .int (nI mh), .ref (b 16), .ref (b 17), .ref (b 18), .ref (b 19), .ref (b 20), .ref (b 21), .ref (b 22), .ref (b 23), .ref (b 24), .int (nI mf), .ref (b 26), .ref (b 27), .ref (b 28), .ref (b 29), .ref (b 30), .ref (b 31), .ref (b 32), .int (gg 32), .int (nI md), .ref (b 35), .ref (b 36), .ref (b 37), .ref (b 38), .ref (b 39), .ref (b 40), .int (gg 40), .ref (b 42), .ref (b 43), .ref (b 44), .int (nI wt), .ref (b 46), .ref (b 47), .int pz, .ref (b 49)])), (b 28, .inl (cI, 12, .inl nee)), (b 29, .inl (cI, 12, .inl re)), (b 30, .inl (cI, 12, .inl va)), (b 24, .inl (cI, 10, .inl lo)), (b 46, .inl (cI, 7, .inl od)), (b 47, .inl (cI, 12, .inl g7))] H := by rw [eg7]; exact hP
              have hD : va_D A [(b 0, .inr (8, [.ref (b 1), .int (nI mt), .int (gg 2), .int (gg 3), .int (gg 4), .int (gg 5), .int (gg 6), .int (gg 7), .int (gg 8), .int (gg 9), .ref (b 11), .ref (b 12), .ref (b 13), .int (nI mc), .int (nI mh), .ref (b 16), .ref (b 17), .ref (b 18), .ref (b 19), .ref (b 20), .ref (b 21), .ref (b 22), .ref (b 23), .ref (b 24), .int (nI mf), .ref (b 26), .ref (b 27), .ref (b 28), .ref (b 29), .ref (b 30), .ref (b 31), .ref (b 32), .int (gg 32), .int (nI md), .ref (b 35), .ref (b 36), .ref (b 37), .ref (b 38), .ref (b 39), .ref (b 40), .int (gg 40), .ref (b 42), .ref (b 43), .ref (b 44), .int (nI wt), .ref (b 46), .ref (b 47), .int pz, .ref (b 49)])), (b 28, .inl (cI, 12, .inl nee)), (b 29, .inl (cI, 12, .inl re)), (b 30, .inl (cI, 12, .inl va)), (b 24, .inl (cI, 10, .inl lo)), (b 46, .inl (cI, 7, .inl od)), (b 47, .inl (cI, 12, .inl g7))] := by rw [eg7]; exact hD
              rw [← eg7] at hst
              obtain ⟨ht7, ho7, hz7, hn7⟩ := hst
              have e7 : g7 qf = g6 qf - y6 := by rw [eg7, zz_cl (by omega)]; exact zz_up_s
              refine lv_iload hx hb dX8_lost_146 (lv_at hl 7 rfl) ?_
              refine lv_iload hx hb dX8_lost_148 (lv_at hl 0 rfl) ?_
              refine lv_isub hx hb dX8_lost_150 ?_
              refine lv_istore (lv' := [(5, .int (y6 - y6)), (8, .int y6), (7, .int (nI qf)), (0, .ref (b 0)), (1, .int p0), (2, .int (nI o6)), (3, .int s6), (4, .int (nI dy)), (6, .int (nI n6))]) hx hb dX8_lost_151 hl (by decide) rfl (fun ls hl => ?_)
              refine lv_aload_n hx hb dX8_lost_153 rfl (lv_at hl 3 rfl) ?_
              refine va_get (D := (dC, dI)) (ci := 8) (v := .ref (b 47)) (C := RX8) (T := TX8) (N := 49) hx hb hw zz_inX8 hown hK hP 0 rfl rfl 46 (by decide) (hw _ tw_450) (fun _ h9 => h9) rfl dX8_lost_154 ?_
              refine lv_iload hx hb dX8_lost_157 (lv_at hl 2 rfl) ?_
              refine va_iald hx hb hK hP 6 0 rfl rfl (vp_in_iff.mpr (by rw [zz_toInt qf (by omega)]; constructor <;> omega)) dX8_lost_159 ?_
              refine zz_seti (g7 qf) (congrArg g7 (zz_cl (by omega))) ?_
              refine lv_if_ne (tgt := 185) hx hb dX8_lost_160 (by decide) (fun c_7 => ?_) (fun c_7 => ?_)
              · have zc_7 := c_7
                rw [← Int32.toInt_inj] at zc_7
                try rw [show (0 : Int32).toInt = 0 from by decide] at zc_7
                refine lv_iinc (v := (nI (n6 + 1))) (lv' := [(6, .int (nI (n6 + 1))), (5, .int (y6 - y6)), (8, .int y6), (7, .int (nI qf)), (0, .ref (b 0)), (1, .int p0), (2, .int (nI o6)), (3, .int s6), (4, .int (nI dy))]) hx hb dX8_lost_185 hl (k := 8) rfl (nI_1 _) (by decide) rfl (fun ls hl => ?_)
                refine lv_goto (tgt := 65) hx hb dX8_lost_188 (by decide) ?_
                exact ih_65 ((n6 + 1), (y6 - y6), o6, s6, g7) ⟨by omega, (by rw [zz_subI (by omega) (by omega)]; omega), hn7 c_7, by omega, zz_pr_go ip6 (by omega) (by omega) (by omega), (by rw [eg7]; exact zz_ri_go (mf := mf) (dy := dy) hor (fun q9 h9 => h9.1) hwt hlr hrv ir5 ir6 (by omega) hqf2 eqf ⟨zrq.1, by omega⟩ ⟨by omega, zlk.2⟩ iy6 ((if_neg (Int32.not_lt.mpr c_6)).symm) (by rw [if_neg (fun h9 => c_7 (e7.trans h9))]) (by omega))⟩ (show wt - (n6 + 1) < wt - n6 from by omega) _ _ _ (hP.sub [0, 1, 2, 3, 4, 5, 6] rfl) (hD.sub [0, 1, 2, 3, 4, 5, 6] (by decide) rfl) hS (lv_sub hl [4, 5, 6, 7, 8, 1, 0] rfl)
              · have zc_7 := c_7
                rw [← Int32.toInt_inj] at zc_7
                try rw [show (0 : Int32).toInt = 0 from by decide] at zc_7
                refine lv_iinc (v := (nI (o6 - 1))) (lv' := [(2, .int (nI (o6 - 1))), (5, .int (y6 - y6)), (8, .int y6), (7, .int (nI qf)), (0, .ref (b 0)), (1, .int p0), (3, .int s6), (4, .int (nI dy)), (6, .int (nI n6))]) hx hb dX8_lost_163 hl (k := 5) rfl (zz_predI (by omega)) (by decide) rfl (fun ls hl => ?_)
                refine lv_iload_n hx hb dX8_lost_166 rfl (lv_at hl 6 rfl) ?_
                refine lv_aload_n hx hb dX8_lost_167 rfl (lv_at hl 4 rfl) ?_
                refine va_get (D := (dC, dI)) (ci := 8) (v := .ref (b 30)) (C := RX8) (T := TX8) (N := 49) hx hb hw zz_inX8 hown hK hP 0 rfl rfl 29 (by decide) (hw _ tw_224) (fun _ h9 => h9) rfl dX8_lost_168 ?_
                refine lv_iload hx hb dX8_lost_171 (lv_at hl 3 rfl) ?_
                refine va_iald hx hb hK hP 3 0 rfl rfl (vp_in_iff.mpr (by rw [zz_toInt qf (by omega)]; constructor <;> omega)) dX8_lost_173 ?_
                refine zz_seti (va qf) (congrArg va (zz_cl (by omega))) ?_
                refine lv_aload_n hx hb dX8_lost_174 rfl (lv_at hl 4 rfl) ?_
                refine lv_iload hx hb dX8_lost_175 (lv_at hl 3 rfl) ?_
                refine lv_iload hx hb dX8_lost_177 (lv_at hl 7 rfl) ?_
                obtain ⟨hPc, hDc⟩ := zz_sub2 (ws' := [(b 0, .inr (8, [.ref (b 1), .int (nI mt), .int (gg 2), .int (gg 3), .int (gg 4), .int (gg 5), .int (gg 6), .int (gg 7), .int (gg 8), .int (gg 9), .ref (b 11), .ref (b 12), .ref (b 13), .int (nI mc), .int (nI mh), .ref (b 16), .ref (b 17), .ref (b 18), .ref (b 19), .ref (b 20), .ref (b 21), .ref (b 22), .ref (b 23), .ref (b 24), .int (nI mf), .ref (b 26), .ref (b 27), .ref (b 28), .ref (b 29), .ref (b 30), .ref (b 31), .ref (b 32), .int (gg 32), .int (nI md), .ref (b 35), .ref (b 36), .ref (b 37), .ref (b 38), .ref (b 39), .ref (b 40), .int (gg 40), .ref (b 42), .ref (b 43), .ref (b 44), .int (nI wt), .ref (b 46), .ref (b 47), .int pz, .ref (b 49)])), (b 29, .inl (cI, 12, .inl re)), (b 24, .inl (cI, 10, .inl lo)), (b 30, .inl (cI, 12, .inl va))]) hP hD [0, 2, 4, 3] (by decide) rfl
                have hKc := hK.sub (tys' := [(cI, .int)]) [0] rfl
                have hFc := zz_free0 hS hA
                refine va_calli (va_runV (As := [.int (nI qf), .int (nI dy)]) (rest := [.int (va qf), .int s6]) ⟨hx, hb, hml, hown, hw⟩ (mx_proceedsW l dC dI b gg mt mc mh mf md wt pz cI re lo va (nI qf) (nI dy) H.size (by rw [zz_toInt qf (by omega)]; omega) (by rw [zz_cl (by omega), zz_toInt dy (by omega)]; omega)) ⟨callB_of 2 hw (zz_good tw_236) rfl rfl rfl (hw _ tw_184) (hw _ tw_237) (by decide +kernel) ⟨Nat.le_of_ble_eq_true rfl, Nat.le_of_ble_eq_true rfl⟩, (hw _ tw_238), (hw _ tw_239)⟩ ⟨zz_blind, va_recv hKc hPc (ci := 8) (q0 := 0) rfl rfl, zz_pre hPc hKc hDc hN⟩ rfl rfl hl.1 rfl (lv_room (Nat.le_of_ble_eq_true rfl)) dX8_lost_179 ⟨Nat.le_of_ble_eq_true rfl, Nat.le_of_ble_eq_true rfl⟩) hS (fun q _ h => hFc q h) hFc (fun r_8 u_8 t H1 locs ht hvm e_8 hB hz1 hk1 hS => ?_)
                try dsimp only at e_8
                have hP := zz_keep hP hk1
                clear hk1 hB ht hvm
                generalize H1 = H at hP hS ⊢
                refine zz_seti (zz_pc lo (va (Int32.toNatClampNeg (nI qf))) ((nI dy) - (re (Int32.toNatClampNeg (nI qf))))) e_8 ?_
                refine lv_isub hx hb dX8_lost_182 ?_
                refine lv_iadd hx hb dX8_lost_183 ?_
                refine lv_istore_n (lv' := [(3, .int (s6 + ((va qf) - (zz_pc lo (va (Int32.toNatClampNeg (nI qf))) ((nI dy) - (re (Int32.toNatClampNeg (nI qf)))))))), (2, .int (nI (o6 - 1))), (5, .int (y6 - y6)), (8, .int y6), (7, .int (nI qf)), (0, .ref (b 0)), (1, .int p0), (4, .int (nI dy)), (6, .int (nI n6))]) hx hb dX8_lost_184 rfl hl (by decide) rfl (fun ls hl => ?_)
                refine lv_iinc (v := (nI (n6 + 1))) (lv' := [(6, .int (nI (n6 + 1))), (3, .int (s6 + ((va qf) - (zz_pc lo (va (Int32.toNatClampNeg (nI qf))) ((nI dy) - (re (Int32.toNatClampNeg (nI qf)))))))), (2, .int (nI (o6 - 1))), (5, .int (y6 - y6)), (8, .int y6), (7, .int (nI qf)), (0, .ref (b 0)), (1, .int p0), (4, .int (nI dy))]) hx hb dX8_lost_185 hl (k := 8) rfl (nI_1 _) (by decide) rfl (fun ls hl => ?_)
                refine lv_goto (tgt := 65) hx hb dX8_lost_188 (by decide) ?_
                exact ih_65 ((n6 + 1), (y6 - y6), (o6 - 1), (s6 + ((va qf) - (zz_pc lo (va (Int32.toNatClampNeg (nI qf))) ((nI dy) - (re (Int32.toNatClampNeg (nI qf))))))), g7) ⟨by omega, (by rw [zz_subI (by omega) (by omega)]; omega), hz7 c_7, by omega, zz_pr_go ip6 (by omega) (by omega) (by omega), (by rw [eg7]; exact zz_ri_go (mf := mf) (dy := dy) hor (fun q9 h9 => h9.1) hwt hlr hrv ir5 ir6 (by omega) hqf2 eqf ⟨zrq.1, by omega⟩ ⟨by omega, zlk.2⟩ iy6 ((if_neg (Int32.not_lt.mpr c_6)).symm) (by rw [if_pos (e7.symm.trans c_7), zz_cl (j := qf) (by omega)]) (by omega))⟩ (show wt - (n6 + 1) < wt - n6 from by omega) _ _ _ (hP.sub [0, 1, 2, 3, 4, 5, 6] rfl) (hD.sub [0, 1, 2, 3, 4, 5, 6] (by decide) rfl) hS (lv_sub hl [6, 7, 2, 1, 8, 3, 0] rfl)
            · have zc_6 := c_6
              rw [Int32.le_iff_toInt_le] at zc_6
              refine lv_aload_n hx hb dX8_lost_120 rfl (lv_at hl 1 rfl) ?_
              refine va_get (D := (dC, dI)) (ci := 8) (v := .ref (b 47)) (C := RX8) (T := TX8) (N := 49) hx hb hw zz_inX8 hown hK hP 0 rfl rfl 46 (by decide) (hw _ tw_450) (fun _ h9 => h9) rfl dX8_lost_121 ?_
              refine lv_iload hx hb dX8_lost_124 (lv_at hl 0 rfl) ?_
              refine va_iald hx hb hK hP 6 0 rfl rfl (vp_in_iff.mpr (by rw [zz_toInt qf (by omega)]; constructor <;> omega)) dX8_lost_126 ?_
              refine zz_seti (g6 qf) (congrArg g6 (zz_cl (by omega))) ?_
              refine lv_goto (tgt := 132) hx hb dX8_lost_127 (by decide) ?_
              refine lv_istore (lv' := [(8, .int (g6 qf)), (7, .int (nI qf)), (0, .ref (b 0)), (1, .int p0), (2, .int (nI o6)), (3, .int s6), (4, .int (nI dy)), (5, .int y6), (6, .int (nI n6))]) hx hb dX8_lost_132 hl (by decide) rfl (fun ls hl => ?_)
              refine lv_aload_n hx hb dX8_lost_134 rfl (lv_at hl 2 rfl) ?_
              refine va_get (D := (dC, dI)) (ci := 8) (v := .ref (b 47)) (C := RX8) (T := TX8) (N := 49) hx hb hw zz_inX8 hown hK hP 0 rfl rfl 46 (by decide) (hw _ tw_450) (fun _ h9 => h9) rfl dX8_lost_135 ?_
              refine lv_iload hx hb dX8_lost_138 (lv_at hl 1 rfl) ?_
              refine lv_dup2_11 hx hb dX8_lost_140 rfl rfl ?_
              refine va_iald hx hb hK hP 6 0 rfl rfl (vp_in_iff.mpr (by rw [zz_toInt qf (by omega)]; constructor <;> omega)) dX8_lost_141 ?_
              refine zz_seti (g6 qf) (congrArg g6 (zz_cl (by omega))) ?_
              refine lv_iload hx hb dX8_lost_142 (lv_at hl 0 rfl) ?_
              refine lv_isub hx hb dX8_lost_144 ?_
              refine va_iast hx hb hK hP hD hS 6 0 rfl rfl (vp_in_iff.mpr (by rw [zz_toInt qf (by omega)]; constructor <;> omega)) dX8_lost_145 (fun H locs hP hD hS => ?_)
              obtain ⟨hP, hD⟩ := zz_ty (D := (dC, dI)) (cl := vwCl) (A := A) (H := H) [(b 0, .inr (8, [.ref (b 1), .int (nI mt), .int (gg 2), .int (gg 3), .int (gg 4), .int (gg 5), .int (gg 6), .int (gg 7), .int (gg 8), .int (gg 9), .ref (b 11), .ref (b 12), .ref (b 13), .int (nI mc), .int (nI mh), .ref (b 16), .ref (b 17), .ref (b 18), .ref (b 19), .ref (b 20), .ref (b 21), .ref (b 22), .ref (b 23), .ref (b 24), .int (nI mf), .ref (b 26), .ref (b 27), .ref (b 28), .ref (b 29), .ref (b 30), .ref (b 31), .ref (b 32), .int (gg 32), .int (nI md), .ref (b 35), .ref (b 36), .ref (b 37), .ref (b 38), .ref (b 39), .ref (b 40), .int (gg 40), .ref (b 42), .ref (b 43), .ref (b 44), .int (nI wt), .ref (b 46), .ref (b 47), .int pz, .ref (b 49)])), (b 28, .inl (cI, 12, .inl nee)), (b 29, .inl (cI, 12, .inl re)), (b 30, .inl (cI, 12, .inl va)), (b 24, .inl (cI, 10, .inl lo)), (b 46, .inl (cI, 7, .inl od)), (b 47, .inl (cI, 12, .inl (upd g6 (Int32.toNatClampNeg (nI qf)) ((g6 qf) - (g6 qf)))))] hP hD rfl
              have hst := zz_lo_step (x := (g6 qf)) hor il6 (show n6 < wt by omega) hqf2 eqf c_4 (by omega)
              obtain ⟨g7, eg7⟩ : ∃ z : Nat → Int32, z = (upd g6 (Int32.toNatClampNeg (nI qf)) ((g6 qf) - (g6 qf))) := ⟨_, rfl⟩
              have hP : va_P (dC, dI) vwCl [(b 0, .inr (8, [.ref (b 1), .int (nI mt), .int (gg 2), .int (gg 3), .int (gg 4), .int (gg 5), .int (gg 6), .int (gg 7), .int (gg 8), .int (gg 9), .ref (b 11), .ref (b 12), .ref (b 13), .int (nI mc), .int (nI mh), .ref (b 16), .ref (b 17), .ref (b 18), .ref (b 19), .ref (b 20), .ref (b 21), .ref (b 22), .ref (b 23), .ref (b 24), .int (nI mf), .ref (b 26), .ref (b 27), .ref (b 28), .ref (b 29), .ref (b 30), .ref (b 31), .ref (b 32), .int (gg 32), .int (nI md), .ref (b 35), .ref (b 36), .ref (b 37), .ref (b 38), .ref (b 39), .ref (b 40), .int (gg 40), .ref (b 42), .ref (b 43), .ref (b 44), .int (nI wt), .ref (b 46), .ref (b 47), .int pz, .ref (b 49)])), (b 28, .inl (cI, 12, .inl nee)), (b 29, .inl (cI, 12, .inl re)), (b 30, .inl (cI, 12, .inl va)), (b 24, .inl (cI, 10, .inl lo)), (b 46, .inl (cI, 7, .inl od)), (b 47, .inl (cI, 12, .inl g7))] H := by rw [eg7]; exact hP
              have hD : va_D A [(b 0, .inr (8, [.ref (b 1), .int (nI mt), .int (gg 2), .int (gg 3), .int (gg 4), .int (gg 5), .int (gg 6), .int (gg 7), .int (gg 8), .int (gg 9), .ref (b 11), .ref (b 12), .ref (b 13), .int (nI mc), .int (nI mh), .ref (b 16), .ref (b 17), .ref (b 18), .ref (b 19), .ref (b 20), .ref (b 21), .ref (b 22), .ref (b 23), .ref (b 24), .int (nI mf), .ref (b 26), .ref (b 27), .ref (b 28), .ref (b 29), .ref (b 30), .ref (b 31), .ref (b 32), .int (gg 32), .int (nI md), .ref (b 35), .ref (b 36), .ref (b 37), .ref (b 38), .ref (b 39), .ref (b 40), .int (gg 40), .ref (b 42), .ref (b 43), .ref (b 44), .int (nI wt), .ref (b 46), .ref (b 47), .int pz, .ref (b 49)])), (b 28, .inl (cI, 12, .inl nee)), (b 29, .inl (cI, 12, .inl re)), (b 30, .inl (cI, 12, .inl va)), (b 24, .inl (cI, 10, .inl lo)), (b 46, .inl (cI, 7, .inl od)), (b 47, .inl (cI, 12, .inl g7))] := by rw [eg7]; exact hD
              rw [← eg7] at hst
              obtain ⟨ht7, ho7, hz7, hn7⟩ := hst
              have e7 : g7 qf = g6 qf - (g6 qf) := by rw [eg7, zz_cl (by omega)]; exact zz_up_s
              refine lv_iload hx hb dX8_lost_146 (lv_at hl 7 rfl) ?_
              refine lv_iload hx hb dX8_lost_148 (lv_at hl 0 rfl) ?_
              refine lv_isub hx hb dX8_lost_150 ?_
              refine lv_istore (lv' := [(5, .int (y6 - (g6 qf))), (8, .int (g6 qf)), (7, .int (nI qf)), (0, .ref (b 0)), (1, .int p0), (2, .int (nI o6)), (3, .int s6), (4, .int (nI dy)), (6, .int (nI n6))]) hx hb dX8_lost_151 hl (by decide) rfl (fun ls hl => ?_)
              refine lv_aload_n hx hb dX8_lost_153 rfl (lv_at hl 3 rfl) ?_
              refine va_get (D := (dC, dI)) (ci := 8) (v := .ref (b 47)) (C := RX8) (T := TX8) (N := 49) hx hb hw zz_inX8 hown hK hP 0 rfl rfl 46 (by decide) (hw _ tw_450) (fun _ h9 => h9) rfl dX8_lost_154 ?_
              refine lv_iload hx hb dX8_lost_157 (lv_at hl 2 rfl) ?_
              refine va_iald hx hb hK hP 6 0 rfl rfl (vp_in_iff.mpr (by rw [zz_toInt qf (by omega)]; constructor <;> omega)) dX8_lost_159 ?_
              refine zz_seti (g7 qf) (congrArg g7 (zz_cl (by omega))) ?_
              refine lv_if_ne (tgt := 185) hx hb dX8_lost_160 (by decide) (fun c_9 => ?_) (fun c_9 => ?_)
              · have zc_9 := c_9
                rw [← Int32.toInt_inj] at zc_9
                try rw [show (0 : Int32).toInt = 0 from by decide] at zc_9
                refine lv_iinc (v := (nI (n6 + 1))) (lv' := [(6, .int (nI (n6 + 1))), (5, .int (y6 - (g6 qf))), (8, .int (g6 qf)), (7, .int (nI qf)), (0, .ref (b 0)), (1, .int p0), (2, .int (nI o6)), (3, .int s6), (4, .int (nI dy))]) hx hb dX8_lost_185 hl (k := 8) rfl (nI_1 _) (by decide) rfl (fun ls hl => ?_)
                refine lv_goto (tgt := 65) hx hb dX8_lost_188 (by decide) ?_
                exact ih_65 ((n6 + 1), (y6 - (g6 qf)), o6, s6, g7) ⟨by omega, (by rw [zz_subI (by omega) (by omega)]; omega), hn7 c_9, by omega, zz_pr_go ip6 (by omega) (by omega) (by omega), (by rw [eg7]; exact zz_ri_go (mf := mf) (dy := dy) hor (fun q9 h9 => h9.1) hwt hlr hrv ir5 ir6 (by omega) hqf2 eqf ⟨zrq.1, by omega⟩ ⟨by omega, zlk.2⟩ iy6 ((if_pos (Int32.not_le.mp c_6)).symm) (by rw [if_neg (fun h9 => c_9 (e7.trans h9))]) (by omega))⟩ (show wt - (n6 + 1) < wt - n6 from by omega) _ _ _ (hP.sub [0, 1, 2, 3, 4, 5, 6] rfl) (hD.sub [0, 1, 2, 3, 4, 5, 6] (by decide) rfl) hS (lv_sub hl [4, 5, 6, 7, 8, 1, 0] rfl)
              · have zc_9 := c_9
                rw [← Int32.toInt_inj] at zc_9
                try rw [show (0 : Int32).toInt = 0 from by decide] at zc_9
                refine lv_iinc (v := (nI (o6 - 1))) (lv' := [(2, .int (nI (o6 - 1))), (5, .int (y6 - (g6 qf))), (8, .int (g6 qf)), (7, .int (nI qf)), (0, .ref (b 0)), (1, .int p0), (3, .int s6), (4, .int (nI dy)), (6, .int (nI n6))]) hx hb dX8_lost_163 hl (k := 5) rfl (zz_predI (by omega)) (by decide) rfl (fun ls hl => ?_)
                refine lv_iload_n hx hb dX8_lost_166 rfl (lv_at hl 6 rfl) ?_
                refine lv_aload_n hx hb dX8_lost_167 rfl (lv_at hl 4 rfl) ?_
                refine va_get (D := (dC, dI)) (ci := 8) (v := .ref (b 30)) (C := RX8) (T := TX8) (N := 49) hx hb hw zz_inX8 hown hK hP 0 rfl rfl 29 (by decide) (hw _ tw_224) (fun _ h9 => h9) rfl dX8_lost_168 ?_
                refine lv_iload hx hb dX8_lost_171 (lv_at hl 3 rfl) ?_
                refine va_iald hx hb hK hP 3 0 rfl rfl (vp_in_iff.mpr (by rw [zz_toInt qf (by omega)]; constructor <;> omega)) dX8_lost_173 ?_
                refine zz_seti (va qf) (congrArg va (zz_cl (by omega))) ?_
                refine lv_aload_n hx hb dX8_lost_174 rfl (lv_at hl 4 rfl) ?_
                refine lv_iload hx hb dX8_lost_175 (lv_at hl 3 rfl) ?_
                refine lv_iload hx hb dX8_lost_177 (lv_at hl 7 rfl) ?_
                obtain ⟨hPc, hDc⟩ := zz_sub2 (ws' := [(b 0, .inr (8, [.ref (b 1), .int (nI mt), .int (gg 2), .int (gg 3), .int (gg 4), .int (gg 5), .int (gg 6), .int (gg 7), .int (gg 8), .int (gg 9), .ref (b 11), .ref (b 12), .ref (b 13), .int (nI mc), .int (nI mh), .ref (b 16), .ref (b 17), .ref (b 18), .ref (b 19), .ref (b 20), .ref (b 21), .ref (b 22), .ref (b 23), .ref (b 24), .int (nI mf), .ref (b 26), .ref (b 27), .ref (b 28), .ref (b 29), .ref (b 30), .ref (b 31), .ref (b 32), .int (gg 32), .int (nI md), .ref (b 35), .ref (b 36), .ref (b 37), .ref (b 38), .ref (b 39), .ref (b 40), .int (gg 40), .ref (b 42), .ref (b 43), .ref (b 44), .int (nI wt), .ref (b 46), .ref (b 47), .int pz, .ref (b 49)])), (b 29, .inl (cI, 12, .inl re)), (b 24, .inl (cI, 10, .inl lo)), (b 30, .inl (cI, 12, .inl va))]) hP hD [0, 2, 4, 3] (by decide) rfl
                have hKc := hK.sub (tys' := [(cI, .int)]) [0] rfl
                have hFc := zz_free0 hS hA
                refine va_calli (va_runV (As := [.int (nI qf), .int (nI dy)]) (rest := [.int (va qf), .int s6]) ⟨hx, hb, hml, hown, hw⟩ (mx_proceedsW l dC dI b gg mt mc mh mf md wt pz cI re lo va (nI qf) (nI dy) H.size (by rw [zz_toInt qf (by omega)]; omega) (by rw [zz_cl (by omega), zz_toInt dy (by omega)]; omega)) ⟨callB_of 2 hw (zz_good tw_236) rfl rfl rfl (hw _ tw_184) (hw _ tw_237) (by decide +kernel) ⟨Nat.le_of_ble_eq_true rfl, Nat.le_of_ble_eq_true rfl⟩, (hw _ tw_238), (hw _ tw_239)⟩ ⟨zz_blind, va_recv hKc hPc (ci := 8) (q0 := 0) rfl rfl, zz_pre hPc hKc hDc hN⟩ rfl rfl hl.1 rfl (lv_room (Nat.le_of_ble_eq_true rfl)) dX8_lost_179 ⟨Nat.le_of_ble_eq_true rfl, Nat.le_of_ble_eq_true rfl⟩) hS (fun q _ h => hFc q h) hFc (fun r_10 u_10 t H1 locs ht hvm e_10 hB hz1 hk1 hS => ?_)
                try dsimp only at e_10
                have hP := zz_keep hP hk1
                clear hk1 hB ht hvm
                generalize H1 = H at hP hS ⊢
                refine zz_seti (zz_pc lo (va (Int32.toNatClampNeg (nI qf))) ((nI dy) - (re (Int32.toNatClampNeg (nI qf))))) e_10 ?_
                refine lv_isub hx hb dX8_lost_182 ?_
                refine lv_iadd hx hb dX8_lost_183 ?_
                refine lv_istore_n (lv' := [(3, .int (s6 + ((va qf) - (zz_pc lo (va (Int32.toNatClampNeg (nI qf))) ((nI dy) - (re (Int32.toNatClampNeg (nI qf)))))))), (2, .int (nI (o6 - 1))), (5, .int (y6 - (g6 qf))), (8, .int (g6 qf)), (7, .int (nI qf)), (0, .ref (b 0)), (1, .int p0), (4, .int (nI dy)), (6, .int (nI n6))]) hx hb dX8_lost_184 rfl hl (by decide) rfl (fun ls hl => ?_)
                refine lv_iinc (v := (nI (n6 + 1))) (lv' := [(6, .int (nI (n6 + 1))), (3, .int (s6 + ((va qf) - (zz_pc lo (va (Int32.toNatClampNeg (nI qf))) ((nI dy) - (re (Int32.toNatClampNeg (nI qf)))))))), (2, .int (nI (o6 - 1))), (5, .int (y6 - (g6 qf))), (8, .int (g6 qf)), (7, .int (nI qf)), (0, .ref (b 0)), (1, .int p0), (4, .int (nI dy))]) hx hb dX8_lost_185 hl (k := 8) rfl (nI_1 _) (by decide) rfl (fun ls hl => ?_)
                refine lv_goto (tgt := 65) hx hb dX8_lost_188 (by decide) ?_
                exact ih_65 ((n6 + 1), (y6 - (g6 qf)), (o6 - 1), (s6 + ((va qf) - (zz_pc lo (va (Int32.toNatClampNeg (nI qf))) ((nI dy) - (re (Int32.toNatClampNeg (nI qf))))))), g7) ⟨by omega, (by rw [zz_subI (by omega) (by omega)]; omega), hz7 c_9, by omega, zz_pr_go ip6 (by omega) (by omega) (by omega), (by rw [eg7]; exact zz_ri_go (mf := mf) (dy := dy) hor (fun q9 h9 => h9.1) hwt hlr hrv ir5 ir6 (by omega) hqf2 eqf ⟨zrq.1, by omega⟩ ⟨by omega, zlk.2⟩ iy6 ((if_pos (Int32.not_le.mp c_6)).symm) (by rw [if_pos (e7.symm.trans c_9), zz_cl (j := qf) (by omega)]) (by omega))⟩ (show wt - (n6 + 1) < wt - n6 from by omega) _ _ _ (hP.sub [0, 1, 2, 3, 4, 5, 6] rfl) (hD.sub [0, 1, 2, 3, 4, 5, 6] (by decide) rfl) hS (lv_sub hl [6, 7, 2, 1, 8, 3, 0] rfl)
          · have zc_5 := c_5
            rw [Int32.le_iff_toInt_le] at zc_5
            try rw [zz_toInt dy (by omega)] at zc_5
            refine lv_goto (tgt := 185) hx hb dX8_lost_105 (by decide) ?_
            refine lv_iinc (v := (nI (n6 + 1))) (lv' := [(6, .int (nI (n6 + 1))), (7, .int (nI qf)), (0, .ref (b 0)), (1, .int p0), (2, .int (nI o6)), (3, .int s6), (4, .int (nI dy)), (5, .int y6)]) hx hb dX8_lost_185 hl (k := 7) rfl (nI_1 _) (by decide) rfl (fun ls hl => ?_)
            refine lv_goto (tgt := 65) hx hb dX8_lost_188 (by decide) ?_
            exact ih_65 ((n6 + 1), y6, o6, s6, g6) ⟨by omega, by omega, il6, by omega, zz_pr_no ip6 hqf2 eqf (Or.inr (by omega)), zz_ri_no ir5 ir6 (by omega) hqf2 eqf zrq.1 (Or.inr (by omega))⟩ (show wt - (n6 + 1) < wt - n6 from by omega) _ _ _ (hP.sub [0, 1, 2, 3, 4, 5, 6] rfl) (hD.sub [0, 1, 2, 3, 4, 5, 6] (by decide) rfl) hS (lv_sub hl [2, 3, 4, 5, 6, 7, 0] rfl)
  · have zc_1 := c_1
    rw [Int32.le_iff_toInt_le] at zc_1
    try rw [zz_toInt i (by omega)] at zc_1
    try rw [zz_toInt wt (by omega)] at zc_1
    refine lv_aload_n hx hb dX8_lost_19 rfl (lv_at hl 0 rfl) ?_
    refine va_get (D := (dC, dI)) (ci := 8) (v := .ref (b 47)) (C := RX8) (T := TX8) (N := 49) hx hb hw zz_inX8 hown hK hP 0 rfl rfl 46 (by decide) (hw _ tw_450) (fun _ h9 => h9) rfl dX8_lost_20 ?_
    refine lv_aload_n hx hb dX8_lost_23 rfl (lv_at hl 0 rfl) ?_
    refine va_get (D := (dC, dI)) (ci := 8) (v := .ref (b 46)) (C := RX8) (T := TX8) (N := 49) hx hb hw zz_inX8 hown hK hP 0 rfl rfl 45 (by decide) (hw _ tw_444) (fun _ h9 => h9) rfl dX8_lost_24 ?_
    refine lv_iload hx hb dX8_lost_27 (lv_at hl 4 rfl) ?_
    refine va_iald hx hb hK hP 5 0 rfl rfl (vp_in_iff.mpr (by rw [zz_toInt i (by omega)]; constructor <;> omega)) dX8_lost_29 ?_
    refine zz_seti (od i) (congrArg od (zz_cl (by omega))) ?_
    obtain ⟨qi, hqi, hqi2, eqi⟩ := hor.1 i (by omega)
    refine zz_seti (nI qi) eqi ?_
    refine lv_aload_n hx hb dX8_lost_30 rfl (lv_at hl 0 rfl) ?_
    refine va_get (D := (dC, dI)) (ci := 8) (v := .ref (b 28)) (C := RX8) (T := TX8) (N := 49) hx hb hw zz_inX8 hown hK hP 0 rfl rfl 27 (by decide) (hw _ tw_233) (fun _ h9 => h9) rfl dX8_lost_31 ?_
    refine lv_aload_n hx hb dX8_lost_34 rfl (lv_at hl 0 rfl) ?_
    refine va_get (D := (dC, dI)) (ci := 8) (v := .ref (b 46)) (C := RX8) (T := TX8) (N := 49) hx hb hw zz_inX8 hown hK hP 0 rfl rfl 45 (by decide) (hw _ tw_444) (fun _ h9 => h9) rfl dX8_lost_35 ?_
    refine lv_iload hx hb dX8_lost_38 (lv_at hl 4 rfl) ?_
    refine va_iald hx hb hK hP 5 0 rfl rfl (vp_in_iff.mpr (by rw [zz_toInt i (by omega)]; constructor <;> omega)) dX8_lost_40 ?_
    refine zz_seti (od i) (congrArg od (zz_cl (by omega))) ?_
    refine zz_seti (nI qi) eqi ?_
    refine va_iald hx hb hK hP 1 0 rfl rfl (vp_in_iff.mpr (by rw [zz_toInt qi (by omega)]; constructor <;> omega)) dX8_lost_41 ?_
    refine zz_seti (nee qi) (congrArg nee (zz_cl (by omega))) ?_
    refine va_iast hx hb hK hP hD hS 6 0 rfl rfl (vp_in_iff.mpr (by rw [zz_toInt qi (by omega)]; constructor <;> omega)) dX8_lost_42 (fun H locs hP hD hS => ?_)
    obtain ⟨hP, hD⟩ := zz_ty (D := (dC, dI)) (cl := vwCl) (A := A) (H := H) [(b 0, .inr (8, [.ref (b 1), .int (nI mt), .int (gg 2), .int (gg 3), .int (gg 4), .int (gg 5), .int (gg 6), .int (gg 7), .int (gg 8), .int (gg 9), .ref (b 11), .ref (b 12), .ref (b 13), .int (nI mc), .int (nI mh), .ref (b 16), .ref (b 17), .ref (b 18), .ref (b 19), .ref (b 20), .ref (b 21), .ref (b 22), .ref (b 23), .ref (b 24), .int (nI mf), .ref (b 26), .ref (b 27), .ref (b 28), .ref (b 29), .ref (b 30), .ref (b 31), .ref (b 32), .int (gg 32), .int (nI md), .ref (b 35), .ref (b 36), .ref (b 37), .ref (b 38), .ref (b 39), .ref (b 40), .int (gg 40), .ref (b 42), .ref (b 43), .ref (b 44), .int (nI wt), .ref (b 46), .ref (b 47), .int pz, .ref (b 49)])), (b 28, .inl (cI, 12, .inl nee)), (b 29, .inl (cI, 12, .inl re)), (b 30, .inl (cI, 12, .inl va)), (b 24, .inl (cI, 10, .inl lo)), (b 46, .inl (cI, 7, .inl od)), (b 47, .inl (cI, 12, .inl (upd g0 (Int32.toNatClampNeg (nI qi)) (nee qi))))] hP hD rfl
    refine lv_iinc (v := (nI (i + 1))) (lv' := [(4, .int (nI (i + 1))), (0, .ref (b 0)), (1, .int p0), (2, .int (nI wt)), (3, .int 0)]) hx hb dX8_lost_43 hl (k := 4) rfl (nI_1 _) (by decide) rfl (fun ls hl => ?_)
    refine lv_goto (tgt := 10) hx hb dX8_lost_46 (by decide) ?_
    exact ih_10 ((i + 1), (upd g0 (Int32.toNatClampNeg (nI qi)) (nee qi))) ⟨by omega, zz_fill hqi2 eqi ii⟩ (show wt - (i + 1) < wt - i from by omega) _ _ _ (hP.sub [0, 1, 2, 3, 4, 5, 6] rfl) (hD.sub [0, 1, 2, 3, 4, 5, 6] (by decide) rfl) hS (lv_sub hl [1, 2, 3, 4, 0] rfl)
