set_option maxHeartbeats 4000000 in
set_option maxRecDepth 100000 in
theorem mx_plan (l : Launch) (dC : Nat → ClassId) (dI : Nat → Nat → Nat) (b : Nat → Nat) (gg : Nat → Int32) (mt : Nat) (mc : Nat) (mh : Nat) (mf : Nat) (md : Nat) (cI : ClassId) (nee : Nat → Int32) (re : Nat → Int32) (va : Nat → Int32) (lo : Nat → Int32) (od : Nat → Int32) (lk : Nat → Int32) (dn : Nat → Int32) (pl : Nat → Int32) (p0 : Int32) (sz : Nat) (hmf : mf ≤ 12) (hmc : mc ≤ 400) (hrn : zz_rg nee mf 0 60) (hrr : zz_rg re mf 0 400) (hdn : zz_dn dn nee mf) (hpk : 0 ≤ (gg 47).toInt ∧ (gg 47).toInt ≤ 7) (hdq : zz_dqn nee dn mf) (hlr : zz_rg lo 10 0 100) (hrv : zz_rg va mf 0 10000) : Met l yX8_plan (zz_w yX8_plan cX8_plan 7 (some .int)) ({ frames := 3, cells := 0, slots := 0, locals := 73 }) (va_Pc [.ref (b 0), .int p0] (zz_B (dC, dI) sz [(b 0, .inr (8, [.ref (b 1), .int (nI mt), .int (gg 2), .int (gg 3), .int (gg 4), .int (gg 5), .int (gg 6), .int (gg 7), .int (gg 8), .int (gg 9), .ref (b 11), .ref (b 12), .ref (b 13), .int (nI mc), .int (nI mh), .ref (b 16), .ref (b 17), .ref (b 18), .ref (b 19), .ref (b 20), .ref (b 21), .ref (b 22), .ref (b 23), .ref (b 24), .int (nI mf), .ref (b 26), .ref (b 27), .ref (b 28), .ref (b 29), .ref (b 30), .ref (b 31), .ref (b 32), .int (gg 32), .int (nI md), .ref (b 35), .ref (b 36), .ref (b 37), .ref (b 38), .ref (b 39), .ref (b 40), .int (gg 40), .ref (b 42), .ref (b 43), .ref (b 44), .int (gg 44), .ref (b 46), .ref (b 47), .int (gg 47), .ref (b 49)])), (b 28, .inl (cI, 12, .inl nee)), (b 29, .inl (cI, 12, .inl re)), (b 30, .inl (cI, 12, .inl va)), (b 24, .inl (cI, 10, .inl lo)), (b 46, .inl (cI, 7, .inl od)), (b 47, .inl (cI, 12, .inl lk)), (b 31, .inl (cI, 12, .inl dn)), (b 49, .inl (cI, 7, .inl pl))] [(cI, .int)])) (va_Qi (fun (r : Int32) (u : (Nat → Int32) × (Nat → Int32) × (Nat → Int32) × (Nat → Int32)) => match u with | (h2, _, _, p2) => ((0 ≤ (h2 47).toInt ∧ (h2 47).toInt ≤ 7) ∧ h2 8 = gg 8 ∧ h2 9 = gg 9 ∧ h2 32 = gg 32) ∧ ((¬ ((1 ≤ p0.toInt ∧ p0.toInt ≤ 99) ∧ zz_ct dn mf ≤ 7) ∧ r = -1 ∧ h2 47 = gg 47 ∧ p2 = pl) ∨ (((1 ≤ p0.toInt ∧ p0.toInt ≤ 99) ∧ zz_ct dn mf ≤ 7) ∧ zz_Bst lo va re nee mc p0.toInt.toNat (zz_ct dn mf) (fun q => q < mf ∧ 1 ≤ (nee q).toInt) (fun _ => True) r p2 ∧ h2 47 = nI (zz_ct dn mf)))) (fun (u : (Nat → Int32) × (Nat → Int32) × (Nat → Int32) × (Nat → Int32)) (t : State) => match u with | (u0, u1, u2, u3) => va_P (dC, dI) vwCl [(b 0, .inr (8, [.ref (b 1), .int (nI mt), .int (u0 2), .int (u0 3), .int (u0 4), .int (u0 5), .int (u0 6), .int (u0 7), .int (u0 8), .int (u0 9), .ref (b 11), .ref (b 12), .ref (b 13), .int (nI mc), .int (nI mh), .ref (b 16), .ref (b 17), .ref (b 18), .ref (b 19), .ref (b 20), .ref (b 21), .ref (b 22), .ref (b 23), .ref (b 24), .int (nI mf), .ref (b 26), .ref (b 27), .ref (b 28), .ref (b 29), .ref (b 30), .ref (b 31), .ref (b 32), .int (u0 32), .int (nI md), .ref (b 35), .ref (b 36), .ref (b 37), .ref (b 38), .ref (b 39), .ref (b 40), .int (u0 40), .ref (b 42), .ref (b 43), .ref (b 44), .int (u0 44), .ref (b 46), .ref (b 47), .int (u0 47), .ref (b 49)])), (b 28, .inl (cI, 12, .inl nee)), (b 29, .inl (cI, 12, .inl re)), (b 30, .inl (cI, 12, .inl va)), (b 24, .inl (cI, 10, .inl lo)), (b 46, .inl (cI, 7, .inl u1)), (b 47, .inl (cI, 12, .inl u2)), (b 31, .inl (cI, 12, .inl dn)), (b 49, .inl (cI, 7, .inl u3))] t.heap ∧ va_K (dC, dI) vwCl [(cI, .int)] t ∧ va_D (va_A [(b 0, .inr (8, [.ref (b 1), .int (nI mt), .int (gg 2), .int (gg 3), .int (gg 4), .int (gg 5), .int (gg 6), .int (gg 7), .int (gg 8), .int (gg 9), .ref (b 11), .ref (b 12), .ref (b 13), .int (nI mc), .int (nI mh), .ref (b 16), .ref (b 17), .ref (b 18), .ref (b 19), .ref (b 20), .ref (b 21), .ref (b 22), .ref (b 23), .ref (b 24), .int (nI mf), .ref (b 26), .ref (b 27), .ref (b 28), .ref (b 29), .ref (b 30), .ref (b 31), .ref (b 32), .int (gg 32), .int (nI md), .ref (b 35), .ref (b 36), .ref (b 37), .ref (b 38), .ref (b 39), .ref (b 40), .int (gg 40), .ref (b 42), .ref (b 43), .ref (b 44), .int (gg 44), .ref (b 46), .ref (b 47), .int (gg 47), .ref (b 49)])), (b 28, .inl (cI, 12, .inl nee)), (b 29, .inl (cI, 12, .inl re)), (b 30, .inl (cI, 12, .inl va)), (b 24, .inl (cI, 10, .inl lo)), (b 46, .inl (cI, 7, .inl od)), (b 47, .inl (cI, 12, .inl lk)), (b 31, .inl (cI, 12, .inl dn)), (b 49, .inl (cI, 7, .inl pl))] sz) [(b 0, .inr (8, [.ref (b 1), .int (nI mt), .int (u0 2), .int (u0 3), .int (u0 4), .int (u0 5), .int (u0 6), .int (u0 7), .int (u0 8), .int (u0 9), .ref (b 11), .ref (b 12), .ref (b 13), .int (nI mc), .int (nI mh), .ref (b 16), .ref (b 17), .ref (b 18), .ref (b 19), .ref (b 20), .ref (b 21), .ref (b 22), .ref (b 23), .ref (b 24), .int (nI mf), .ref (b 26), .ref (b 27), .ref (b 28), .ref (b 29), .ref (b 30), .ref (b 31), .ref (b 32), .int (u0 32), .int (nI md), .ref (b 35), .ref (b 36), .ref (b 37), .ref (b 38), .ref (b 39), .ref (b 40), .int (u0 40), .ref (b 42), .ref (b 43), .ref (b 44), .int (u0 44), .ref (b 46), .ref (b 47), .int (u0 47), .ref (b 49)])), (b 28, .inl (cI, 12, .inl nee)), (b 29, .inl (cI, 12, .inl re)), (b 30, .inl (cI, 12, .inl va)), (b 24, .inl (cI, 10, .inl lo)), (b 46, .inl (cI, 7, .inl u1)), (b 47, .inl (cI, 12, .inl u2)), (b 31, .inl (cI, 12, .inl dn)), (b 49, .inl (cI, 7, .inl u3))]) (va_A [(b 0, .inr (8, [.ref (b 1), .int (nI mt), .int (gg 2), .int (gg 3), .int (gg 4), .int (gg 5), .int (gg 6), .int (gg 7), .int (gg 8), .int (gg 9), .ref (b 11), .ref (b 12), .ref (b 13), .int (nI mc), .int (nI mh), .ref (b 16), .ref (b 17), .ref (b 18), .ref (b 19), .ref (b 20), .ref (b 21), .ref (b 22), .ref (b 23), .ref (b 24), .int (nI mf), .ref (b 26), .ref (b 27), .ref (b 28), .ref (b 29), .ref (b 30), .ref (b 31), .ref (b 32), .int (gg 32), .int (nI md), .ref (b 35), .ref (b 36), .ref (b 37), .ref (b 38), .ref (b 39), .ref (b 40), .int (gg 40), .ref (b 42), .ref (b 43), .ref (b 44), .int (gg 44), .ref (b 46), .ref (b 47), .int (gg 47), .ref (b 49)])), (b 28, .inl (cI, 12, .inl nee)), (b 29, .inl (cI, 12, .inl re)), (b 30, .inl (cI, 12, .inl va)), (b 24, .inl (cI, 10, .inl lo)), (b 46, .inl (cI, 7, .inl od)), (b 47, .inl (cI, 12, .inl lk)), (b 31, .inl (cI, 12, .inl dn)), (b 49, .inl (cI, 7, .inl pl))] sz)) 0 0 (va_A [(b 0, .inr (8, [.ref (b 1), .int (nI mt), .int (gg 2), .int (gg 3), .int (gg 4), .int (gg 5), .int (gg 6), .int (gg 7), .int (gg 8), .int (gg 9), .ref (b 11), .ref (b 12), .ref (b 13), .int (nI mc), .int (nI mh), .ref (b 16), .ref (b 17), .ref (b 18), .ref (b 19), .ref (b 20), .ref (b 21), .ref (b 22), .ref (b 23), .ref (b 24), .int (nI mf), .ref (b 26), .ref (b 27), .ref (b 28), .ref (b 29), .ref (b 30), .ref (b 31), .ref (b 32), .int (gg 32), .int (nI md), .ref (b 35), .ref (b 36), .ref (b 37), .ref (b 38), .ref (b 39), .ref (b 40), .int (gg 40), .ref (b 42), .ref (b 43), .ref (b 44), .int (gg 44), .ref (b 46), .ref (b 47), .int (gg 47), .ref (b 49)])), (b 28, .inl (cI, 12, .inl nee)), (b 29, .inl (cI, 12, .inl re)), (b 30, .inl (cI, 12, .inl va)), (b 24, .inl (cI, 10, .inl lo)), (b 46, .inl (cI, 7, .inl od)), (b 47, .inl (cI, 12, .inl lk)), (b 31, .inl (cI, 12, .inl dn)), (b 49, .inl (cI, 7, .inl pl))] sz) := by
  refine Met.ofW (cc := cX8_plan) (maxL := 7) (ret := (some .int)) (by decide) rfl ?_
  intro p e s m args below meth c s₁ B hml hv
  obtain ⟨rfl, hsz, hP, hK, hD0, hN⟩ := hv
  have hx := B.exec
  have hb := B.bytes
  have hr := B.returns
  have hts := atoms_spec (ws := zz_w yX8_plan cX8_plan 7 (some .int)) B.pre
  have hw : ∀ w ∈ zz_all, w.before _ s = true := fun w h => hts w (List.mem_cons_of_mem _ h)
  have hown : s.vm.findClass RX8 = some m.cls := findClass_of_methodNamed B.named
  have hlocks := B.notSynchronized
  subst hsz
  have hD := hD0.self (sz := s.heap.size)
  generalize hAe : va_A [(b 0, .inr (8, [.ref (b 1), .int (nI mt), .int (gg 2), .int (gg 3), .int (gg 4), .int (gg 5), .int (gg 6), .int (gg 7), .int (gg 8), .int (gg 9), .ref (b 11), .ref (b 12), .ref (b 13), .int (nI mc), .int (nI mh), .ref (b 16), .ref (b 17), .ref (b 18), .ref (b 19), .ref (b 20), .ref (b 21), .ref (b 22), .ref (b 23), .ref (b 24), .int (nI mf), .ref (b 26), .ref (b 27), .ref (b 28), .ref (b 29), .ref (b 30), .ref (b 31), .ref (b 32), .int (gg 32), .int (nI md), .ref (b 35), .ref (b 36), .ref (b 37), .ref (b 38), .ref (b 39), .ref (b 40), .int (gg 40), .ref (b 42), .ref (b 43), .ref (b 44), .int (gg 44), .ref (b 46), .ref (b 47), .int (gg 47), .ref (b 49)])), (b 28, .inl (cI, 12, .inl nee)), (b 29, .inl (cI, 12, .inl re)), (b 30, .inl (cI, 12, .inl va)), (b 24, .inl (cI, 10, .inl lo)), (b 46, .inl (cI, 7, .inl od)), (b 47, .inl (cI, 12, .inl lk)), (b 31, .inl (cI, 12, .inl dn)), (b 49, .inl (cI, 7, .inl pl))] s.heap.size = A at hD ⊢
  have hA : ∀ q : Nat, s.heap.size ≤ q → A q := fun q h => by rw [← hAe]; exact Or.inr h
  have hS : va_S A s.heap s.heap [] := va_S.rf
  have hP : va_P (dC, dI) vwCl [(b 0, .inr (8, [.ref (b 1), .int (nI mt), .int (gg 2), .int (gg 3), .int (gg 4), .int (gg 5), .int (gg 6), .int (gg 7), .int (gg 8), .int (gg 9), .ref (b 11), .ref (b 12), .ref (b 13), .int (nI mc), .int (nI mh), .ref (b 16), .ref (b 17), .ref (b 18), .ref (b 19), .ref (b 20), .ref (b 21), .ref (b 22), .ref (b 23), .ref (b 24), .int (nI mf), .ref (b 26), .ref (b 27), .ref (b 28), .ref (b 29), .ref (b 30), .ref (b 31), .ref (b 32), .int (gg 32), .int (nI md), .ref (b 35), .ref (b 36), .ref (b 37), .ref (b 38), .ref (b 39), .ref (b 40), .int (gg 40), .ref (b 42), .ref (b 43), .ref (b 44), .int (gg 44), .ref (b 46), .ref (b 47), .int (gg 47), .ref (b 49)])), (b 28, .inl (cI, 12, .inl nee)), (b 29, .inl (cI, 12, .inl re)), (b 30, .inl (cI, 12, .inl va)), (b 24, .inl (cI, 10, .inl lo)), (b 46, .inl (cI, 7, .inl od)), (b 47, .inl (cI, 12, .inl lk)), (b 31, .inl (cI, 12, .inl dn)), (b 49, .inl (cI, 7, .inl pl))] s.heap := hP
  have hl := lv_entry ([.ref (b 0), .int p0]) (n := 7) (Nat.le_of_ble_eq_true rfl)
  rw [lg_entry_eq]
  generalize (lg_sl ([.ref (b 0), .int p0]) ++ List.replicate (7 - (lg_sl ([.ref (b 0), .int p0])).length) Slot.unset).toArray = ls at hl ⊢
  have hl : lv_has ls 7 [(0, .ref (b 0)), (1, .int p0)] := hl
  refine lv_iconst (v := 0) hx hb dX8_plan_0 (by decide) ?_
  refine lv_istore_n (lv' := [(2, .int 0), (0, .ref (b 0)), (1, .int p0)]) hx hb dX8_plan_1 rfl hl (by decide) rfl (fun ls hl => ?_)
  refine lv_iconst (v := 0) hx hb dX8_plan_2 (by decide) ?_
  refine lv_istore_n (lv' := [(3, .int 0), (2, .int 0), (0, .ref (b 0)), (1, .int p0)]) hx hb dX8_plan_3 rfl hl (by decide) rfl (fun ls hl => ?_)
  refine zz_loopS (fun (u : (Nat) × (Nat)) => match u with | (j, y) => [(b 0, .inr (8, [.ref (b 1), .int (nI mt), .int (gg 2), .int (gg 3), .int (gg 4), .int (gg 5), .int (gg 6), .int (gg 7), .int (gg 8), .int (gg 9), .ref (b 11), .ref (b 12), .ref (b 13), .int (nI mc), .int (nI mh), .ref (b 16), .ref (b 17), .ref (b 18), .ref (b 19), .ref (b 20), .ref (b 21), .ref (b 22), .ref (b 23), .ref (b 24), .int (nI mf), .ref (b 26), .ref (b 27), .ref (b 28), .ref (b 29), .ref (b 30), .ref (b 31), .ref (b 32), .int (gg 32), .int (nI md), .ref (b 35), .ref (b 36), .ref (b 37), .ref (b 38), .ref (b 39), .ref (b 40), .int (gg 40), .ref (b 42), .ref (b 43), .ref (b 44), .int (gg 44), .ref (b 46), .ref (b 47), .int (gg 47), .ref (b 49)])), (b 28, .inl (cI, 12, .inl nee)), (b 29, .inl (cI, 12, .inl re)), (b 30, .inl (cI, 12, .inl va)), (b 24, .inl (cI, 10, .inl lo)), (b 46, .inl (cI, 7, .inl od)), (b 47, .inl (cI, 12, .inl lk)), (b 31, .inl (cI, 12, .inl dn)), (b 49, .inl (cI, 7, .inl pl))]) (fun (u : (Nat) × (Nat)) => match u with | (j, y) => [(0, .ref (b 0)), (1, .int p0), (2, .int (nI y)), (3, .int (nI j))]) (fun (u : (Nat) × (Nat)) => match u with | (j, y) => j ≤ mf ∧ y = zz_ct dn j) (fun (u : (Nat) × (Nat)) => match u with | (j, y) => mf - j) (fun u hI H locs ls hP hD hS hl ih_4 => ?_) (0, 0) ⟨by omega, rfl⟩ _ _ _ (hP.sub [0, 1, 2, 3, 4, 5, 6, 7, 8] rfl) (hD.sub [0, 1, 2, 3, 4, 5, 6, 7, 8] (by decide) rfl) hS (lv_sub hl [2, 3, 1, 0] rfl)
  obtain ⟨j, y⟩ := u
  obtain ⟨hP, hD⟩ := zz_ty (D := (dC, dI)) (cl := vwCl) (A := A) (H := H) [(b 0, .inr (8, [.ref (b 1), .int (nI mt), .int (gg 2), .int (gg 3), .int (gg 4), .int (gg 5), .int (gg 6), .int (gg 7), .int (gg 8), .int (gg 9), .ref (b 11), .ref (b 12), .ref (b 13), .int (nI mc), .int (nI mh), .ref (b 16), .ref (b 17), .ref (b 18), .ref (b 19), .ref (b 20), .ref (b 21), .ref (b 22), .ref (b 23), .ref (b 24), .int (nI mf), .ref (b 26), .ref (b 27), .ref (b 28), .ref (b 29), .ref (b 30), .ref (b 31), .ref (b 32), .int (gg 32), .int (nI md), .ref (b 35), .ref (b 36), .ref (b 37), .ref (b 38), .ref (b 39), .ref (b 40), .int (gg 40), .ref (b 42), .ref (b 43), .ref (b 44), .int (gg 44), .ref (b 46), .ref (b 47), .int (gg 47), .ref (b 49)])), (b 28, .inl (cI, 12, .inl nee)), (b 29, .inl (cI, 12, .inl re)), (b 30, .inl (cI, 12, .inl va)), (b 24, .inl (cI, 10, .inl lo)), (b 46, .inl (cI, 7, .inl od)), (b 47, .inl (cI, 12, .inl lk)), (b 31, .inl (cI, 12, .inl dn)), (b 49, .inl (cI, 7, .inl pl))] hP hD rfl
  have hl : lv_has ls 7 [(0, .ref (b 0)), (1, .int p0), (2, .int (nI y)), (3, .int (nI j))] := hl
  have hI : j ≤ mf ∧ y = zz_ct dn j := hI
  obtain ⟨ij, iy⟩ := hI
  refine lv_iload_n hx hb dX8_plan_4 rfl (lv_at hl 3 rfl) ?_
  refine lv_aload_n hx hb dX8_plan_5 rfl (lv_at hl 0 rfl) ?_
  refine va_get (D := (dC, dI)) (ci := 8) (v := .int (nI mf)) (C := RX8) (T := TX8) (N := 49) hx hb hw zz_inX8 hown hK hP 0 rfl rfl 24 (by decide) (hw _ tw_187) (fun _ h9 => h9) rfl dX8_plan_6 ?_
  refine lv_icmp_ge (tgt := 35) hx hb dX8_plan_9 (by decide) (fun c_1 => ?_) (fun c_1 => ?_)
  · have zc_1 := c_1
    rw [Int32.le_iff_toInt_le] at zc_1
    try rw [zz_toInt j (by omega)] at zc_1
    try rw [zz_toInt mf (by omega)] at zc_1
    have hy12 : y ≤ 12 := by rw [iy]; exact Nat.le_trans (zz_ct_b j) (by omega)
    refine lv_iload_n hx hb dX8_plan_35 rfl (lv_at hl 1 rfl) ?_
    refine lv_i2l (v := Int32.toInt64 p0) hx hb dX8_plan_36 rfl ?_
    refine lv_lconst (v := Int32.toInt64 1) hx hb dX8_plan_37 (by decide) ?_
    refine lv_ldc2 (v := 99) hx hb hown (hw _ tw_451) dX8_plan_38 ?_
    refine zz_setl (Int32.toInt64 99) (by decide) ?_
    obtain ⟨hPc, hDc⟩ := zz_sub2 (ws' := []) hP hD [] (by decide) rfl
    have hKc := hK.sub (tys' := []) [] rfl
    have hFc := zz_free0 hS hA
    refine va_calli (va_runS (As := [.long (Int32.toInt64 p0), .long (Int32.toInt64 1), .long (Int32.toInt64 99)]) (rest := []) ⟨hx, hb, hml, hown, hw⟩ (k_in l dC dI p0 1 99 H.size) ⟨callB_of 3 hw (zz_good tw_183) rfl rfl rfl (hw _ tw_184) (hw _ tw_185) (by decide +kernel) ⟨Nat.le_of_ble_eq_true rfl, Nat.le_of_ble_eq_true rfl⟩, (hw _ tw_186)⟩ ⟨zz_blind, zz_pre hPc hKc hDc hN⟩ rfl rfl hl.1 rfl (lv_room (Nat.le_of_ble_eq_true rfl)) dX8_plan_41 ⟨Nat.le_of_ble_eq_true rfl, Nat.le_of_ble_eq_true rfl⟩) hS (fun q _ h => hFc q h) hFc (fun r_2 u_2 t H1 locs ht hvm e_2 hB hz1 hk1 hS => ?_)
    try dsimp only at e_2
    have hP := zz_keep hP hk1
    clear hk1 hB ht hvm
    generalize H1 = H at hP hS ⊢
    refine lv_if_eq (tgt := 53) hx hb dX8_plan_44 (by decide) (fun c_3 => ?_) (fun c_3 => ?_)
    · have zc_3 := c_3
      rw [e_2, zz_in0, Int32.le_iff_toInt_le, Int32.le_iff_toInt_le] at zc_3
      try rw [show (1 : Int32).toInt = 1 from by decide] at zc_3
      try rw [show (99 : Int32).toInt = 99 from by decide] at zc_3
      refine lv_iconst (v := (-1)) hx hb dX8_plan_53 (by decide) ?_
      obtain ⟨hP9, hD9⟩ := zz_sub2 (ws' := [(b 0, .inr (8, [.ref (b 1), .int (nI mt), .int (gg 2), .int (gg 3), .int (gg 4), .int (gg 5), .int (gg 6), .int (gg 7), .int (gg 8), .int (gg 9), .ref (b 11), .ref (b 12), .ref (b 13), .int (nI mc), .int (nI mh), .ref (b 16), .ref (b 17), .ref (b 18), .ref (b 19), .ref (b 20), .ref (b 21), .ref (b 22), .ref (b 23), .ref (b 24), .int (nI mf), .ref (b 26), .ref (b 27), .ref (b 28), .ref (b 29), .ref (b 30), .ref (b 31), .ref (b 32), .int (gg 32), .int (nI md), .ref (b 35), .ref (b 36), .ref (b 37), .ref (b 38), .ref (b 39), .ref (b 40), .int (gg 40), .ref (b 42), .ref (b 43), .ref (b 44), .int (gg 44), .ref (b 46), .ref (b 47), .int (gg 47), .ref (b 49)])), (b 28, .inl (cI, 12, .inl nee)), (b 29, .inl (cI, 12, .inl re)), (b 30, .inl (cI, 12, .inl va)), (b 24, .inl (cI, 10, .inl lo)), (b 46, .inl (cI, 7, .inl od)), (b 47, .inl (cI, 12, .inl lk)), (b 31, .inl (cI, 12, .inl dn)), (b 49, .inl (cI, 7, .inl pl))]) hP hD [0, 1, 2, 3, 4, 5, 6, 7, 8] (by decide) rfl
      have hK9 := hK.sub (tys' := [(cI, .int)]) [0] rfl
      exact W.iret (v := (-1)) hx hb hr (fun t ht hW => ⟨⟨(-1), (gg, od, lk, pl), rfl, ⟨⟨hpk, rfl, rfl, rfl⟩, Or.inl ⟨fun h9 => (by have h8 := h9.2; rw [show mf = j from by omega, ← iy] at h8; have h6 := h9.1; omega), rfl, rfl, rfl⟩⟩, by rw [ht]; exact hP9, va_K.moved hW.alike hK9, hD9⟩, hS.F ht⟩) hS.2.2 dX8_plan_54
    · have zc_3 := c_3
      rw [e_2, zz_in0, Int32.le_iff_toInt_le, Int32.le_iff_toInt_le] at zc_3
      try rw [show (1 : Int32).toInt = 1 from by decide] at zc_3
      try rw [show (99 : Int32).toInt = 99 from by decide] at zc_3
      refine lv_iload_n hx hb dX8_plan_47 rfl (lv_at hl 2 rfl) ?_
      refine lv_bipush (v := 7) hx hb dX8_plan_48 (by decide) ?_
      refine lv_icmp_le (tgt := 55) hx hb dX8_plan_50 (by decide) (fun c_4 => ?_) (fun c_4 => ?_)
      · have zc_4 := c_4
        rw [Int32.le_iff_toInt_le] at zc_4
        try rw [zz_toInt y (by omega)] at zc_4
        try rw [show (7 : Int32).toInt = 7 from by decide] at zc_4
        refine lv_aload_n hx hb dX8_plan_55 rfl (lv_at hl 0 rfl) ?_
        refine lv_iconst (v := 0) hx hb dX8_plan_56 (by decide) ?_
        refine va_put (D := (dC, dI)) (ci := 8) (v := .int 0) (ty := .int) (C := RX8) (T := TX8) (N := 49) hx hb hw zz_inX8 tyX8 tyX8_ok nmX8 hown hK hP hD hS 0 rfl rfl 44 (by decide) (hw _ tw_445) (fun _ h9 => h9) rfl (by decide +kernel) rfl rfl (Nat.le_of_ble_eq_true rfl) dX8_plan_57 (fun H locs hP hD hS => ?_)
        obtain ⟨hP, hD⟩ := zz_ty (D := (dC, dI)) (cl := vwCl) (A := A) (H := H) [(b 0, .inr (8, [.ref (b 1), .int (nI mt), .int (gg 2), .int (gg 3), .int (gg 4), .int (gg 5), .int (gg 6), .int (gg 7), .int (gg 8), .int (gg 9), .ref (b 11), .ref (b 12), .ref (b 13), .int (nI mc), .int (nI mh), .ref (b 16), .ref (b 17), .ref (b 18), .ref (b 19), .ref (b 20), .ref (b 21), .ref (b 22), .ref (b 23), .ref (b 24), .int (nI mf), .ref (b 26), .ref (b 27), .ref (b 28), .ref (b 29), .ref (b 30), .ref (b 31), .ref (b 32), .int (gg 32), .int (nI md), .ref (b 35), .ref (b 36), .ref (b 37), .ref (b 38), .ref (b 39), .ref (b 40), .int (gg 40), .ref (b 42), .ref (b 43), .ref (b 44), .int 0, .ref (b 46), .ref (b 47), .int (gg 47), .ref (b 49)])), (b 28, .inl (cI, 12, .inl nee)), (b 29, .inl (cI, 12, .inl re)), (b 30, .inl (cI, 12, .inl va)), (b 24, .inl (cI, 10, .inl lo)), (b 46, .inl (cI, 7, .inl od)), (b 47, .inl (cI, 12, .inl lk)), (b 31, .inl (cI, 12, .inl dn)), (b 49, .inl (cI, 7, .inl pl))] hP hD rfl
        obtain ⟨hP, hD⟩ := zz_ty (D := (dC, dI)) (cl := vwCl) (A := A) (H := H) [(b 0, .inr (8, [.ref (b 1), .int (nI mt), .int (gg 2), .int (gg 3), .int (gg 4), .int (gg 5), .int (gg 6), .int (gg 7), .int (gg 8), .int (gg 9), .ref (b 11), .ref (b 12), .ref (b 13), .int (nI mc), .int (nI mh), .ref (b 16), .ref (b 17), .ref (b 18), .ref (b 19), .ref (b 20), .ref (b 21), .ref (b 22), .ref (b 23), .ref (b 24), .int (nI mf), .ref (b 26), .ref (b 27), .ref (b 28), .ref (b 29), .ref (b 30), .ref (b 31), .ref (b 32), .int (gg 32), .int (nI md), .ref (b 35), .ref (b 36), .ref (b 37), .ref (b 38), .ref (b 39), .ref (b 40), .int (gg 40), .ref (b 42), .ref (b 43), .ref (b 44), .int (nI 0), .ref (b 46), .ref (b 47), .int (gg 47), .ref (b 49)])), (b 28, .inl (cI, 12, .inl nee)), (b 29, .inl (cI, 12, .inl re)), (b 30, .inl (cI, 12, .inl va)), (b 24, .inl (cI, 10, .inl lo)), (b 46, .inl (cI, 7, .inl od)), (b 47, .inl (cI, 12, .inl lk)), (b 31, .inl (cI, 12, .inl dn)), (b 49, .inl (cI, 7, .inl pl))] hP hD rfl
        have h7 : zz_ct dn mf ≤ 7 := by rw [show mf = j from by omega, ← iy]; omega
        refine lv_iconst (v := 0) hx hb dX8_plan_60 (by decide) ?_
        refine lv_istore_n (lv' := [(3, .int 0), (0, .ref (b 0)), (1, .int p0), (2, .int (nI y))]) hx hb dX8_plan_61 rfl hl (by decide) rfl (fun ls hl => ?_)
        refine zz_loopS (fun (u : (Nat) × (Nat) × (Nat → Int32)) => match u with | (i, wt, oc) => [(b 0, .inr (8, [.ref (b 1), .int (nI mt), .int (gg 2), .int (gg 3), .int (gg 4), .int (gg 5), .int (gg 6), .int (gg 7), .int (gg 8), .int (gg 9), .ref (b 11), .ref (b 12), .ref (b 13), .int (nI mc), .int (nI mh), .ref (b 16), .ref (b 17), .ref (b 18), .ref (b 19), .ref (b 20), .ref (b 21), .ref (b 22), .ref (b 23), .ref (b 24), .int (nI mf), .ref (b 26), .ref (b 27), .ref (b 28), .ref (b 29), .ref (b 30), .ref (b 31), .ref (b 32), .int (gg 32), .int (nI md), .ref (b 35), .ref (b 36), .ref (b 37), .ref (b 38), .ref (b 39), .ref (b 40), .int (gg 40), .ref (b 42), .ref (b 43), .ref (b 44), .int (nI wt), .ref (b 46), .ref (b 47), .int (gg 47), .ref (b 49)])), (b 28, .inl (cI, 12, .inl nee)), (b 29, .inl (cI, 12, .inl re)), (b 30, .inl (cI, 12, .inl va)), (b 24, .inl (cI, 10, .inl lo)), (b 46, .inl (cI, 7, .inl oc)), (b 47, .inl (cI, 12, .inl lk)), (b 31, .inl (cI, 12, .inl dn)), (b 49, .inl (cI, 7, .inl pl))]) (fun (u : (Nat) × (Nat) × (Nat → Int32)) => match u with | (i, wt, oc) => [(0, .ref (b 0)), (1, .int p0), (2, .int (nI y)), (3, .int (nI i))]) (fun (u : (Nat) × (Nat) × (Nat → Int32)) => match u with | (i, wt, oc) => i ≤ mf ∧ zz_fp oc dn nee wt i mf) (fun (u : (Nat) × (Nat) × (Nat → Int32)) => match u with | (i, wt, oc) => mf - i) (fun u hI H locs ls hP hD hS hl ih_62 => ?_) (0, 0, od) ⟨by omega, zz_fp_0⟩ _ _ _ (hP.sub [0, 1, 2, 3, 4, 5, 6, 7, 8] rfl) (hD.sub [0, 1, 2, 3, 4, 5, 6, 7, 8] (by decide) rfl) hS (lv_sub hl [1, 2, 3, 0] rfl)
        obtain ⟨i, wt, oc⟩ := u
        obtain ⟨hP, hD⟩ := zz_ty (D := (dC, dI)) (cl := vwCl) (A := A) (H := H) [(b 0, .inr (8, [.ref (b 1), .int (nI mt), .int (gg 2), .int (gg 3), .int (gg 4), .int (gg 5), .int (gg 6), .int (gg 7), .int (gg 8), .int (gg 9), .ref (b 11), .ref (b 12), .ref (b 13), .int (nI mc), .int (nI mh), .ref (b 16), .ref (b 17), .ref (b 18), .ref (b 19), .ref (b 20), .ref (b 21), .ref (b 22), .ref (b 23), .ref (b 24), .int (nI mf), .ref (b 26), .ref (b 27), .ref (b 28), .ref (b 29), .ref (b 30), .ref (b 31), .ref (b 32), .int (gg 32), .int (nI md), .ref (b 35), .ref (b 36), .ref (b 37), .ref (b 38), .ref (b 39), .ref (b 40), .int (gg 40), .ref (b 42), .ref (b 43), .ref (b 44), .int (nI wt), .ref (b 46), .ref (b 47), .int (gg 47), .ref (b 49)])), (b 28, .inl (cI, 12, .inl nee)), (b 29, .inl (cI, 12, .inl re)), (b 30, .inl (cI, 12, .inl va)), (b 24, .inl (cI, 10, .inl lo)), (b 46, .inl (cI, 7, .inl oc)), (b 47, .inl (cI, 12, .inl lk)), (b 31, .inl (cI, 12, .inl dn)), (b 49, .inl (cI, 7, .inl pl))] hP hD rfl
        have hl : lv_has ls 7 [(0, .ref (b 0)), (1, .int p0), (2, .int (nI y)), (3, .int (nI i))] := hl
        have hI : i ≤ mf ∧ zz_fp oc dn nee wt i mf := hI
        obtain ⟨ii, if1⟩ := hI
        refine lv_iload_n hx hb dX8_plan_62 rfl (lv_at hl 3 rfl) ?_
        refine lv_aload_n hx hb dX8_plan_63 rfl (lv_at hl 0 rfl) ?_
        refine va_get (D := (dC, dI)) (ci := 8) (v := .int (nI mf)) (C := RX8) (T := TX8) (N := 49) hx hb hw zz_inX8 hown hK hP 0 rfl rfl 24 (by decide) (hw _ tw_187) (fun _ h9 => h9) rfl dX8_plan_64 ?_
        refine lv_icmp_ge (tgt := 105) hx hb dX8_plan_67 (by decide) (fun c_5 => ?_) (fun c_5 => ?_)
        · have zc_5 := c_5
          rw [Int32.le_iff_toInt_le] at zc_5
          try rw [zz_toInt i (by omega)] at zc_5
          try rw [zz_toInt mf (by omega)] at zc_5
          have hwt : wt ≤ 7 := by have h8 := zz_ct_mono (dn := dn) (j := i) mf (by omega); have h9 := if1.1.1; omega
          obtain ⟨hpm0, hfr0, hwe⟩ := zz_fp_end if1 (by omega) hdq
          refine lv_aload_n hx hb dX8_plan_105 rfl (lv_at hl 0 rfl) ?_
          refine lv_aload_n hx hb dX8_plan_106 rfl (lv_at hl 0 rfl) ?_
          refine va_get (D := (dC, dI)) (ci := 8) (v := .int (nI wt)) (C := RX8) (T := TX8) (N := 49) hx hb hw zz_inX8 hown hK hP 0 rfl rfl 44 (by decide) (hw _ tw_445) (fun _ h9 => h9) rfl dX8_plan_107 ?_
          refine va_put (D := (dC, dI)) (ci := 8) (v := .int (nI wt)) (ty := .int) (C := RX8) (T := TX8) (N := 49) hx hb hw zz_inX8 tyX8 tyX8_ok nmX8 hown hK hP hD hS 0 rfl rfl 47 (by decide) (hw _ tw_452) (fun _ h9 => h9) rfl (by decide +kernel) rfl rfl (Nat.le_of_ble_eq_true rfl) dX8_plan_110 (fun H locs hP hD hS => ?_)
          obtain ⟨hP, hD⟩ := zz_ty (D := (dC, dI)) (cl := vwCl) (A := A) (H := H) [(b 0, .inr (8, [.ref (b 1), .int (nI mt), .int (gg 2), .int (gg 3), .int (gg 4), .int (gg 5), .int (gg 6), .int (gg 7), .int (gg 8), .int (gg 9), .ref (b 11), .ref (b 12), .ref (b 13), .int (nI mc), .int (nI mh), .ref (b 16), .ref (b 17), .ref (b 18), .ref (b 19), .ref (b 20), .ref (b 21), .ref (b 22), .ref (b 23), .ref (b 24), .int (nI mf), .ref (b 26), .ref (b 27), .ref (b 28), .ref (b 29), .ref (b 30), .ref (b 31), .ref (b 32), .int (gg 32), .int (nI md), .ref (b 35), .ref (b 36), .ref (b 37), .ref (b 38), .ref (b 39), .ref (b 40), .int (gg 40), .ref (b 42), .ref (b 43), .ref (b 44), .int (nI wt), .ref (b 46), .ref (b 47), .int (nI wt), .ref (b 49)])), (b 28, .inl (cI, 12, .inl nee)), (b 29, .inl (cI, 12, .inl re)), (b 30, .inl (cI, 12, .inl va)), (b 24, .inl (cI, 10, .inl lo)), (b 46, .inl (cI, 7, .inl oc)), (b 47, .inl (cI, 12, .inl lk)), (b 31, .inl (cI, 12, .inl dn)), (b 49, .inl (cI, 7, .inl pl))] hP hD rfl
          refine lv_iconst (v := (-1)) hx hb dX8_plan_113 (by decide) ?_
          refine lv_istore_n (lv' := [(3, .int (-1)), (0, .ref (b 0)), (1, .int p0), (2, .int (nI y))]) hx hb dX8_plan_114 rfl hl (by decide) rfl (fun ls hl => ?_)
          refine lv_iconst (v := 1) hx hb dX8_plan_115 (by decide) ?_
          refine lv_istore (lv' := [(4, .int 1), (3, .int (-1)), (0, .ref (b 0)), (1, .int p0), (2, .int (nI y))]) hx hb dX8_plan_116 hl (by decide) rfl (fun ls hl => ?_)
          refine zz_loopS (fun (u : (Int32) × (Int32) × (Nat → Int32) × (Nat → Int32) × (Nat → Int32)) => match u with | (bs, mv, ob, lb, pb) => [(b 0, .inr (8, [.ref (b 1), .int (nI mt), .int (gg 2), .int (gg 3), .int (gg 4), .int (gg 5), .int (gg 6), .int (gg 7), .int (gg 8), .int (gg 9), .ref (b 11), .ref (b 12), .ref (b 13), .int (nI mc), .int (nI mh), .ref (b 16), .ref (b 17), .ref (b 18), .ref (b 19), .ref (b 20), .ref (b 21), .ref (b 22), .ref (b 23), .ref (b 24), .int (nI mf), .ref (b 26), .ref (b 27), .ref (b 28), .ref (b 29), .ref (b 30), .ref (b 31), .ref (b 32), .int (gg 32), .int (nI md), .ref (b 35), .ref (b 36), .ref (b 37), .ref (b 38), .ref (b 39), .ref (b 40), .int (gg 40), .ref (b 42), .ref (b 43), .ref (b 44), .int (nI wt), .ref (b 46), .ref (b 47), .int (nI wt), .ref (b 49)])), (b 28, .inl (cI, 12, .inl nee)), (b 29, .inl (cI, 12, .inl re)), (b 30, .inl (cI, 12, .inl va)), (b 24, .inl (cI, 10, .inl lo)), (b 46, .inl (cI, 7, .inl ob)), (b 47, .inl (cI, 12, .inl lb)), (b 31, .inl (cI, 12, .inl dn)), (b 49, .inl (cI, 7, .inl pb))]) (fun (u : (Int32) × (Int32) × (Nat → Int32) × (Nat → Int32) × (Nat → Int32)) => match u with | (bs, mv, ob, lb, pb) => [(0, .ref (b 0)), (1, .int p0), (2, .int (nI y)), (3, .int bs), (4, .int mv)]) (fun (u : (Int32) × (Int32) × (Nat → Int32) × (Nat → Int32) × (Nat → Int32)) => match u with | (bs, mv, ob, lb, pb) => (mv = 0 ∨ mv = 1) ∧ zz_pm ob wt (fun q => q < mf ∧ 1 ≤ (nee q).toInt) ∧ zz_pst lo va re nee mc p0.toInt.toNat wt (fun q => q < mf ∧ 1 ≤ (nee q).toInt) mv bs ob pb) (fun (u : (Int32) × (Int32) × (Nat → Int32) × (Nat → Int32) × (Nat → Int32)) => match u with | (bs, mv, ob, lb, pb) => if mv = 0 then 0 else 35831809 - zz_lx ob wt) (fun u hI H locs ls hP hD hS hl ih_118 => ?_) ((-1), 1, oc, lk, pl) ⟨Or.inr rfl, hpm0, Or.inl ⟨(by decide), rfl, hfr0⟩⟩ _ _ _ (hP.sub [0, 1, 2, 3, 4, 5, 6, 7, 8] rfl) (hD.sub [0, 1, 2, 3, 4, 5, 6, 7, 8] (by decide) rfl) hS (lv_sub hl [2, 3, 4, 1, 0] rfl)
          obtain ⟨bs, mv, ob, lb, pb⟩ := u
          obtain ⟨hP, hD⟩ := zz_ty (D := (dC, dI)) (cl := vwCl) (A := A) (H := H) [(b 0, .inr (8, [.ref (b 1), .int (nI mt), .int (gg 2), .int (gg 3), .int (gg 4), .int (gg 5), .int (gg 6), .int (gg 7), .int (gg 8), .int (gg 9), .ref (b 11), .ref (b 12), .ref (b 13), .int (nI mc), .int (nI mh), .ref (b 16), .ref (b 17), .ref (b 18), .ref (b 19), .ref (b 20), .ref (b 21), .ref (b 22), .ref (b 23), .ref (b 24), .int (nI mf), .ref (b 26), .ref (b 27), .ref (b 28), .ref (b 29), .ref (b 30), .ref (b 31), .ref (b 32), .int (gg 32), .int (nI md), .ref (b 35), .ref (b 36), .ref (b 37), .ref (b 38), .ref (b 39), .ref (b 40), .int (gg 40), .ref (b 42), .ref (b 43), .ref (b 44), .int (nI wt), .ref (b 46), .ref (b 47), .int (nI wt), .ref (b 49)])), (b 28, .inl (cI, 12, .inl nee)), (b 29, .inl (cI, 12, .inl re)), (b 30, .inl (cI, 12, .inl va)), (b 24, .inl (cI, 10, .inl lo)), (b 46, .inl (cI, 7, .inl ob)), (b 47, .inl (cI, 12, .inl lb)), (b 31, .inl (cI, 12, .inl dn)), (b 49, .inl (cI, 7, .inl pb))] hP hD rfl
          have hl : lv_has ls 7 [(0, .ref (b 0)), (1, .int p0), (2, .int (nI y)), (3, .int bs), (4, .int mv)] := hl
          have hI : (mv = 0 ∨ mv = 1) ∧ zz_pm ob wt (fun q => q < mf ∧ 1 ≤ (nee q).toInt) ∧ zz_pst lo va re nee mc p0.toInt.toNat wt (fun q => q < mf ∧ 1 ≤ (nee q).toInt) mv bs ob pb := hI
          obtain ⟨imv, ior, ist⟩ := hI
          refine lv_iload hx hb dX8_plan_118 (lv_at hl 4 rfl) ?_
          refine lv_if_eq (tgt := 184) hx hb dX8_plan_120 (by decide) (fun c_6 => ?_) (fun c_6 => ?_)
          · have zc_6 := c_6
            rw [← Int32.toInt_inj] at zc_6
            try rw [show (0 : Int32).toInt = 0 from by decide] at zc_6
            refine lv_iload_n hx hb dX8_plan_184 rfl (lv_at hl 3 rfl) ?_
            obtain ⟨hP9, hD9⟩ := zz_sub2 (ws' := [(b 0, .inr (8, [.ref (b 1), .int (nI mt), .int (gg 2), .int (gg 3), .int (gg 4), .int (gg 5), .int (gg 6), .int (gg 7), .int (gg 8), .int (gg 9), .ref (b 11), .ref (b 12), .ref (b 13), .int (nI mc), .int (nI mh), .ref (b 16), .ref (b 17), .ref (b 18), .ref (b 19), .ref (b 20), .ref (b 21), .ref (b 22), .ref (b 23), .ref (b 24), .int (nI mf), .ref (b 26), .ref (b 27), .ref (b 28), .ref (b 29), .ref (b 30), .ref (b 31), .ref (b 32), .int (gg 32), .int (nI md), .ref (b 35), .ref (b 36), .ref (b 37), .ref (b 38), .ref (b 39), .ref (b 40), .int (gg 40), .ref (b 42), .ref (b 43), .ref (b 44), .int (nI wt), .ref (b 46), .ref (b 47), .int (nI wt), .ref (b 49)])), (b 28, .inl (cI, 12, .inl nee)), (b 29, .inl (cI, 12, .inl re)), (b 30, .inl (cI, 12, .inl va)), (b 24, .inl (cI, 10, .inl lo)), (b 46, .inl (cI, 7, .inl ob)), (b 47, .inl (cI, 12, .inl lb)), (b 31, .inl (cI, 12, .inl dn)), (b 49, .inl (cI, 7, .inl pb))]) hP hD [0, 1, 2, 3, 4, 5, 6, 7, 8] (by decide) rfl
            have hK9 := hK.sub (tys' := [(cI, .int)]) [0] rfl
            exact W.iret (v := bs) hx hb hr (fun t ht hW => ⟨⟨bs, ((fun j => ([0, 0, (gg 2), (gg 3), (gg 4), (gg 5), (gg 6), (gg 7), (gg 8), (gg 9), 0, 0, 0, 0, 0, 0, 0, 0, 0, 0, 0, 0, 0, 0, 0, 0, 0, 0, 0, 0, 0, 0, (gg 32), 0, 0, 0, 0, 0, 0, 0, (gg 40), 0, 0, 0, (nI wt), 0, 0, (nI wt), 0] : List Int32).getD j 0), ob, lb, pb), rfl, ⟨⟨(by show (0 : Int) ≤ (nI wt).toInt ∧ (nI wt).toInt ≤ 7; rw [zz_toInt wt (by omega)]; omega), rfl, rfl, rfl⟩, Or.inr ⟨⟨by omega, h7⟩, (by rw [← hwe]; exact zz_pst_end ist c_6), congrArg nI hwe⟩⟩, by rw [ht]; exact hP9, va_K.moved hW.alike hK9, hD9⟩, hS.F ht⟩) hS.2.2 dX8_plan_185
          · have zc_6 := c_6
            rw [← Int32.toInt_inj] at zc_6
            try rw [show (0 : Int32).toInt = 0 from by decide] at zc_6
            refine lv_aload_n hx hb dX8_plan_123 rfl (lv_at hl 0 rfl) ?_
            refine lv_iload_n hx hb dX8_plan_124 rfl (lv_at hl 1 rfl) ?_
            obtain ⟨hPc, hDc⟩ := zz_sub2 (ws' := [(b 0, .inr (8, [.ref (b 1), .int (nI mt), .int (gg 2), .int (gg 3), .int (gg 4), .int (gg 5), .int (gg 6), .int (gg 7), .int (gg 8), .int (gg 9), .ref (b 11), .ref (b 12), .ref (b 13), .int (nI mc), .int (nI mh), .ref (b 16), .ref (b 17), .ref (b 18), .ref (b 19), .ref (b 20), .ref (b 21), .ref (b 22), .ref (b 23), .ref (b 24), .int (nI mf), .ref (b 26), .ref (b 27), .ref (b 28), .ref (b 29), .ref (b 30), .ref (b 31), .ref (b 32), .int (gg 32), .int (nI md), .ref (b 35), .ref (b 36), .ref (b 37), .ref (b 38), .ref (b 39), .ref (b 40), .int (gg 40), .ref (b 42), .ref (b 43), .ref (b 44), .int (nI wt), .ref (b 46), .ref (b 47), .int (nI wt), .ref (b 49)])), (b 28, .inl (cI, 12, .inl nee)), (b 29, .inl (cI, 12, .inl re)), (b 30, .inl (cI, 12, .inl va)), (b 24, .inl (cI, 10, .inl lo)), (b 46, .inl (cI, 7, .inl ob)), (b 47, .inl (cI, 12, .inl lb))]) hP hD [0, 1, 2, 3, 4, 5, 6] (by decide) rfl
            have hKc := hK.sub (tys' := [(cI, .int)]) [0] rfl
            have hFc := zz_free1 hDc hS hA
            refine va_calli (va_runV (As := [.int p0]) (rest := []) ⟨hx, hb, hml, hown, hw⟩ (mx_lost l dC dI b gg mt mc mh mf md wt (nI wt) cI nee re va lo ob lb p0 H.size (by omega) (by omega) (by omega) ior.1 hrn hrr (by omega) hlr hrv) ⟨callB_of 1 hw (zz_good tw_453) rfl rfl rfl (hw _ tw_184) (hw _ tw_454) (by decide +kernel) ⟨Nat.le_of_ble_eq_true rfl, Nat.le_of_ble_eq_true rfl⟩, (hw _ tw_455), (hw _ tw_456)⟩ ⟨zz_blind, va_recv hKc hPc (ci := 8) (q0 := 0) rfl rfl, zz_pre hPc hKc hDc hN⟩ rfl rfl hl.1 rfl (lv_room (Nat.le_of_ble_eq_true rfl)) dX8_plan_125 ⟨Nat.le_of_ble_eq_true rfl, Nat.le_of_ble_eq_true rfl⟩) hS (fun q _ h => hFc q h) hFc (fun r_7 u_7 t H1 locs ht hvm e_7 hB hz1 hk1 hS => ?_)
            try dsimp only at e_7
            obtain ⟨le, rfl⟩ : ∃ z, z = u_7 := ⟨_, rfl⟩
            obtain ⟨hP1, hK1, hD1⟩ := hB
            rw [ht] at hP1
            have hK1 := va_K.moved hvm.symm hK1
            try dsimp only at e_7
            obtain ⟨hP, hD⟩ := va_join (wr := [(b 31, .inl (cI, 12, .inl dn)), (b 49, .inl (cI, 7, .inl pb))]) (w1 := [(b 0, .inr (8, [.ref (b 1), .int (nI mt), .int (gg 2), .int (gg 3), .int (gg 4), .int (gg 5), .int (gg 6), .int (gg 7), .int (gg 8), .int (gg 9), .ref (b 11), .ref (b 12), .ref (b 13), .int (nI mc), .int (nI mh), .ref (b 16), .ref (b 17), .ref (b 18), .ref (b 19), .ref (b 20), .ref (b 21), .ref (b 22), .ref (b 23), .ref (b 24), .int (nI mf), .ref (b 26), .ref (b 27), .ref (b 28), .ref (b 29), .ref (b 30), .ref (b 31), .ref (b 32), .int (gg 32), .int (nI md), .ref (b 35), .ref (b 36), .ref (b 37), .ref (b 38), .ref (b 39), .ref (b 40), .int (gg 40), .ref (b 42), .ref (b 43), .ref (b 44), .int (nI wt), .ref (b 46), .ref (b 47), .int (nI wt), .ref (b 49)])), (b 28, .inl (cI, 12, .inl nee)), (b 29, .inl (cI, 12, .inl re)), (b 30, .inl (cI, 12, .inl va)), (b 24, .inl (cI, 10, .inl lo)), (b 46, .inl (cI, 7, .inl ob)), (b 47, .inl (cI, 12, .inl le))]) hP hD [0, 1, 2, 3, 4, 5, 6] [7, 8] rfl rfl (by decide) (by decide) hk1 hFc hP1 hD1
            clear hk1 ht hvm
            generalize H1 = H at hP hS ⊢
            obtain ⟨hP, hD⟩ := zz_ty (D := (dC, dI)) (cl := vwCl) (A := A) (H := H) [(b 31, .inl (cI, 12, .inl dn)), (b 49, .inl (cI, 7, .inl pb)), (b 0, .inr (8, [.ref (b 1), .int (nI mt), .int (gg 2), .int (gg 3), .int (gg 4), .int (gg 5), .int (gg 6), .int (gg 7), .int (gg 8), .int (gg 9), .ref (b 11), .ref (b 12), .ref (b 13), .int (nI mc), .int (nI mh), .ref (b 16), .ref (b 17), .ref (b 18), .ref (b 19), .ref (b 20), .ref (b 21), .ref (b 22), .ref (b 23), .ref (b 24), .int (nI mf), .ref (b 26), .ref (b 27), .ref (b 28), .ref (b 29), .ref (b 30), .ref (b 31), .ref (b 32), .int (gg 32), .int (nI md), .ref (b 35), .ref (b 36), .ref (b 37), .ref (b 38), .ref (b 39), .ref (b 40), .int (gg 40), .ref (b 42), .ref (b 43), .ref (b 44), .int (nI wt), .ref (b 46), .ref (b 47), .int (nI wt), .ref (b 49)])), (b 28, .inl (cI, 12, .inl nee)), (b 29, .inl (cI, 12, .inl re)), (b 30, .inl (cI, 12, .inl va)), (b 24, .inl (cI, 10, .inl lo)), (b 46, .inl (cI, 7, .inl ob)), (b 47, .inl (cI, 12, .inl le))] hP hD rfl
            refine lv_topi (fun r5 er5 => ?_)
            have hr5 := e_7
            rw [← er5] at hr5
            refine lv_istore (lv' := [(5, .int r5), (0, .ref (b 0)), (1, .int p0), (2, .int (nI y)), (3, .int bs), (4, .int mv)]) hx hb dX8_plan_128 hl (by decide) rfl (fun ls hl => ?_)
            refine lv_iload_n hx hb dX8_plan_130 rfl (lv_at hl 4 rfl) ?_
            refine lv_if_lt (tgt := 140) hx hb dX8_plan_131 (by decide) (fun c_8 => ?_) (fun c_8 => ?_)
            · have zc_8 := c_8
              rw [Int32.lt_iff_toInt_lt] at zc_8
              try rw [show (0 : Int32).toInt = 0 from by decide] at zc_8
              refine lv_iload hx hb dX8_plan_140 (lv_at hl 0 rfl) ?_
              refine lv_istore_n (lv' := [(3, .int r5), (5, .int r5), (0, .ref (b 0)), (1, .int p0), (2, .int (nI y)), (4, .int mv)]) hx hb dX8_plan_142 rfl hl (by decide) rfl (fun ls hl => ?_)
              refine lv_iconst (v := 0) hx hb dX8_plan_143 (by decide) ?_
              refine lv_istore (lv' := [(6, .int 0), (3, .int r5), (5, .int r5), (0, .ref (b 0)), (1, .int p0), (2, .int (nI y)), (4, .int mv)]) hx hb dX8_plan_144 hl (by decide) rfl (fun ls hl => ?_)
              refine zz_loopS (fun (u : (Nat) × (Nat → Int32)) => match u with | (k, pc2) => [(b 0, .inr (8, [.ref (b 1), .int (nI mt), .int (gg 2), .int (gg 3), .int (gg 4), .int (gg 5), .int (gg 6), .int (gg 7), .int (gg 8), .int (gg 9), .ref (b 11), .ref (b 12), .ref (b 13), .int (nI mc), .int (nI mh), .ref (b 16), .ref (b 17), .ref (b 18), .ref (b 19), .ref (b 20), .ref (b 21), .ref (b 22), .ref (b 23), .ref (b 24), .int (nI mf), .ref (b 26), .ref (b 27), .ref (b 28), .ref (b 29), .ref (b 30), .ref (b 31), .ref (b 32), .int (gg 32), .int (nI md), .ref (b 35), .ref (b 36), .ref (b 37), .ref (b 38), .ref (b 39), .ref (b 40), .int (gg 40), .ref (b 42), .ref (b 43), .ref (b 44), .int (nI wt), .ref (b 46), .ref (b 47), .int (nI wt), .ref (b 49)])), (b 28, .inl (cI, 12, .inl nee)), (b 29, .inl (cI, 12, .inl re)), (b 30, .inl (cI, 12, .inl va)), (b 24, .inl (cI, 10, .inl lo)), (b 46, .inl (cI, 7, .inl ob)), (b 47, .inl (cI, 12, .inl le)), (b 31, .inl (cI, 12, .inl dn)), (b 49, .inl (cI, 7, .inl pc2))]) (fun (u : (Nat) × (Nat → Int32)) => match u with | (k, pc2) => [(0, .ref (b 0)), (1, .int p0), (2, .int (nI y)), (3, .int r5), (4, .int mv), (5, .int r5), (6, .int (nI k))]) (fun (u : (Nat) × (Nat → Int32)) => match u with | (k, pc2) => k ≤ wt ∧ ∀ j9 : Nat, j9 < k → pc2 j9 = ob j9) (fun (u : (Nat) × (Nat → Int32)) => match u with | (k, pc2) => wt - k) (fun u hI H locs ls hP hD hS hl ih_146 => ?_) (0, pb) ⟨by omega, fun j9 h9 => absurd h9 (Nat.not_lt_zero _)⟩ _ _ _ (hP.sub [2, 3, 4, 5, 6, 7, 8, 0, 1] rfl) (hD.sub [2, 3, 4, 5, 6, 7, 8, 0, 1] (by decide) rfl) hS (lv_sub hl [3, 4, 5, 1, 6, 2, 0] rfl)
              obtain ⟨k, pc2⟩ := u
              obtain ⟨hP, hD⟩ := zz_ty (D := (dC, dI)) (cl := vwCl) (A := A) (H := H) [(b 0, .inr (8, [.ref (b 1), .int (nI mt), .int (gg 2), .int (gg 3), .int (gg 4), .int (gg 5), .int (gg 6), .int (gg 7), .int (gg 8), .int (gg 9), .ref (b 11), .ref (b 12), .ref (b 13), .int (nI mc), .int (nI mh), .ref (b 16), .ref (b 17), .ref (b 18), .ref (b 19), .ref (b 20), .ref (b 21), .ref (b 22), .ref (b 23), .ref (b 24), .int (nI mf), .ref (b 26), .ref (b 27), .ref (b 28), .ref (b 29), .ref (b 30), .ref (b 31), .ref (b 32), .int (gg 32), .int (nI md), .ref (b 35), .ref (b 36), .ref (b 37), .ref (b 38), .ref (b 39), .ref (b 40), .int (gg 40), .ref (b 42), .ref (b 43), .ref (b 44), .int (nI wt), .ref (b 46), .ref (b 47), .int (nI wt), .ref (b 49)])), (b 28, .inl (cI, 12, .inl nee)), (b 29, .inl (cI, 12, .inl re)), (b 30, .inl (cI, 12, .inl va)), (b 24, .inl (cI, 10, .inl lo)), (b 46, .inl (cI, 7, .inl ob)), (b 47, .inl (cI, 12, .inl le)), (b 31, .inl (cI, 12, .inl dn)), (b 49, .inl (cI, 7, .inl pc2))] hP hD rfl
              have hl : lv_has ls 7 [(0, .ref (b 0)), (1, .int p0), (2, .int (nI y)), (3, .int r5), (4, .int mv), (5, .int r5), (6, .int (nI k))] := hl
              have hI : k ≤ wt ∧ ∀ j9 : Nat, j9 < k → pc2 j9 = ob j9 := hI
              obtain ⟨ik, icp⟩ := hI
              refine lv_iload hx hb dX8_plan_146 (lv_at hl 6 rfl) ?_
              refine lv_aload_n hx hb dX8_plan_148 rfl (lv_at hl 0 rfl) ?_
              refine va_get (D := (dC, dI)) (ci := 8) (v := .int (nI wt)) (C := RX8) (T := TX8) (N := 49) hx hb hw zz_inX8 hown hK hP 0 rfl rfl 44 (by decide) (hw _ tw_445) (fun _ h9 => h9) rfl dX8_plan_149 ?_
              refine lv_icmp_ge (tgt := 175) hx hb dX8_plan_152 (by decide) (fun c_9 => ?_) (fun c_9 => ?_)
              · have zc_9 := c_9
                rw [Int32.le_iff_toInt_le] at zc_9
                try rw [zz_toInt k (by omega)] at zc_9
                try rw [zz_toInt wt (by omega)] at zc_9
                refine lv_aload_n hx hb dX8_plan_175 rfl (lv_at hl 0 rfl) ?_
                obtain ⟨hPc, hDc⟩ := zz_sub2 (ws' := [(b 0, .inr (8, [.ref (b 1), .int (nI mt), .int (gg 2), .int (gg 3), .int (gg 4), .int (gg 5), .int (gg 6), .int (gg 7), .int (gg 8), .int (gg 9), .ref (b 11), .ref (b 12), .ref (b 13), .int (nI mc), .int (nI mh), .ref (b 16), .ref (b 17), .ref (b 18), .ref (b 19), .ref (b 20), .ref (b 21), .ref (b 22), .ref (b 23), .ref (b 24), .int (nI mf), .ref (b 26), .ref (b 27), .ref (b 28), .ref (b 29), .ref (b 30), .ref (b 31), .ref (b 32), .int (gg 32), .int (nI md), .ref (b 35), .ref (b 36), .ref (b 37), .ref (b 38), .ref (b 39), .ref (b 40), .int (gg 40), .ref (b 42), .ref (b 43), .ref (b 44), .int (nI wt), .ref (b 46), .ref (b 47), .int (nI wt), .ref (b 49)])), (b 46, .inl (cI, 7, .inl ob))]) hP hD [0, 5] (by decide) rfl
                have hKc := hK.sub (tys' := [(cI, .int)]) [0] rfl
                have hFc := zz_free1 hDc hS hA
                refine va_calli (va_runV (As := []) (rest := []) ⟨hx, hb, hml, hown, hw⟩ (mx_nextOrder l dC dI b gg mt mc mh mf md wt (nI wt) cI ob (fun q => q < mf ∧ 1 ≤ (nee q).toInt) H.size (by omega) ior.1 ior.2) ⟨callB_of 0 hw (zz_good tw_457) rfl rfl rfl (hw _ tw_184) (hw _ tw_458) (by decide +kernel) ⟨Nat.le_of_ble_eq_true rfl, Nat.le_of_ble_eq_true rfl⟩, (hw _ tw_459), (hw _ tw_460)⟩ ⟨zz_blind, va_recv hKc hPc (ci := 8) (q0 := 0) rfl rfl, zz_pre hPc hKc hDc hN⟩ rfl rfl hl.1 rfl (lv_room (Nat.le_of_ble_eq_true rfl)) dX8_plan_176 ⟨Nat.le_of_ble_eq_true rfl, Nat.le_of_ble_eq_true rfl⟩) hS (fun q _ h => hFc q h) hFc (fun r_10 u_10 t H1 locs ht hvm e_10 hB hz1 hk1 hS => ?_)
                try dsimp only at e_10
                obtain ⟨oe, rfl⟩ : ∃ z, z = u_10 := ⟨_, rfl⟩
                obtain ⟨hP1, hK1, hD1⟩ := hB
                rw [ht] at hP1
                have hK1 := va_K.moved hvm.symm hK1
                try dsimp only at e_10
                obtain ⟨hP, hD⟩ := va_join (wr := [(b 28, .inl (cI, 12, .inl nee)), (b 29, .inl (cI, 12, .inl re)), (b 30, .inl (cI, 12, .inl va)), (b 24, .inl (cI, 10, .inl lo)), (b 47, .inl (cI, 12, .inl le)), (b 31, .inl (cI, 12, .inl dn)), (b 49, .inl (cI, 7, .inl pc2))]) (w1 := [(b 0, .inr (8, [.ref (b 1), .int (nI mt), .int (gg 2), .int (gg 3), .int (gg 4), .int (gg 5), .int (gg 6), .int (gg 7), .int (gg 8), .int (gg 9), .ref (b 11), .ref (b 12), .ref (b 13), .int (nI mc), .int (nI mh), .ref (b 16), .ref (b 17), .ref (b 18), .ref (b 19), .ref (b 20), .ref (b 21), .ref (b 22), .ref (b 23), .ref (b 24), .int (nI mf), .ref (b 26), .ref (b 27), .ref (b 28), .ref (b 29), .ref (b 30), .ref (b 31), .ref (b 32), .int (gg 32), .int (nI md), .ref (b 35), .ref (b 36), .ref (b 37), .ref (b 38), .ref (b 39), .ref (b 40), .int (gg 40), .ref (b 42), .ref (b 43), .ref (b 44), .int (nI wt), .ref (b 46), .ref (b 47), .int (nI wt), .ref (b 49)])), (b 46, .inl (cI, 7, .inl oe))]) hP hD [0, 5] [1, 2, 3, 4, 6, 7, 8] rfl rfl (by decide) (by decide) hk1 hFc hP1 hD1
                clear hk1 ht hvm
                generalize H1 = H at hP hS ⊢
                obtain ⟨hP, hD⟩ := zz_ty (D := (dC, dI)) (cl := vwCl) (A := A) (H := H) [(b 28, .inl (cI, 12, .inl nee)), (b 29, .inl (cI, 12, .inl re)), (b 30, .inl (cI, 12, .inl va)), (b 24, .inl (cI, 10, .inl lo)), (b 47, .inl (cI, 12, .inl le)), (b 31, .inl (cI, 12, .inl dn)), (b 49, .inl (cI, 7, .inl pc2)), (b 0, .inr (8, [.ref (b 1), .int (nI mt), .int (gg 2), .int (gg 3), .int (gg 4), .int (gg 5), .int (gg 6), .int (gg 7), .int (gg 8), .int (gg 9), .ref (b 11), .ref (b 12), .ref (b 13), .int (nI mc), .int (nI mh), .ref (b 16), .ref (b 17), .ref (b 18), .ref (b 19), .ref (b 20), .ref (b 21), .ref (b 22), .ref (b 23), .ref (b 24), .int (nI mf), .ref (b 26), .ref (b 27), .ref (b 28), .ref (b 29), .ref (b 30), .ref (b 31), .ref (b 32), .int (gg 32), .int (nI md), .ref (b 35), .ref (b 36), .ref (b 37), .ref (b 38), .ref (b 39), .ref (b 40), .int (gg 40), .ref (b 42), .ref (b 43), .ref (b 44), .int (nI wt), .ref (b 46), .ref (b 47), .int (nI wt), .ref (b 49)])), (b 46, .inl (cI, 7, .inl oe))] hP hD rfl
                obtain ⟨no1_e_10, no2_e_10⟩ := e_10
                refine lv_istore (lv' := [(4, .int r_10), (0, .ref (b 0)), (1, .int p0), (2, .int (nI y)), (3, .int r5), (5, .int r5), (6, .int (nI k))]) hx hb dX8_plan_179 hl (by decide) rfl (fun ls hl => ?_)
                refine lv_goto (tgt := 118) hx hb dX8_plan_181 (by decide) ?_
                exact ih_118 (r5, r_10, oe, le, pc2) ⟨no2_e_10.imp (fun h9 => h9.1) (fun h9 => h9.1), no1_e_10, zz_pst_next (zz_pst_new ist c_6 ior hr5 (Or.inl (by omega)) (fun k9 h9 => icp k9 (by omega))) no2_e_10⟩ (zz_pmu (zz_lx_7 ior.1 hwt) c_6 (no2_e_10.imp (fun h9 => h9.1) (fun h9 => ⟨h9.1, h9.2.1⟩))) _ _ _ (hP.sub [7, 0, 1, 2, 3, 8, 4, 5, 6] rfl) (hD.sub [7, 0, 1, 2, 3, 8, 4, 5, 6] (by decide) rfl) hS (lv_sub hl [1, 2, 3, 4, 0] rfl)
              · have zc_9 := c_9
                rw [Int32.le_iff_toInt_le] at zc_9
                try rw [zz_toInt k (by omega)] at zc_9
                try rw [zz_toInt wt (by omega)] at zc_9
                refine lv_aload_n hx hb dX8_plan_155 rfl (lv_at hl 0 rfl) ?_
                refine va_get (D := (dC, dI)) (ci := 8) (v := .ref (b 49)) (C := RX8) (T := TX8) (N := 49) hx hb hw zz_inX8 hown hK hP 0 rfl rfl 48 (by decide) (hw _ tw_461) (fun _ h9 => h9) rfl dX8_plan_156 ?_
                refine lv_iload hx hb dX8_plan_159 (lv_at hl 6 rfl) ?_
                refine lv_aload_n hx hb dX8_plan_161 rfl (lv_at hl 0 rfl) ?_
                refine va_get (D := (dC, dI)) (ci := 8) (v := .ref (b 46)) (C := RX8) (T := TX8) (N := 49) hx hb hw zz_inX8 hown hK hP 0 rfl rfl 45 (by decide) (hw _ tw_444) (fun _ h9 => h9) rfl dX8_plan_162 ?_
                refine lv_iload hx hb dX8_plan_165 (lv_at hl 6 rfl) ?_
                refine va_iald hx hb hK hP 5 0 rfl rfl (vp_in_iff.mpr (by rw [zz_toInt k (by omega)]; constructor <;> omega)) dX8_plan_167 ?_
                refine zz_seti (ob k) (congrArg ob (zz_cl (by omega))) ?_
                refine va_iast hx hb hK hP hD hS 8 0 rfl rfl (vp_in_iff.mpr (by rw [zz_toInt k (by omega)]; constructor <;> omega)) dX8_plan_168 (fun H locs hP hD hS => ?_)
                obtain ⟨hP, hD⟩ := zz_ty (D := (dC, dI)) (cl := vwCl) (A := A) (H := H) [(b 0, .inr (8, [.ref (b 1), .int (nI mt), .int (gg 2), .int (gg 3), .int (gg 4), .int (gg 5), .int (gg 6), .int (gg 7), .int (gg 8), .int (gg 9), .ref (b 11), .ref (b 12), .ref (b 13), .int (nI mc), .int (nI mh), .ref (b 16), .ref (b 17), .ref (b 18), .ref (b 19), .ref (b 20), .ref (b 21), .ref (b 22), .ref (b 23), .ref (b 24), .int (nI mf), .ref (b 26), .ref (b 27), .ref (b 28), .ref (b 29), .ref (b 30), .ref (b 31), .ref (b 32), .int (gg 32), .int (nI md), .ref (b 35), .ref (b 36), .ref (b 37), .ref (b 38), .ref (b 39), .ref (b 40), .int (gg 40), .ref (b 42), .ref (b 43), .ref (b 44), .int (nI wt), .ref (b 46), .ref (b 47), .int (nI wt), .ref (b 49)])), (b 28, .inl (cI, 12, .inl nee)), (b 29, .inl (cI, 12, .inl re)), (b 30, .inl (cI, 12, .inl va)), (b 24, .inl (cI, 10, .inl lo)), (b 46, .inl (cI, 7, .inl ob)), (b 47, .inl (cI, 12, .inl le)), (b 31, .inl (cI, 12, .inl dn)), (b 49, .inl (cI, 7, .inl (upd pc2 (Int32.toNatClampNeg (nI k)) (ob k))))] hP hD rfl
                refine lv_iinc (v := (nI (k + 1))) (lv' := [(6, .int (nI (k + 1))), (0, .ref (b 0)), (1, .int p0), (2, .int (nI y)), (3, .int r5), (4, .int mv), (5, .int r5)]) hx hb dX8_plan_169 hl (k := 6) rfl (nI_1 _) (by decide) rfl (fun ls hl => ?_)
                refine lv_goto (tgt := 146) hx hb dX8_plan_172 (by decide) ?_
                exact ih_146 ((k + 1), (upd pc2 (Int32.toNatClampNeg (nI k)) (ob k))) ⟨by omega, zz_pcp icp (by omega)⟩ (show wt - (k + 1) < wt - k from by omega) _ _ _ (hP.sub [0, 1, 2, 3, 4, 5, 6, 7, 8] rfl) (hD.sub [0, 1, 2, 3, 4, 5, 6, 7, 8] (by decide) rfl) hS (lv_sub hl [1, 2, 3, 4, 5, 6, 0] rfl)
            · have zc_8 := c_8
              rw [Int32.lt_iff_toInt_lt] at zc_8
              try rw [show (0 : Int32).toInt = 0 from by decide] at zc_8
              refine lv_iload hx hb dX8_plan_134 (lv_at hl 0 rfl) ?_
              refine lv_iload_n hx hb dX8_plan_136 rfl (lv_at hl 4 rfl) ?_
              refine lv_icmp_ge (tgt := 175) hx hb dX8_plan_137 (by decide) (fun c_11 => ?_) (fun c_11 => ?_)
              · have zc_11 := c_11
                rw [Int32.le_iff_toInt_le] at zc_11
                refine lv_aload_n hx hb dX8_plan_175 rfl (lv_at hl 1 rfl) ?_
                obtain ⟨hPc, hDc⟩ := zz_sub2 (ws' := [(b 0, .inr (8, [.ref (b 1), .int (nI mt), .int (gg 2), .int (gg 3), .int (gg 4), .int (gg 5), .int (gg 6), .int (gg 7), .int (gg 8), .int (gg 9), .ref (b 11), .ref (b 12), .ref (b 13), .int (nI mc), .int (nI mh), .ref (b 16), .ref (b 17), .ref (b 18), .ref (b 19), .ref (b 20), .ref (b 21), .ref (b 22), .ref (b 23), .ref (b 24), .int (nI mf), .ref (b 26), .ref (b 27), .ref (b 28), .ref (b 29), .ref (b 30), .ref (b 31), .ref (b 32), .int (gg 32), .int (nI md), .ref (b 35), .ref (b 36), .ref (b 37), .ref (b 38), .ref (b 39), .ref (b 40), .int (gg 40), .ref (b 42), .ref (b 43), .ref (b 44), .int (nI wt), .ref (b 46), .ref (b 47), .int (nI wt), .ref (b 49)])), (b 46, .inl (cI, 7, .inl ob))]) hP hD [2, 7] (by decide) rfl
                have hKc := hK.sub (tys' := [(cI, .int)]) [0] rfl
                have hFc := zz_free1 hDc hS hA
                refine va_calli (va_runV (As := []) (rest := []) ⟨hx, hb, hml, hown, hw⟩ (mx_nextOrder l dC dI b gg mt mc mh mf md wt (nI wt) cI ob (fun q => q < mf ∧ 1 ≤ (nee q).toInt) H.size (by omega) ior.1 ior.2) ⟨callB_of 0 hw (zz_good tw_457) rfl rfl rfl (hw _ tw_184) (hw _ tw_458) (by decide +kernel) ⟨Nat.le_of_ble_eq_true rfl, Nat.le_of_ble_eq_true rfl⟩, (hw _ tw_459), (hw _ tw_460)⟩ ⟨zz_blind, va_recv hKc hPc (ci := 8) (q0 := 0) rfl rfl, zz_pre hPc hKc hDc hN⟩ rfl rfl hl.1 rfl (lv_room (Nat.le_of_ble_eq_true rfl)) dX8_plan_176 ⟨Nat.le_of_ble_eq_true rfl, Nat.le_of_ble_eq_true rfl⟩) hS (fun q _ h => hFc q h) hFc (fun r_12 u_12 t H1 locs ht hvm e_12 hB hz1 hk1 hS => ?_)
                try dsimp only at e_12
                obtain ⟨oe, rfl⟩ : ∃ z, z = u_12 := ⟨_, rfl⟩
                obtain ⟨hP1, hK1, hD1⟩ := hB
                rw [ht] at hP1
                have hK1 := va_K.moved hvm.symm hK1
                try dsimp only at e_12
                obtain ⟨hP, hD⟩ := va_join (wr := [(b 31, .inl (cI, 12, .inl dn)), (b 49, .inl (cI, 7, .inl pb)), (b 28, .inl (cI, 12, .inl nee)), (b 29, .inl (cI, 12, .inl re)), (b 30, .inl (cI, 12, .inl va)), (b 24, .inl (cI, 10, .inl lo)), (b 47, .inl (cI, 12, .inl le))]) (w1 := [(b 0, .inr (8, [.ref (b 1), .int (nI mt), .int (gg 2), .int (gg 3), .int (gg 4), .int (gg 5), .int (gg 6), .int (gg 7), .int (gg 8), .int (gg 9), .ref (b 11), .ref (b 12), .ref (b 13), .int (nI mc), .int (nI mh), .ref (b 16), .ref (b 17), .ref (b 18), .ref (b 19), .ref (b 20), .ref (b 21), .ref (b 22), .ref (b 23), .ref (b 24), .int (nI mf), .ref (b 26), .ref (b 27), .ref (b 28), .ref (b 29), .ref (b 30), .ref (b 31), .ref (b 32), .int (gg 32), .int (nI md), .ref (b 35), .ref (b 36), .ref (b 37), .ref (b 38), .ref (b 39), .ref (b 40), .int (gg 40), .ref (b 42), .ref (b 43), .ref (b 44), .int (nI wt), .ref (b 46), .ref (b 47), .int (nI wt), .ref (b 49)])), (b 46, .inl (cI, 7, .inl oe))]) hP hD [2, 7] [0, 1, 3, 4, 5, 6, 8] rfl rfl (by decide) (by decide) hk1 hFc hP1 hD1
                clear hk1 ht hvm
                generalize H1 = H at hP hS ⊢
                obtain ⟨hP, hD⟩ := zz_ty (D := (dC, dI)) (cl := vwCl) (A := A) (H := H) [(b 31, .inl (cI, 12, .inl dn)), (b 49, .inl (cI, 7, .inl pb)), (b 28, .inl (cI, 12, .inl nee)), (b 29, .inl (cI, 12, .inl re)), (b 30, .inl (cI, 12, .inl va)), (b 24, .inl (cI, 10, .inl lo)), (b 47, .inl (cI, 12, .inl le)), (b 0, .inr (8, [.ref (b 1), .int (nI mt), .int (gg 2), .int (gg 3), .int (gg 4), .int (gg 5), .int (gg 6), .int (gg 7), .int (gg 8), .int (gg 9), .ref (b 11), .ref (b 12), .ref (b 13), .int (nI mc), .int (nI mh), .ref (b 16), .ref (b 17), .ref (b 18), .ref (b 19), .ref (b 20), .ref (b 21), .ref (b 22), .ref (b 23), .ref (b 24), .int (nI mf), .ref (b 26), .ref (b 27), .ref (b 28), .ref (b 29), .ref (b 30), .ref (b 31), .ref (b 32), .int (gg 32), .int (nI md), .ref (b 35), .ref (b 36), .ref (b 37), .ref (b 38), .ref (b 39), .ref (b 40), .int (gg 40), .ref (b 42), .ref (b 43), .ref (b 44), .int (nI wt), .ref (b 46), .ref (b 47), .int (nI wt), .ref (b 49)])), (b 46, .inl (cI, 7, .inl oe))] hP hD rfl
                obtain ⟨no1_e_12, no2_e_12⟩ := e_12
                refine lv_istore (lv' := [(4, .int r_12), (5, .int r5), (0, .ref (b 0)), (1, .int p0), (2, .int (nI y)), (3, .int bs)]) hx hb dX8_plan_179 hl (by decide) rfl (fun ls hl => ?_)
                refine lv_goto (tgt := 118) hx hb dX8_plan_181 (by decide) ?_
                exact ih_118 (bs, r_12, oe, le, pb) ⟨no2_e_12.imp (fun h9 => h9.1) (fun h9 => h9.1), no1_e_12, zz_pst_next (zz_pst_old ist c_6 ior hr5 (by omega) (by omega)) no2_e_12⟩ (zz_pmu (zz_lx_7 ior.1 hwt) c_6 (no2_e_12.imp (fun h9 => h9.1) (fun h9 => ⟨h9.1, h9.2.1⟩))) _ _ _ (hP.sub [7, 2, 3, 4, 5, 8, 6, 0, 1] rfl) (hD.sub [7, 2, 3, 4, 5, 8, 6, 0, 1] (by decide) rfl) hS (lv_sub hl [2, 3, 4, 5, 0] rfl)
              · have zc_11 := c_11
                rw [Int32.le_iff_toInt_le] at zc_11
                refine lv_iload hx hb dX8_plan_140 (lv_at hl 0 rfl) ?_
                refine lv_istore_n (lv' := [(3, .int r5), (5, .int r5), (0, .ref (b 0)), (1, .int p0), (2, .int (nI y)), (4, .int mv)]) hx hb dX8_plan_142 rfl hl (by decide) rfl (fun ls hl => ?_)
                refine lv_iconst (v := 0) hx hb dX8_plan_143 (by decide) ?_
                refine lv_istore (lv' := [(6, .int 0), (3, .int r5), (5, .int r5), (0, .ref (b 0)), (1, .int p0), (2, .int (nI y)), (4, .int mv)]) hx hb dX8_plan_144 hl (by decide) rfl (fun ls hl => ?_)
                refine zz_loopS (fun (u : (Nat) × (Nat → Int32)) => match u with | (k, pc2) => [(b 0, .inr (8, [.ref (b 1), .int (nI mt), .int (gg 2), .int (gg 3), .int (gg 4), .int (gg 5), .int (gg 6), .int (gg 7), .int (gg 8), .int (gg 9), .ref (b 11), .ref (b 12), .ref (b 13), .int (nI mc), .int (nI mh), .ref (b 16), .ref (b 17), .ref (b 18), .ref (b 19), .ref (b 20), .ref (b 21), .ref (b 22), .ref (b 23), .ref (b 24), .int (nI mf), .ref (b 26), .ref (b 27), .ref (b 28), .ref (b 29), .ref (b 30), .ref (b 31), .ref (b 32), .int (gg 32), .int (nI md), .ref (b 35), .ref (b 36), .ref (b 37), .ref (b 38), .ref (b 39), .ref (b 40), .int (gg 40), .ref (b 42), .ref (b 43), .ref (b 44), .int (nI wt), .ref (b 46), .ref (b 47), .int (nI wt), .ref (b 49)])), (b 28, .inl (cI, 12, .inl nee)), (b 29, .inl (cI, 12, .inl re)), (b 30, .inl (cI, 12, .inl va)), (b 24, .inl (cI, 10, .inl lo)), (b 46, .inl (cI, 7, .inl ob)), (b 47, .inl (cI, 12, .inl le)), (b 31, .inl (cI, 12, .inl dn)), (b 49, .inl (cI, 7, .inl pc2))]) (fun (u : (Nat) × (Nat → Int32)) => match u with | (k, pc2) => [(0, .ref (b 0)), (1, .int p0), (2, .int (nI y)), (3, .int r5), (4, .int mv), (5, .int r5), (6, .int (nI k))]) (fun (u : (Nat) × (Nat → Int32)) => match u with | (k, pc2) => k ≤ wt ∧ ∀ j9 : Nat, j9 < k → pc2 j9 = ob j9) (fun (u : (Nat) × (Nat → Int32)) => match u with | (k, pc2) => wt - k) (fun u hI H locs ls hP hD hS hl ih_146 => ?_) (0, pb) ⟨by omega, fun j9 h9 => absurd h9 (Nat.not_lt_zero _)⟩ _ _ _ (hP.sub [2, 3, 4, 5, 6, 7, 8, 0, 1] rfl) (hD.sub [2, 3, 4, 5, 6, 7, 8, 0, 1] (by decide) rfl) hS (lv_sub hl [3, 4, 5, 1, 6, 2, 0] rfl)
                obtain ⟨k, pc2⟩ := u
                obtain ⟨hP, hD⟩ := zz_ty (D := (dC, dI)) (cl := vwCl) (A := A) (H := H) [(b 0, .inr (8, [.ref (b 1), .int (nI mt), .int (gg 2), .int (gg 3), .int (gg 4), .int (gg 5), .int (gg 6), .int (gg 7), .int (gg 8), .int (gg 9), .ref (b 11), .ref (b 12), .ref (b 13), .int (nI mc), .int (nI mh), .ref (b 16), .ref (b 17), .ref (b 18), .ref (b 19), .ref (b 20), .ref (b 21), .ref (b 22), .ref (b 23), .ref (b 24), .int (nI mf), .ref (b 26), .ref (b 27), .ref (b 28), .ref (b 29), .ref (b 30), .ref (b 31), .ref (b 32), .int (gg 32), .int (nI md), .ref (b 35), .ref (b 36), .ref (b 37), .ref (b 38), .ref (b 39), .ref (b 40), .int (gg 40), .ref (b 42), .ref (b 43), .ref (b 44), .int (nI wt), .ref (b 46), .ref (b 47), .int (nI wt), .ref (b 49)])), (b 28, .inl (cI, 12, .inl nee)), (b 29, .inl (cI, 12, .inl re)), (b 30, .inl (cI, 12, .inl va)), (b 24, .inl (cI, 10, .inl lo)), (b 46, .inl (cI, 7, .inl ob)), (b 47, .inl (cI, 12, .inl le)), (b 31, .inl (cI, 12, .inl dn)), (b 49, .inl (cI, 7, .inl pc2))] hP hD rfl
                have hl : lv_has ls 7 [(0, .ref (b 0)), (1, .int p0), (2, .int (nI y)), (3, .int r5), (4, .int mv), (5, .int r5), (6, .int (nI k))] := hl
                have hI : k ≤ wt ∧ ∀ j9 : Nat, j9 < k → pc2 j9 = ob j9 := hI
                obtain ⟨ik, icp⟩ := hI
                refine lv_iload hx hb dX8_plan_146 (lv_at hl 6 rfl) ?_
                refine lv_aload_n hx hb dX8_plan_148 rfl (lv_at hl 0 rfl) ?_
                refine va_get (D := (dC, dI)) (ci := 8) (v := .int (nI wt)) (C := RX8) (T := TX8) (N := 49) hx hb hw zz_inX8 hown hK hP 0 rfl rfl 44 (by decide) (hw _ tw_445) (fun _ h9 => h9) rfl dX8_plan_149 ?_
                refine lv_icmp_ge (tgt := 175) hx hb dX8_plan_152 (by decide) (fun c_13 => ?_) (fun c_13 => ?_)
                · have zc_13 := c_13
                  rw [Int32.le_iff_toInt_le] at zc_13
                  try rw [zz_toInt k (by omega)] at zc_13
                  try rw [zz_toInt wt (by omega)] at zc_13
                  refine lv_aload_n hx hb dX8_plan_175 rfl (lv_at hl 0 rfl) ?_
                  obtain ⟨hPc, hDc⟩ := zz_sub2 (ws' := [(b 0, .inr (8, [.ref (b 1), .int (nI mt), .int (gg 2), .int (gg 3), .int (gg 4), .int (gg 5), .int (gg 6), .int (gg 7), .int (gg 8), .int (gg 9), .ref (b 11), .ref (b 12), .ref (b 13), .int (nI mc), .int (nI mh), .ref (b 16), .ref (b 17), .ref (b 18), .ref (b 19), .ref (b 20), .ref (b 21), .ref (b 22), .ref (b 23), .ref (b 24), .int (nI mf), .ref (b 26), .ref (b 27), .ref (b 28), .ref (b 29), .ref (b 30), .ref (b 31), .ref (b 32), .int (gg 32), .int (nI md), .ref (b 35), .ref (b 36), .ref (b 37), .ref (b 38), .ref (b 39), .ref (b 40), .int (gg 40), .ref (b 42), .ref (b 43), .ref (b 44), .int (nI wt), .ref (b 46), .ref (b 47), .int (nI wt), .ref (b 49)])), (b 46, .inl (cI, 7, .inl ob))]) hP hD [0, 5] (by decide) rfl
                  have hKc := hK.sub (tys' := [(cI, .int)]) [0] rfl
                  have hFc := zz_free1 hDc hS hA
                  refine va_calli (va_runV (As := []) (rest := []) ⟨hx, hb, hml, hown, hw⟩ (mx_nextOrder l dC dI b gg mt mc mh mf md wt (nI wt) cI ob (fun q => q < mf ∧ 1 ≤ (nee q).toInt) H.size (by omega) ior.1 ior.2) ⟨callB_of 0 hw (zz_good tw_457) rfl rfl rfl (hw _ tw_184) (hw _ tw_458) (by decide +kernel) ⟨Nat.le_of_ble_eq_true rfl, Nat.le_of_ble_eq_true rfl⟩, (hw _ tw_459), (hw _ tw_460)⟩ ⟨zz_blind, va_recv hKc hPc (ci := 8) (q0 := 0) rfl rfl, zz_pre hPc hKc hDc hN⟩ rfl rfl hl.1 rfl (lv_room (Nat.le_of_ble_eq_true rfl)) dX8_plan_176 ⟨Nat.le_of_ble_eq_true rfl, Nat.le_of_ble_eq_true rfl⟩) hS (fun q _ h => hFc q h) hFc (fun r_14 u_14 t H1 locs ht hvm e_14 hB hz1 hk1 hS => ?_)
                  try dsimp only at e_14
                  obtain ⟨oe, rfl⟩ : ∃ z, z = u_14 := ⟨_, rfl⟩
                  obtain ⟨hP1, hK1, hD1⟩ := hB
                  rw [ht] at hP1
                  have hK1 := va_K.moved hvm.symm hK1
                  try dsimp only at e_14
                  obtain ⟨hP, hD⟩ := va_join (wr := [(b 28, .inl (cI, 12, .inl nee)), (b 29, .inl (cI, 12, .inl re)), (b 30, .inl (cI, 12, .inl va)), (b 24, .inl (cI, 10, .inl lo)), (b 47, .inl (cI, 12, .inl le)), (b 31, .inl (cI, 12, .inl dn)), (b 49, .inl (cI, 7, .inl pc2))]) (w1 := [(b 0, .inr (8, [.ref (b 1), .int (nI mt), .int (gg 2), .int (gg 3), .int (gg 4), .int (gg 5), .int (gg 6), .int (gg 7), .int (gg 8), .int (gg 9), .ref (b 11), .ref (b 12), .ref (b 13), .int (nI mc), .int (nI mh), .ref (b 16), .ref (b 17), .ref (b 18), .ref (b 19), .ref (b 20), .ref (b 21), .ref (b 22), .ref (b 23), .ref (b 24), .int (nI mf), .ref (b 26), .ref (b 27), .ref (b 28), .ref (b 29), .ref (b 30), .ref (b 31), .ref (b 32), .int (gg 32), .int (nI md), .ref (b 35), .ref (b 36), .ref (b 37), .ref (b 38), .ref (b 39), .ref (b 40), .int (gg 40), .ref (b 42), .ref (b 43), .ref (b 44), .int (nI wt), .ref (b 46), .ref (b 47), .int (nI wt), .ref (b 49)])), (b 46, .inl (cI, 7, .inl oe))]) hP hD [0, 5] [1, 2, 3, 4, 6, 7, 8] rfl rfl (by decide) (by decide) hk1 hFc hP1 hD1
                  clear hk1 ht hvm
                  generalize H1 = H at hP hS ⊢
                  obtain ⟨hP, hD⟩ := zz_ty (D := (dC, dI)) (cl := vwCl) (A := A) (H := H) [(b 28, .inl (cI, 12, .inl nee)), (b 29, .inl (cI, 12, .inl re)), (b 30, .inl (cI, 12, .inl va)), (b 24, .inl (cI, 10, .inl lo)), (b 47, .inl (cI, 12, .inl le)), (b 31, .inl (cI, 12, .inl dn)), (b 49, .inl (cI, 7, .inl pc2)), (b 0, .inr (8, [.ref (b 1), .int (nI mt), .int (gg 2), .int (gg 3), .int (gg 4), .int (gg 5), .int (gg 6), .int (gg 7), .int (gg 8), .int (gg 9), .ref (b 11), .ref (b 12), .ref (b 13), .int (nI mc), .int (nI mh), .ref (b 16), .ref (b 17), .ref (b 18), .ref (b 19), .ref (b 20), .ref (b 21), .ref (b 22), .ref (b 23), .ref (b 24), .int (nI mf), .ref (b 26), .ref (b 27), .ref (b 28), .ref (b 29), .ref (b 30), .ref (b 31), .ref (b 32), .int (gg 32), .int (nI md), .ref (b 35), .ref (b 36), .ref (b 37), .ref (b 38), .ref (b 39), .ref (b 40), .int (gg 40), .ref (b 42), .ref (b 43), .ref (b 44), .int (nI wt), .ref (b 46), .ref (b 47), .int (nI wt), .ref (b 49)])), (b 46, .inl (cI, 7, .inl oe))] hP hD rfl
                  obtain ⟨no1_e_14, no2_e_14⟩ := e_14
                  refine lv_istore (lv' := [(4, .int r_14), (0, .ref (b 0)), (1, .int p0), (2, .int (nI y)), (3, .int r5), (5, .int r5), (6, .int (nI k))]) hx hb dX8_plan_179 hl (by decide) rfl (fun ls hl => ?_)
                  refine lv_goto (tgt := 118) hx hb dX8_plan_181 (by decide) ?_
                  exact ih_118 (r5, r_14, oe, le, pc2) ⟨no2_e_14.imp (fun h9 => h9.1) (fun h9 => h9.1), no1_e_14, zz_pst_next (zz_pst_new ist c_6 ior hr5 (Or.inr (by omega)) (fun k9 h9 => icp k9 (by omega))) no2_e_14⟩ (zz_pmu (zz_lx_7 ior.1 hwt) c_6 (no2_e_14.imp (fun h9 => h9.1) (fun h9 => ⟨h9.1, h9.2.1⟩))) _ _ _ (hP.sub [7, 0, 1, 2, 3, 8, 4, 5, 6] rfl) (hD.sub [7, 0, 1, 2, 3, 8, 4, 5, 6] (by decide) rfl) hS (lv_sub hl [1, 2, 3, 4, 0] rfl)
                · have zc_13 := c_13
                  rw [Int32.le_iff_toInt_le] at zc_13
                  try rw [zz_toInt k (by omega)] at zc_13
                  try rw [zz_toInt wt (by omega)] at zc_13
                  refine lv_aload_n hx hb dX8_plan_155 rfl (lv_at hl 0 rfl) ?_
                  refine va_get (D := (dC, dI)) (ci := 8) (v := .ref (b 49)) (C := RX8) (T := TX8) (N := 49) hx hb hw zz_inX8 hown hK hP 0 rfl rfl 48 (by decide) (hw _ tw_461) (fun _ h9 => h9) rfl dX8_plan_156 ?_
                  refine lv_iload hx hb dX8_plan_159 (lv_at hl 6 rfl) ?_
                  refine lv_aload_n hx hb dX8_plan_161 rfl (lv_at hl 0 rfl) ?_
                  refine va_get (D := (dC, dI)) (ci := 8) (v := .ref (b 46)) (C := RX8) (T := TX8) (N := 49) hx hb hw zz_inX8 hown hK hP 0 rfl rfl 45 (by decide) (hw _ tw_444) (fun _ h9 => h9) rfl dX8_plan_162 ?_
                  refine lv_iload hx hb dX8_plan_165 (lv_at hl 6 rfl) ?_
                  refine va_iald hx hb hK hP 5 0 rfl rfl (vp_in_iff.mpr (by rw [zz_toInt k (by omega)]; constructor <;> omega)) dX8_plan_167 ?_
                  refine zz_seti (ob k) (congrArg ob (zz_cl (by omega))) ?_
                  refine va_iast hx hb hK hP hD hS 8 0 rfl rfl (vp_in_iff.mpr (by rw [zz_toInt k (by omega)]; constructor <;> omega)) dX8_plan_168 (fun H locs hP hD hS => ?_)
                  obtain ⟨hP, hD⟩ := zz_ty (D := (dC, dI)) (cl := vwCl) (A := A) (H := H) [(b 0, .inr (8, [.ref (b 1), .int (nI mt), .int (gg 2), .int (gg 3), .int (gg 4), .int (gg 5), .int (gg 6), .int (gg 7), .int (gg 8), .int (gg 9), .ref (b 11), .ref (b 12), .ref (b 13), .int (nI mc), .int (nI mh), .ref (b 16), .ref (b 17), .ref (b 18), .ref (b 19), .ref (b 20), .ref (b 21), .ref (b 22), .ref (b 23), .ref (b 24), .int (nI mf), .ref (b 26), .ref (b 27), .ref (b 28), .ref (b 29), .ref (b 30), .ref (b 31), .ref (b 32), .int (gg 32), .int (nI md), .ref (b 35), .ref (b 36), .ref (b 37), .ref (b 38), .ref (b 39), .ref (b 40), .int (gg 40), .ref (b 42), .ref (b 43), .ref (b 44), .int (nI wt), .ref (b 46), .ref (b 47), .int (nI wt), .ref (b 49)])), (b 28, .inl (cI, 12, .inl nee)), (b 29, .inl (cI, 12, .inl re)), (b 30, .inl (cI, 12, .inl va)), (b 24, .inl (cI, 10, .inl lo)), (b 46, .inl (cI, 7, .inl ob)), (b 47, .inl (cI, 12, .inl le)), (b 31, .inl (cI, 12, .inl dn)), (b 49, .inl (cI, 7, .inl (upd pc2 (Int32.toNatClampNeg (nI k)) (ob k))))] hP hD rfl
                  refine lv_iinc (v := (nI (k + 1))) (lv' := [(6, .int (nI (k + 1))), (0, .ref (b 0)), (1, .int p0), (2, .int (nI y)), (3, .int r5), (4, .int mv), (5, .int r5)]) hx hb dX8_plan_169 hl (k := 6) rfl (nI_1 _) (by decide) rfl (fun ls hl => ?_)
                  refine lv_goto (tgt := 146) hx hb dX8_plan_172 (by decide) ?_
                  exact ih_146 ((k + 1), (upd pc2 (Int32.toNatClampNeg (nI k)) (ob k))) ⟨by omega, zz_pcp icp (by omega)⟩ (show wt - (k + 1) < wt - k from by omega) _ _ _ (hP.sub [0, 1, 2, 3, 4, 5, 6, 7, 8] rfl) (hD.sub [0, 1, 2, 3, 4, 5, 6, 7, 8] (by decide) rfl) hS (lv_sub hl [1, 2, 3, 4, 5, 6, 0] rfl)
        · have zc_5 := c_5
          rw [Int32.le_iff_toInt_le] at zc_5
          try rw [zz_toInt i (by omega)] at zc_5
          try rw [zz_toInt mf (by omega)] at zc_5
          refine lv_aload_n hx hb dX8_plan_70 rfl (lv_at hl 0 rfl) ?_
          refine va_get (D := (dC, dI)) (ci := 8) (v := .ref (b 31)) (C := RX8) (T := TX8) (N := 49) hx hb hw zz_inX8 hown hK hP 0 rfl rfl 30 (by decide) (hw _ tw_234) (fun _ h9 => h9) rfl dX8_plan_71 ?_
          refine lv_iload_n hx hb dX8_plan_74 rfl (lv_at hl 3 rfl) ?_
          refine va_iald hx hb hK hP 7 0 rfl rfl (vp_in_iff.mpr (by rw [zz_toInt i (by omega)]; constructor <;> omega)) dX8_plan_75 ?_
          refine zz_seti (dn i) (congrArg dn (zz_cl (by omega))) ?_
          refine lv_if_ge (tgt := 99) hx hb dX8_plan_76 (by decide) (fun c_15 => ?_) (fun c_15 => ?_)
          · have zc_15 := c_15
            rw [Int32.le_iff_toInt_le] at zc_15
            try rw [show (0 : Int32).toInt = 0 from by decide] at zc_15
            refine lv_iinc (v := (nI (i + 1))) (lv' := [(3, .int (nI (i + 1))), (0, .ref (b 0)), (1, .int p0), (2, .int (nI y))]) hx hb dX8_plan_99 hl (k := 3) rfl (nI_1 _) (by decide) rfl (fun ls hl => ?_)
            refine lv_goto (tgt := 62) hx hb dX8_plan_102 (by decide) ?_
            exact ih_62 ((i + 1), wt, oc) ⟨by omega, zz_fp_no if1 (by omega)⟩ (show mf - (i + 1) < mf - i from by omega) _ _ _ (hP.sub [0, 1, 2, 3, 4, 5, 6, 7, 8] rfl) (hD.sub [0, 1, 2, 3, 4, 5, 6, 7, 8] (by decide) rfl) hS (lv_sub hl [1, 2, 3, 0] rfl)
          · have zc_15 := c_15
            rw [Int32.le_iff_toInt_le] at zc_15
            try rw [show (0 : Int32).toInt = 0 from by decide] at zc_15
            have hw7 := zz_fo_lt if1.1 (show (dn i).toInt < 0 by omega) (by omega) h7
            refine lv_aload_n hx hb dX8_plan_79 rfl (lv_at hl 0 rfl) ?_
            refine va_get (D := (dC, dI)) (ci := 8) (v := .ref (b 46)) (C := RX8) (T := TX8) (N := 49) hx hb hw zz_inX8 hown hK hP 0 rfl rfl 45 (by decide) (hw _ tw_444) (fun _ h9 => h9) rfl dX8_plan_80 ?_
            refine lv_aload_n hx hb dX8_plan_83 rfl (lv_at hl 0 rfl) ?_
            refine va_get (D := (dC, dI)) (ci := 8) (v := .int (nI wt)) (C := RX8) (T := TX8) (N := 49) hx hb hw zz_inX8 hown hK hP 0 rfl rfl 44 (by decide) (hw _ tw_445) (fun _ h9 => h9) rfl dX8_plan_84 ?_
            refine lv_iload_n hx hb dX8_plan_87 rfl (lv_at hl 3 rfl) ?_
            refine va_iast hx hb hK hP hD hS 5 0 rfl rfl (vp_in_iff.mpr (by rw [zz_toInt wt (by omega)]; constructor <;> omega)) dX8_plan_88 (fun H locs hP hD hS => ?_)
            obtain ⟨hP, hD⟩ := zz_ty (D := (dC, dI)) (cl := vwCl) (A := A) (H := H) [(b 0, .inr (8, [.ref (b 1), .int (nI mt), .int (gg 2), .int (gg 3), .int (gg 4), .int (gg 5), .int (gg 6), .int (gg 7), .int (gg 8), .int (gg 9), .ref (b 11), .ref (b 12), .ref (b 13), .int (nI mc), .int (nI mh), .ref (b 16), .ref (b 17), .ref (b 18), .ref (b 19), .ref (b 20), .ref (b 21), .ref (b 22), .ref (b 23), .ref (b 24), .int (nI mf), .ref (b 26), .ref (b 27), .ref (b 28), .ref (b 29), .ref (b 30), .ref (b 31), .ref (b 32), .int (gg 32), .int (nI md), .ref (b 35), .ref (b 36), .ref (b 37), .ref (b 38), .ref (b 39), .ref (b 40), .int (gg 40), .ref (b 42), .ref (b 43), .ref (b 44), .int (nI wt), .ref (b 46), .ref (b 47), .int (gg 47), .ref (b 49)])), (b 28, .inl (cI, 12, .inl nee)), (b 29, .inl (cI, 12, .inl re)), (b 30, .inl (cI, 12, .inl va)), (b 24, .inl (cI, 10, .inl lo)), (b 46, .inl (cI, 7, .inl (upd oc (Int32.toNatClampNeg (nI wt)) (nI i)))), (b 47, .inl (cI, 12, .inl lk)), (b 31, .inl (cI, 12, .inl dn)), (b 49, .inl (cI, 7, .inl pl))] hP hD rfl
            refine lv_aload_n hx hb dX8_plan_89 rfl (lv_at hl 0 rfl) ?_
            refine lv_dup hx hb dX8_plan_90 rfl ?_
            refine va_get (D := (dC, dI)) (ci := 8) (v := .int (nI wt)) (C := RX8) (T := TX8) (N := 49) hx hb hw zz_inX8 hown hK hP 0 rfl rfl 44 (by decide) (hw _ tw_445) (fun _ h9 => h9) rfl dX8_plan_91 ?_
            refine lv_iconst (v := 1) hx hb dX8_plan_94 (by decide) ?_
            refine lv_iadd hx hb dX8_plan_95 ?_
            refine zz_seti (nI (wt + 1)) (nI_1 _) ?_
            refine va_put (D := (dC, dI)) (ci := 8) (v := .int (nI (wt + 1))) (ty := .int) (C := RX8) (T := TX8) (N := 49) hx hb hw zz_inX8 tyX8 tyX8_ok nmX8 hown hK hP hD hS 0 rfl rfl 44 (by decide) (hw _ tw_445) (fun _ h9 => h9) rfl (by decide +kernel) rfl rfl (Nat.le_of_ble_eq_true rfl) dX8_plan_96 (fun H locs hP hD hS => ?_)
            obtain ⟨hP, hD⟩ := zz_ty (D := (dC, dI)) (cl := vwCl) (A := A) (H := H) [(b 0, .inr (8, [.ref (b 1), .int (nI mt), .int (gg 2), .int (gg 3), .int (gg 4), .int (gg 5), .int (gg 6), .int (gg 7), .int (gg 8), .int (gg 9), .ref (b 11), .ref (b 12), .ref (b 13), .int (nI mc), .int (nI mh), .ref (b 16), .ref (b 17), .ref (b 18), .ref (b 19), .ref (b 20), .ref (b 21), .ref (b 22), .ref (b 23), .ref (b 24), .int (nI mf), .ref (b 26), .ref (b 27), .ref (b 28), .ref (b 29), .ref (b 30), .ref (b 31), .ref (b 32), .int (gg 32), .int (nI md), .ref (b 35), .ref (b 36), .ref (b 37), .ref (b 38), .ref (b 39), .ref (b 40), .int (gg 40), .ref (b 42), .ref (b 43), .ref (b 44), .int (nI (wt + 1)), .ref (b 46), .ref (b 47), .int (gg 47), .ref (b 49)])), (b 28, .inl (cI, 12, .inl nee)), (b 29, .inl (cI, 12, .inl re)), (b 30, .inl (cI, 12, .inl va)), (b 24, .inl (cI, 10, .inl lo)), (b 46, .inl (cI, 7, .inl (upd oc (Int32.toNatClampNeg (nI wt)) (nI i)))), (b 47, .inl (cI, 12, .inl lk)), (b 31, .inl (cI, 12, .inl dn)), (b 49, .inl (cI, 7, .inl pl))] hP hD rfl
            refine lv_iinc (v := (nI (i + 1))) (lv' := [(3, .int (nI (i + 1))), (0, .ref (b 0)), (1, .int p0), (2, .int (nI y))]) hx hb dX8_plan_99 hl (k := 3) rfl (nI_1 _) (by decide) rfl (fun ls hl => ?_)
            refine lv_goto (tgt := 62) hx hb dX8_plan_102 (by decide) ?_
            exact ih_62 ((i + 1), (wt + 1), (upd oc (Int32.toNatClampNeg (nI wt)) (nI i))) ⟨by omega, zz_fp_yes if1 (by omega) (by omega) hmf hw7 hdn⟩ (show mf - (i + 1) < mf - i from by omega) _ _ _ (hP.sub [0, 1, 2, 3, 4, 5, 6, 7, 8] rfl) (hD.sub [0, 1, 2, 3, 4, 5, 6, 7, 8] (by decide) rfl) hS (lv_sub hl [1, 2, 3, 0] rfl)
      · have zc_4 := c_4
        rw [Int32.le_iff_toInt_le] at zc_4
        try rw [zz_toInt y (by omega)] at zc_4
        try rw [show (7 : Int32).toInt = 7 from by decide] at zc_4
        refine lv_iconst (v := (-1)) hx hb dX8_plan_53 (by decide) ?_
        obtain ⟨hP9, hD9⟩ := zz_sub2 (ws' := [(b 0, .inr (8, [.ref (b 1), .int (nI mt), .int (gg 2), .int (gg 3), .int (gg 4), .int (gg 5), .int (gg 6), .int (gg 7), .int (gg 8), .int (gg 9), .ref (b 11), .ref (b 12), .ref (b 13), .int (nI mc), .int (nI mh), .ref (b 16), .ref (b 17), .ref (b 18), .ref (b 19), .ref (b 20), .ref (b 21), .ref (b 22), .ref (b 23), .ref (b 24), .int (nI mf), .ref (b 26), .ref (b 27), .ref (b 28), .ref (b 29), .ref (b 30), .ref (b 31), .ref (b 32), .int (gg 32), .int (nI md), .ref (b 35), .ref (b 36), .ref (b 37), .ref (b 38), .ref (b 39), .ref (b 40), .int (gg 40), .ref (b 42), .ref (b 43), .ref (b 44), .int (gg 44), .ref (b 46), .ref (b 47), .int (gg 47), .ref (b 49)])), (b 28, .inl (cI, 12, .inl nee)), (b 29, .inl (cI, 12, .inl re)), (b 30, .inl (cI, 12, .inl va)), (b 24, .inl (cI, 10, .inl lo)), (b 46, .inl (cI, 7, .inl od)), (b 47, .inl (cI, 12, .inl lk)), (b 31, .inl (cI, 12, .inl dn)), (b 49, .inl (cI, 7, .inl pl))]) hP hD [0, 1, 2, 3, 4, 5, 6, 7, 8] (by decide) rfl
        have hK9 := hK.sub (tys' := [(cI, .int)]) [0] rfl
        exact W.iret (v := (-1)) hx hb hr (fun t ht hW => ⟨⟨(-1), (gg, od, lk, pl), rfl, ⟨⟨hpk, rfl, rfl, rfl⟩, Or.inl ⟨fun h9 => (by have h8 := h9.2; rw [show mf = j from by omega, ← iy] at h8; have h6 := h9.1; omega), rfl, rfl, rfl⟩⟩, by rw [ht]; exact hP9, va_K.moved hW.alike hK9, hD9⟩, hS.F ht⟩) hS.2.2 dX8_plan_54
  · have zc_1 := c_1
    rw [Int32.le_iff_toInt_le] at zc_1
    try rw [zz_toInt j (by omega)] at zc_1
    try rw [zz_toInt mf (by omega)] at zc_1
    refine lv_iload_n hx hb dX8_plan_12 rfl (lv_at hl 2 rfl) ?_
    refine lv_aload_n hx hb dX8_plan_13 rfl (lv_at hl 0 rfl) ?_
    refine va_get (D := (dC, dI)) (ci := 8) (v := .ref (b 31)) (C := RX8) (T := TX8) (N := 49) hx hb hw zz_inX8 hown hK hP 0 rfl rfl 30 (by decide) (hw _ tw_234) (fun _ h9 => h9) rfl dX8_plan_14 ?_
    refine lv_iload_n hx hb dX8_plan_17 rfl (lv_at hl 3 rfl) ?_
    refine va_iald hx hb hK hP 7 0 rfl rfl (vp_in_iff.mpr (by rw [zz_toInt j (by omega)]; constructor <;> omega)) dX8_plan_18 ?_
    refine zz_seti (dn j) (congrArg dn (zz_cl (by omega))) ?_
    refine lv_if_ge (tgt := 26) hx hb dX8_plan_19 (by decide) (fun c_16 => ?_) (fun c_16 => ?_)
    · have zc_16 := c_16
      rw [Int32.le_iff_toInt_le] at zc_16
      try rw [show (0 : Int32).toInt = 0 from by decide] at zc_16
      refine lv_iconst (v := 0) hx hb dX8_plan_26 (by decide) ?_
      refine lv_iadd hx hb dX8_plan_27 ?_
      refine zz_seti (nI y) (Int32.add_zero _) ?_
      refine lv_istore_n (lv' := [(2, .int (nI y)), (0, .ref (b 0)), (1, .int p0), (3, .int (nI j))]) hx hb dX8_plan_28 rfl hl (by decide) rfl (fun ls hl => ?_)
      refine lv_iinc (v := (nI (j + 1))) (lv' := [(3, .int (nI (j + 1))), (2, .int (nI y)), (0, .ref (b 0)), (1, .int p0)]) hx hb dX8_plan_29 hl (k := 3) rfl (nI_1 _) (by decide) rfl (fun ls hl => ?_)
      refine lv_goto (tgt := 4) hx hb dX8_plan_32 (by decide) ?_
      exact ih_4 ((j + 1), y) ⟨by omega, (by rw [zz_ct, if_neg (by omega), ← iy, Nat.add_zero])⟩ (show mf - (j + 1) < mf - j from by omega) _ _ _ (hP.sub [0, 1, 2, 3, 4, 5, 6, 7, 8] rfl) (hD.sub [0, 1, 2, 3, 4, 5, 6, 7, 8] (by decide) rfl) hS (lv_sub hl [2, 3, 1, 0] rfl)
    · have zc_16 := c_16
      rw [Int32.le_iff_toInt_le] at zc_16
      try rw [show (0 : Int32).toInt = 0 from by decide] at zc_16
      refine lv_iconst (v := 1) hx hb dX8_plan_22 (by decide) ?_
      refine lv_goto (tgt := 27) hx hb dX8_plan_23 (by decide) ?_
      refine lv_iadd hx hb dX8_plan_27 ?_
      refine zz_seti (nI (y + 1)) (nI_1 _) ?_
      refine lv_istore_n (lv' := [(2, .int (nI (y + 1))), (0, .ref (b 0)), (1, .int p0), (3, .int (nI j))]) hx hb dX8_plan_28 rfl hl (by decide) rfl (fun ls hl => ?_)
      refine lv_iinc (v := (nI (j + 1))) (lv' := [(3, .int (nI (j + 1))), (2, .int (nI (y + 1))), (0, .ref (b 0)), (1, .int p0)]) hx hb dX8_plan_29 hl (k := 3) rfl (nI_1 _) (by decide) rfl (fun ls hl => ?_)
      refine lv_goto (tgt := 4) hx hb dX8_plan_32 (by decide) ?_
      exact ih_4 ((j + 1), (y + 1)) ⟨by omega, (by rw [zz_ct, if_pos (by omega), ← iy])⟩ (show mf - (j + 1) < mf - j from by omega) _ _ _ (hP.sub [0, 1, 2, 3, 4, 5, 6, 7, 8] rfl) (hD.sub [0, 1, 2, 3, 4, 5, 6, 7, 8] (by decide) rfl) hS (lv_sub hl [2, 3, 1, 0] rfl)
set_option maxHeartbeats 4000000 in
set_option maxRecDepth 100000 in
theorem mx_planned (l : Launch) (dC : Nat → ClassId) (dI : Nat → Nat → Nat) (b : Nat → Nat) (gg : Nat → Int32) (mt : Nat) (mc : Nat) (mh : Nat) (mf : Nat) (md : Nat) (cI : ClassId) (pl : Nat → Int32) (p0 : Int32) (sz : Nat) (hpk : 0 ≤ (gg 47).toInt ∧ (gg 47).toInt ≤ 7) : Met l yX8_planned (zz_w yX8_planned cX8_planned 2 (some .int)) ({ frames := 1, cells := 0, slots := 0, locals := 25 }) (va_Pc [.ref (b 0), .int p0] (zz_B (dC, dI) sz [(b 0, .inr (8, [.ref (b 1), .int (nI mt), .int (gg 2), .int (gg 3), .int (gg 4), .int (gg 5), .int (gg 6), .int (gg 7), .int (gg 8), .int (gg 9), .ref (b 11), .ref (b 12), .ref (b 13), .int (nI mc), .int (nI mh), .ref (b 16), .ref (b 17), .ref (b 18), .ref (b 19), .ref (b 20), .ref (b 21), .ref (b 22), .ref (b 23), .ref (b 24), .int (nI mf), .ref (b 26), .ref (b 27), .ref (b 28), .ref (b 29), .ref (b 30), .ref (b 31), .ref (b 32), .int (gg 32), .int (nI md), .ref (b 35), .ref (b 36), .ref (b 37), .ref (b 38), .ref (b 39), .ref (b 40), .int (gg 40), .ref (b 42), .ref (b 43), .ref (b 44), .int (gg 44), .ref (b 46), .ref (b 47), .int (gg 47), .ref (b 49)])), (b 49, .inl (cI, 7, .inl pl))] [(cI, .int)])) (va_Qi (fun (r : Int32) (_ : Unit) => r = (if 0 ≤ p0.toInt ∧ p0.toInt < (gg 47).toInt then pl (Int32.toNatClampNeg p0) else -1)) (fun _ _ => True) (va_A [] sz)) 0 0 (va_A [] sz) := by
  refine Met.ofW (cc := cX8_planned) (maxL := 2) (ret := (some .int)) (by decide) rfl ?_
  intro p e s m args below meth c s₁ B hml hv
  obtain ⟨rfl, hsz, hP, hK, hD0, hN⟩ := hv
  have hx := B.exec
  have hb := B.bytes
  have hr := B.returns
  have hts := atoms_spec (ws := zz_w yX8_planned cX8_planned 2 (some .int)) B.pre
  have hw : ∀ w ∈ zz_all, w.before _ s = true := fun w h => hts w (List.mem_cons_of_mem _ h)
  have hown : s.vm.findClass RX8 = some m.cls := findClass_of_methodNamed B.named
  have hlocks := B.notSynchronized
  subst hsz
  have hD := hD0
  generalize hAe : va_A [] s.heap.size = A
  have hA : ∀ q : Nat, s.heap.size ≤ q → A q := fun q h => by rw [← hAe]; exact Or.inr h
  have hS : va_S A s.heap s.heap [] := va_S.rf
  have hP : va_P (dC, dI) vwCl [(b 0, .inr (8, [.ref (b 1), .int (nI mt), .int (gg 2), .int (gg 3), .int (gg 4), .int (gg 5), .int (gg 6), .int (gg 7), .int (gg 8), .int (gg 9), .ref (b 11), .ref (b 12), .ref (b 13), .int (nI mc), .int (nI mh), .ref (b 16), .ref (b 17), .ref (b 18), .ref (b 19), .ref (b 20), .ref (b 21), .ref (b 22), .ref (b 23), .ref (b 24), .int (nI mf), .ref (b 26), .ref (b 27), .ref (b 28), .ref (b 29), .ref (b 30), .ref (b 31), .ref (b 32), .int (gg 32), .int (nI md), .ref (b 35), .ref (b 36), .ref (b 37), .ref (b 38), .ref (b 39), .ref (b 40), .int (gg 40), .ref (b 42), .ref (b 43), .ref (b 44), .int (gg 44), .ref (b 46), .ref (b 47), .int (gg 47), .ref (b 49)])), (b 49, .inl (cI, 7, .inl pl))] s.heap := hP
  have hl := lv_entry ([.ref (b 0), .int p0]) (n := 2) (Nat.le_of_ble_eq_true rfl)
  rw [lg_entry_eq]
  generalize (lg_sl ([.ref (b 0), .int p0]) ++ List.replicate (2 - (lg_sl ([.ref (b 0), .int p0])).length) Slot.unset).toArray = ls at hl ⊢
  have hl : lv_has ls 2 [(0, .ref (b 0)), (1, .int p0)] := hl
  refine lv_iload_n hx hb dX8_planned_0 rfl (lv_at hl 1 rfl) ?_
  refine lv_i2l (v := Int32.toInt64 p0) hx hb dX8_planned_1 rfl ?_
  refine lv_lconst (v := Int32.toInt64 0) hx hb dX8_planned_2 (by decide) ?_
  refine lv_aload_n hx hb dX8_planned_3 rfl (lv_at hl 0 rfl) ?_
  refine va_get (D := (dC, dI)) (ci := 8) (v := .int (gg 47)) (C := RX8) (T := TX8) (N := 49) hx hb hw zz_inX8 hown hK hP 0 rfl rfl 47 (by decide) (hw _ tw_452) (fun _ h9 => h9) rfl dX8_planned_4 ?_
  refine lv_iconst (v := 1) hx hb dX8_planned_7 (by decide) ?_
  refine lv_isub hx hb dX8_planned_8 ?_
  have zp1 := zz_pk1 hpk.1
  refine lv_i2l (v := Int32.toInt64 ((gg 47) - 1)) hx hb dX8_planned_9 rfl ?_
  obtain ⟨hPc, hDc⟩ := zz_sub2 (ws' := []) hP hD [] (by decide) rfl
  have hKc := hK.sub (tys' := []) [] rfl
  have hFc := zz_free0 hS hA
  refine va_calli (va_runS (As := [.long (Int32.toInt64 p0), .long (Int32.toInt64 0), .long (Int32.toInt64 ((gg 47) - 1))]) (rest := []) ⟨hx, hb, hml, hown, hw⟩ (k_in l dC dI p0 0 ((gg 47) - 1) s.heap.size) ⟨callB_of 3 hw (zz_good tw_183) rfl rfl rfl (hw _ tw_184) (hw _ tw_185) (by decide +kernel) ⟨Nat.le_of_ble_eq_true rfl, Nat.le_of_ble_eq_true rfl⟩, (hw _ tw_186)⟩ ⟨zz_blind, zz_pre hPc hKc hDc hN⟩ rfl rfl hl.1 rfl (lv_room (Nat.le_of_ble_eq_true rfl)) dX8_planned_10 ⟨Nat.le_of_ble_eq_true rfl, Nat.le_of_ble_eq_true rfl⟩) hS (fun q _ h => hFc q h) hFc (fun r_1 u_1 t H1 locs ht hvm e_1 hB hz1 hk1 hS => ?_)
  try dsimp only at e_1
  have hP := zz_keep hP hk1
  clear hk1 hB ht hvm
  generalize H1 = H at hP hS ⊢
  refine lv_if_eq (tgt := 25) hx hb dX8_planned_13 (by decide) (fun c_2 => ?_) (fun c_2 => ?_)
  · have zc_2 := c_2
    rw [e_1, zz_in0, Int32.le_iff_toInt_le, Int32.le_iff_toInt_le] at zc_2
    try rw [show (0 : Int32).toInt = 0 from by decide] at zc_2
    refine lv_iconst (v := (-1)) hx hb dX8_planned_25 (by decide) ?_
    exact W.iret (v := (-1)) hx hb hr (fun t ht hW => ⟨⟨(-1), (), rfl, (by first | exact (if_pos (by omega)).symm | exact (if_neg (by omega)).symm), trivial⟩, hS.F ht⟩) hS.2.2 dX8_planned_26
  · have zc_2 := c_2
    rw [e_1, zz_in0, Int32.le_iff_toInt_le, Int32.le_iff_toInt_le] at zc_2
    try rw [show (0 : Int32).toInt = 0 from by decide] at zc_2
    refine lv_aload_n hx hb dX8_planned_16 rfl (lv_at hl 0 rfl) ?_
    refine va_get (D := (dC, dI)) (ci := 8) (v := .ref (b 49)) (C := RX8) (T := TX8) (N := 49) hx hb hw zz_inX8 hown hK hP 0 rfl rfl 48 (by decide) (hw _ tw_461) (fun _ h9 => h9) rfl dX8_planned_17 ?_
    refine lv_iload_n hx hb dX8_planned_20 rfl (lv_at hl 1 rfl) ?_
    refine va_iald hx hb hK hP 1 0 rfl rfl (vp_in_iff.mpr (by constructor <;> omega)) dX8_planned_21 ?_
    refine lv_goto (tgt := 26) hx hb dX8_planned_22 (by decide) ?_
    exact W.iret (v := (pl (Int32.toNatClampNeg p0))) hx hb hr (fun t ht hW => ⟨⟨(pl (Int32.toNatClampNeg p0)), (), rfl, (by first | exact (if_pos (by omega)).symm | exact (if_neg (by omega)).symm), trivial⟩, hS.F ht⟩) hS.2.2 dX8_planned_26
