set_option maxHeartbeats 4000000 in
set_option maxRecDepth 100000 in
theorem mx_nextOrder (l : Launch) (dC : Nat → ClassId) (dI : Nat → Nat → Nat) (b : Nat → Nat) (gg : Nat → Int32) (mt : Nat) (mc : Nat) (mh : Nat) (mf : Nat) (md : Nat) (wt : Nat) (pz : Int32) (cI : ClassId) (od : Nat → Int32) (PP : Nat → Prop) (sz : Nat) (hwt : wt ≤ 7) (hor : zz_or od wt PP) (hps : ∀ q : Nat, PP q → ∃ i : Nat, i < wt ∧ od i = nI q) : Met l yX8_nextOrder (zz_w yX8_nextOrder cX8_nextOrder 5 (some .boolean)) ({ frames := 1, cells := 0, slots := 0, locals := 23 }) (va_Pc [.ref (b 0)] (zz_B (dC, dI) sz [(b 0, .inr (8, [.ref (b 1), .int (nI mt), .int (gg 2), .int (gg 3), .int (gg 4), .int (gg 5), .int (gg 6), .int (gg 7), .int (gg 8), .int (gg 9), .ref (b 11), .ref (b 12), .ref (b 13), .int (nI mc), .int (nI mh), .ref (b 16), .ref (b 17), .ref (b 18), .ref (b 19), .ref (b 20), .ref (b 21), .ref (b 22), .ref (b 23), .ref (b 24), .int (nI mf), .ref (b 26), .ref (b 27), .ref (b 28), .ref (b 29), .ref (b 30), .ref (b 31), .ref (b 32), .int (gg 32), .int (nI md), .ref (b 35), .ref (b 36), .ref (b 37), .ref (b 38), .ref (b 39), .ref (b 40), .int (gg 40), .ref (b 42), .ref (b 43), .ref (b 44), .int (nI wt), .ref (b 46), .ref (b 47), .int pz, .ref (b 49)])), (b 46, .inl (cI, 7, .inl od))] [(cI, .int)])) (va_Qi (fun (r : Int32) (o2 : Nat → Int32) => zz_pm o2 wt PP ∧ ((r = 0 ∧ ∀ T0 : Nat → Int32, zz_pm T0 wt PP → zz_lx T0 wt ≤ zz_lx od wt) ∨ (r = 1 ∧ zz_lx od wt < zz_lx o2 wt ∧ ∀ T0 : Nat → Int32, zz_pm T0 wt PP → zz_lx od wt < zz_lx T0 wt → zz_lx o2 wt ≤ zz_lx T0 wt))) (fun (u0 : Nat → Int32) (t : State) => va_P (dC, dI) vwCl [(b 0, .inr (8, [.ref (b 1), .int (nI mt), .int (gg 2), .int (gg 3), .int (gg 4), .int (gg 5), .int (gg 6), .int (gg 7), .int (gg 8), .int (gg 9), .ref (b 11), .ref (b 12), .ref (b 13), .int (nI mc), .int (nI mh), .ref (b 16), .ref (b 17), .ref (b 18), .ref (b 19), .ref (b 20), .ref (b 21), .ref (b 22), .ref (b 23), .ref (b 24), .int (nI mf), .ref (b 26), .ref (b 27), .ref (b 28), .ref (b 29), .ref (b 30), .ref (b 31), .ref (b 32), .int (gg 32), .int (nI md), .ref (b 35), .ref (b 36), .ref (b 37), .ref (b 38), .ref (b 39), .ref (b 40), .int (gg 40), .ref (b 42), .ref (b 43), .ref (b 44), .int (nI wt), .ref (b 46), .ref (b 47), .int pz, .ref (b 49)])), (b 46, .inl (cI, 7, .inl u0))] t.heap ∧ va_K (dC, dI) vwCl [(cI, .int)] t ∧ va_D (va_A [(b 0, .inr (8, [.ref (b 1), .int (nI mt), .int (gg 2), .int (gg 3), .int (gg 4), .int (gg 5), .int (gg 6), .int (gg 7), .int (gg 8), .int (gg 9), .ref (b 11), .ref (b 12), .ref (b 13), .int (nI mc), .int (nI mh), .ref (b 16), .ref (b 17), .ref (b 18), .ref (b 19), .ref (b 20), .ref (b 21), .ref (b 22), .ref (b 23), .ref (b 24), .int (nI mf), .ref (b 26), .ref (b 27), .ref (b 28), .ref (b 29), .ref (b 30), .ref (b 31), .ref (b 32), .int (gg 32), .int (nI md), .ref (b 35), .ref (b 36), .ref (b 37), .ref (b 38), .ref (b 39), .ref (b 40), .int (gg 40), .ref (b 42), .ref (b 43), .ref (b 44), .int (nI wt), .ref (b 46), .ref (b 47), .int pz, .ref (b 49)])), (b 46, .inl (cI, 7, .inl od))] sz) [(b 0, .inr (8, [.ref (b 1), .int (nI mt), .int (gg 2), .int (gg 3), .int (gg 4), .int (gg 5), .int (gg 6), .int (gg 7), .int (gg 8), .int (gg 9), .ref (b 11), .ref (b 12), .ref (b 13), .int (nI mc), .int (nI mh), .ref (b 16), .ref (b 17), .ref (b 18), .ref (b 19), .ref (b 20), .ref (b 21), .ref (b 22), .ref (b 23), .ref (b 24), .int (nI mf), .ref (b 26), .ref (b 27), .ref (b 28), .ref (b 29), .ref (b 30), .ref (b 31), .ref (b 32), .int (gg 32), .int (nI md), .ref (b 35), .ref (b 36), .ref (b 37), .ref (b 38), .ref (b 39), .ref (b 40), .int (gg 40), .ref (b 42), .ref (b 43), .ref (b 44), .int (nI wt), .ref (b 46), .ref (b 47), .int pz, .ref (b 49)])), (b 46, .inl (cI, 7, .inl u0))]) (va_A [(b 0, .inr (8, [.ref (b 1), .int (nI mt), .int (gg 2), .int (gg 3), .int (gg 4), .int (gg 5), .int (gg 6), .int (gg 7), .int (gg 8), .int (gg 9), .ref (b 11), .ref (b 12), .ref (b 13), .int (nI mc), .int (nI mh), .ref (b 16), .ref (b 17), .ref (b 18), .ref (b 19), .ref (b 20), .ref (b 21), .ref (b 22), .ref (b 23), .ref (b 24), .int (nI mf), .ref (b 26), .ref (b 27), .ref (b 28), .ref (b 29), .ref (b 30), .ref (b 31), .ref (b 32), .int (gg 32), .int (nI md), .ref (b 35), .ref (b 36), .ref (b 37), .ref (b 38), .ref (b 39), .ref (b 40), .int (gg 40), .ref (b 42), .ref (b 43), .ref (b 44), .int (nI wt), .ref (b 46), .ref (b 47), .int pz, .ref (b 49)])), (b 46, .inl (cI, 7, .inl od))] sz)) 0 0 (va_A [(b 0, .inr (8, [.ref (b 1), .int (nI mt), .int (gg 2), .int (gg 3), .int (gg 4), .int (gg 5), .int (gg 6), .int (gg 7), .int (gg 8), .int (gg 9), .ref (b 11), .ref (b 12), .ref (b 13), .int (nI mc), .int (nI mh), .ref (b 16), .ref (b 17), .ref (b 18), .ref (b 19), .ref (b 20), .ref (b 21), .ref (b 22), .ref (b 23), .ref (b 24), .int (nI mf), .ref (b 26), .ref (b 27), .ref (b 28), .ref (b 29), .ref (b 30), .ref (b 31), .ref (b 32), .int (gg 32), .int (nI md), .ref (b 35), .ref (b 36), .ref (b 37), .ref (b 38), .ref (b 39), .ref (b 40), .int (gg 40), .ref (b 42), .ref (b 43), .ref (b 44), .int (nI wt), .ref (b 46), .ref (b 47), .int pz, .ref (b 49)])), (b 46, .inl (cI, 7, .inl od))] sz) := by
  refine Met.ofW (cc := cX8_nextOrder) (maxL := 5) (ret := (some .boolean)) (by decide) rfl ?_
  intro p e s m args below meth c s₁ B hml hv
  obtain ⟨rfl, hsz, hP, hK, hD0, hN⟩ := hv
  have hx := B.exec
  have hb := B.bytes
  have hr := B.returns
  have hts := atoms_spec (ws := zz_w yX8_nextOrder cX8_nextOrder 5 (some .boolean)) B.pre
  have hw : ∀ w ∈ zz_all, w.before _ s = true := fun w h => hts w (List.mem_cons_of_mem _ h)
  have hown : s.vm.findClass RX8 = some m.cls := findClass_of_methodNamed B.named
  have hlocks := B.notSynchronized
  subst hsz
  have hD := hD0.self (sz := s.heap.size)
  generalize hAe : va_A [(b 0, .inr (8, [.ref (b 1), .int (nI mt), .int (gg 2), .int (gg 3), .int (gg 4), .int (gg 5), .int (gg 6), .int (gg 7), .int (gg 8), .int (gg 9), .ref (b 11), .ref (b 12), .ref (b 13), .int (nI mc), .int (nI mh), .ref (b 16), .ref (b 17), .ref (b 18), .ref (b 19), .ref (b 20), .ref (b 21), .ref (b 22), .ref (b 23), .ref (b 24), .int (nI mf), .ref (b 26), .ref (b 27), .ref (b 28), .ref (b 29), .ref (b 30), .ref (b 31), .ref (b 32), .int (gg 32), .int (nI md), .ref (b 35), .ref (b 36), .ref (b 37), .ref (b 38), .ref (b 39), .ref (b 40), .int (gg 40), .ref (b 42), .ref (b 43), .ref (b 44), .int (nI wt), .ref (b 46), .ref (b 47), .int pz, .ref (b 49)])), (b 46, .inl (cI, 7, .inl od))] s.heap.size = A at hD ⊢
  have hA : ∀ q : Nat, s.heap.size ≤ q → A q := fun q h => by rw [← hAe]; exact Or.inr h
  have hS : va_S A s.heap s.heap [] := va_S.rf
  have hP : va_P (dC, dI) vwCl [(b 0, .inr (8, [.ref (b 1), .int (nI mt), .int (gg 2), .int (gg 3), .int (gg 4), .int (gg 5), .int (gg 6), .int (gg 7), .int (gg 8), .int (gg 9), .ref (b 11), .ref (b 12), .ref (b 13), .int (nI mc), .int (nI mh), .ref (b 16), .ref (b 17), .ref (b 18), .ref (b 19), .ref (b 20), .ref (b 21), .ref (b 22), .ref (b 23), .ref (b 24), .int (nI mf), .ref (b 26), .ref (b 27), .ref (b 28), .ref (b 29), .ref (b 30), .ref (b 31), .ref (b 32), .int (gg 32), .int (nI md), .ref (b 35), .ref (b 36), .ref (b 37), .ref (b 38), .ref (b 39), .ref (b 40), .int (gg 40), .ref (b 42), .ref (b 43), .ref (b 44), .int (nI wt), .ref (b 46), .ref (b 47), .int pz, .ref (b 49)])), (b 46, .inl (cI, 7, .inl od))] s.heap := hP
  have hl := lv_entry ([.ref (b 0)]) (n := 5) (Nat.le_of_ble_eq_true rfl)
  rw [lg_entry_eq]
  generalize (lg_sl ([.ref (b 0)]) ++ List.replicate (5 - (lg_sl ([.ref (b 0)])).length) Slot.unset).toArray = ls at hl ⊢
  have hl : lv_has ls 5 [(0, .ref (b 0))] := hl
  refine lv_aload_n hx hb dX8_nextOrder_0 rfl (lv_at hl 0 rfl) ?_
  refine va_get (D := (dC, dI)) (ci := 8) (v := .int (nI wt)) (C := RX8) (T := TX8) (N := 49) hx hb hw zz_inX8 hown hK hP 0 rfl rfl 44 (by decide) (hw _ tw_445) (fun _ h9 => h9) rfl dX8_nextOrder_1 ?_
  refine lv_iconst (v := 2) hx hb dX8_nextOrder_4 (by decide) ?_
  refine lv_isub hx hb dX8_nextOrder_5 ?_
  refine lv_istore_n (lv' := [(1, .int ((nI wt) - 2)), (0, .ref (b 0))]) hx hb dX8_nextOrder_6 rfl hl (by decide) rfl (fun ls hl => ?_)
  refine zz_loopS (fun (wu : (Nat)) => [(b 0, .inr (8, [.ref (b 1), .int (nI mt), .int (gg 2), .int (gg 3), .int (gg 4), .int (gg 5), .int (gg 6), .int (gg 7), .int (gg 8), .int (gg 9), .ref (b 11), .ref (b 12), .ref (b 13), .int (nI mc), .int (nI mh), .ref (b 16), .ref (b 17), .ref (b 18), .ref (b 19), .ref (b 20), .ref (b 21), .ref (b 22), .ref (b 23), .ref (b 24), .int (nI mf), .ref (b 26), .ref (b 27), .ref (b 28), .ref (b 29), .ref (b 30), .ref (b 31), .ref (b 32), .int (gg 32), .int (nI md), .ref (b 35), .ref (b 36), .ref (b 37), .ref (b 38), .ref (b 39), .ref (b 40), .int (gg 40), .ref (b 42), .ref (b 43), .ref (b 44), .int (nI wt), .ref (b 46), .ref (b 47), .int pz, .ref (b 49)])), (b 46, .inl (cI, 7, .inl od))]) (fun (wu : (Nat)) => [(0, .ref (b 0)), (1, .int ((nI wu) - 2))]) (fun (wu : (Nat)) => wu ≤ wt ∧ zz_dsc od (wu - 1) wt) (fun (wu : (Nat)) => wu) (fun u hI H locs ls hP hD hS hl ih_7 => ?_) wt ⟨by omega, fun k h8 h9 => absurd h9 (by omega)⟩ _ _ _ (hP.sub [0, 1] rfl) (hD.sub [0, 1] (by decide) rfl) hS (lv_sub hl [1, 0] rfl)
  obtain ⟨wu, rfl⟩ : ∃ z, z = u := ⟨_, rfl⟩
  obtain ⟨hP, hD⟩ := zz_ty (D := (dC, dI)) (cl := vwCl) (A := A) (H := H) [(b 0, .inr (8, [.ref (b 1), .int (nI mt), .int (gg 2), .int (gg 3), .int (gg 4), .int (gg 5), .int (gg 6), .int (gg 7), .int (gg 8), .int (gg 9), .ref (b 11), .ref (b 12), .ref (b 13), .int (nI mc), .int (nI mh), .ref (b 16), .ref (b 17), .ref (b 18), .ref (b 19), .ref (b 20), .ref (b 21), .ref (b 22), .ref (b 23), .ref (b 24), .int (nI mf), .ref (b 26), .ref (b 27), .ref (b 28), .ref (b 29), .ref (b 30), .ref (b 31), .ref (b 32), .int (gg 32), .int (nI md), .ref (b 35), .ref (b 36), .ref (b 37), .ref (b 38), .ref (b 39), .ref (b 40), .int (gg 40), .ref (b 42), .ref (b 43), .ref (b 44), .int (nI wt), .ref (b 46), .ref (b 47), .int pz, .ref (b 49)])), (b 46, .inl (cI, 7, .inl od))] hP hD rfl
  have hl : lv_has ls 5 [(0, .ref (b 0)), (1, .int ((nI wu) - 2))] := hl
  have hI : wu ≤ wt ∧ zz_dsc od (wu - 1) wt := hI
  obtain ⟨iwu, idc⟩ := hI
  refine lv_iload_n hx hb dX8_nextOrder_7 rfl (lv_at hl 1 rfl) ?_
  refine lv_if_lt (tgt := 34) hx hb dX8_nextOrder_8 (by decide) (fun c_1 => ?_) (fun c_1 => ?_)
  · have zc_1 := c_1
    rw [Int32.lt_iff_toInt_lt] at zc_1
    try rw [zz_pred2 (c := wu) (by omega)] at zc_1
    try rw [show (0 : Int32).toInt = 0 from by decide] at zc_1
    refine lv_iload_n hx hb dX8_nextOrder_34 rfl (lv_at hl 1 rfl) ?_
    refine lv_if_ge (tgt := 40) hx hb dX8_nextOrder_35 (by decide) (fun c_2 => absurd c_2 (Int32.not_le.mpr c_1)) (fun _ => ?_)
    refine lv_iconst (v := 0) hx hb dX8_nextOrder_38 (by decide) ?_
    obtain ⟨hP9, hD9⟩ := zz_sub2 (ws' := [(b 0, .inr (8, [.ref (b 1), .int (nI mt), .int (gg 2), .int (gg 3), .int (gg 4), .int (gg 5), .int (gg 6), .int (gg 7), .int (gg 8), .int (gg 9), .ref (b 11), .ref (b 12), .ref (b 13), .int (nI mc), .int (nI mh), .ref (b 16), .ref (b 17), .ref (b 18), .ref (b 19), .ref (b 20), .ref (b 21), .ref (b 22), .ref (b 23), .ref (b 24), .int (nI mf), .ref (b 26), .ref (b 27), .ref (b 28), .ref (b 29), .ref (b 30), .ref (b 31), .ref (b 32), .int (gg 32), .int (nI md), .ref (b 35), .ref (b 36), .ref (b 37), .ref (b 38), .ref (b 39), .ref (b 40), .int (gg 40), .ref (b 42), .ref (b 43), .ref (b 44), .int (nI wt), .ref (b 46), .ref (b 47), .int pz, .ref (b 49)])), (b 46, .inl (cI, 7, .inl od))]) hP hD [0, 1] (by decide) rfl
    have hK9 := hK.sub (tys' := [(cI, .int)]) [0] rfl
    exact W.zret (v := 0) hx hb hr (rfl) (fun t ht hW => ⟨⟨0, (od), rfl, ⟨⟨hor, hps⟩, Or.inl ⟨rfl, zz_last ⟨hor, hps⟩ (by rw [show wu - 1 = 0 by omega] at idc; exact idc)⟩⟩, by rw [ht]; exact hP9, va_K.moved hW.alike hK9, hD9⟩, hS.F ht⟩) hS.2.2 dX8_nextOrder_39
  · have zc_1 := c_1
    rw [Int32.lt_iff_toInt_lt] at zc_1
    try rw [zz_pred2 (c := wu) (by omega)] at zc_1
    try rw [show (0 : Int32).toInt = 0 from by decide] at zc_1
    refine lv_aload_n hx hb dX8_nextOrder_11 rfl (lv_at hl 0 rfl) ?_
    refine va_get (D := (dC, dI)) (ci := 8) (v := .ref (b 46)) (C := RX8) (T := TX8) (N := 49) hx hb hw zz_inX8 hown hK hP 0 rfl rfl 45 (by decide) (hw _ tw_444) (fun _ h9 => h9) rfl dX8_nextOrder_12 ?_
    refine lv_iload_n hx hb dX8_nextOrder_15 rfl (lv_at hl 1 rfl) ?_
    refine zz_seti (nI (wu - 2)) (zz_pred2N (by omega) (by omega)) ?_
    refine va_iald hx hb hK hP 1 0 rfl rfl (vp_in_iff.mpr (by rw [zz_toInt (wu - 2) (by omega)]; constructor <;> omega)) dX8_nextOrder_16 ?_
    refine zz_seti (od (wu - 2)) (congrArg od (zz_cl (by omega))) ?_
    refine lv_aload_n hx hb dX8_nextOrder_17 rfl (lv_at hl 0 rfl) ?_
    refine va_get (D := (dC, dI)) (ci := 8) (v := .ref (b 46)) (C := RX8) (T := TX8) (N := 49) hx hb hw zz_inX8 hown hK hP 0 rfl rfl 45 (by decide) (hw _ tw_444) (fun _ h9 => h9) rfl dX8_nextOrder_18 ?_
    refine lv_iload_n hx hb dX8_nextOrder_21 rfl (lv_at hl 1 rfl) ?_
    refine zz_seti (nI (wu - 2)) (zz_pred2N (by omega) (by omega)) ?_
    refine lv_iconst (v := 1) hx hb dX8_nextOrder_22 (by decide) ?_
    refine lv_iadd hx hb dX8_nextOrder_23 ?_
    refine zz_seti (nI ((wu - 2) + 1)) (nI_1 _) ?_
    refine va_iald hx hb hK hP 1 0 rfl rfl (vp_in_iff.mpr (by rw [zz_toInt ((wu - 2) + 1) (by omega)]; constructor <;> omega)) dX8_nextOrder_24 ?_
    refine zz_seti (od ((wu - 2) + 1)) (congrArg od (zz_cl (by omega))) ?_
    refine lv_icmp_le (tgt := 34) hx hb dX8_nextOrder_25 (by decide) (fun c_3 => ?_) (fun c_3 => ?_)
    · have zc_3 := c_3
      rw [Int32.le_iff_toInt_le] at zc_3
      refine lv_iload_n hx hb dX8_nextOrder_34 rfl (lv_at hl 1 rfl) ?_
      refine lv_if_ge (tgt := 40) hx hb dX8_nextOrder_35 (by decide) (fun _ => ?_) (fun c_4 => absurd c_4 (fun h9 => h9 (Int32.not_lt.mp c_1)))
      have hl1 : (od (wu - 2)).toInt < (od ((wu - 2) + 1)).toInt := zz_or_ne hor (by omega) (by omega) (by omega) (by omega)
      refine lv_aload_n hx hb dX8_nextOrder_40 rfl (lv_at hl 0 rfl) ?_
      refine va_get (D := (dC, dI)) (ci := 8) (v := .int (nI wt)) (C := RX8) (T := TX8) (N := 49) hx hb hw zz_inX8 hown hK hP 0 rfl rfl 44 (by decide) (hw _ tw_445) (fun _ h9 => h9) rfl dX8_nextOrder_41 ?_
      refine lv_iconst (v := 1) hx hb dX8_nextOrder_44 (by decide) ?_
      refine lv_isub hx hb dX8_nextOrder_45 ?_
      refine zz_seti (nI (wt - 1)) (zz_predN (by omega)) ?_
      refine lv_istore_n (lv' := [(2, .int (nI (wt - 1))), (0, .ref (b 0)), (1, .int ((nI wu) - 2))]) hx hb dX8_nextOrder_46 rfl hl (by decide) rfl (fun ls hl => ?_)
      refine zz_loopS (fun (kk : (Nat)) => [(b 0, .inr (8, [.ref (b 1), .int (nI mt), .int (gg 2), .int (gg 3), .int (gg 4), .int (gg 5), .int (gg 6), .int (gg 7), .int (gg 8), .int (gg 9), .ref (b 11), .ref (b 12), .ref (b 13), .int (nI mc), .int (nI mh), .ref (b 16), .ref (b 17), .ref (b 18), .ref (b 19), .ref (b 20), .ref (b 21), .ref (b 22), .ref (b 23), .ref (b 24), .int (nI mf), .ref (b 26), .ref (b 27), .ref (b 28), .ref (b 29), .ref (b 30), .ref (b 31), .ref (b 32), .int (gg 32), .int (nI md), .ref (b 35), .ref (b 36), .ref (b 37), .ref (b 38), .ref (b 39), .ref (b 40), .int (gg 40), .ref (b 42), .ref (b 43), .ref (b 44), .int (nI wt), .ref (b 46), .ref (b 47), .int pz, .ref (b 49)])), (b 46, .inl (cI, 7, .inl od))]) (fun (kk : (Nat)) => [(0, .ref (b 0)), (1, .int ((nI wu) - 2)), (2, .int (nI kk))]) (fun (kk : (Nat)) => (wu - 2) + 1 ≤ kk ∧ kk ≤ wt - 1 ∧ ∀ k : Nat, kk < k → k < wt → (od k).toInt < (od (wu - 2)).toInt) (fun (kk : (Nat)) => kk) (fun u hI H locs ls hP hD hS hl ih_47 => ?_) (wt - 1) ⟨by omega, by omega, fun k h8 h9 => absurd h9 (by omega)⟩ _ _ _ (hP.sub [0, 1] rfl) (hD.sub [0, 1] (by decide) rfl) hS (lv_sub hl [1, 2, 0] rfl)
      obtain ⟨kk, rfl⟩ : ∃ z, z = u := ⟨_, rfl⟩
      obtain ⟨hP, hD⟩ := zz_ty (D := (dC, dI)) (cl := vwCl) (A := A) (H := H) [(b 0, .inr (8, [.ref (b 1), .int (nI mt), .int (gg 2), .int (gg 3), .int (gg 4), .int (gg 5), .int (gg 6), .int (gg 7), .int (gg 8), .int (gg 9), .ref (b 11), .ref (b 12), .ref (b 13), .int (nI mc), .int (nI mh), .ref (b 16), .ref (b 17), .ref (b 18), .ref (b 19), .ref (b 20), .ref (b 21), .ref (b 22), .ref (b 23), .ref (b 24), .int (nI mf), .ref (b 26), .ref (b 27), .ref (b 28), .ref (b 29), .ref (b 30), .ref (b 31), .ref (b 32), .int (gg 32), .int (nI md), .ref (b 35), .ref (b 36), .ref (b 37), .ref (b 38), .ref (b 39), .ref (b 40), .int (gg 40), .ref (b 42), .ref (b 43), .ref (b 44), .int (nI wt), .ref (b 46), .ref (b 47), .int pz, .ref (b 49)])), (b 46, .inl (cI, 7, .inl od))] hP hD rfl
      have hl : lv_has ls 5 [(0, .ref (b 0)), (1, .int ((nI wu) - 2)), (2, .int (nI kk))] := hl
      have hI : (wu - 2) + 1 ≤ kk ∧ kk ≤ wt - 1 ∧ ∀ k : Nat, kk < k → k < wt → (od k).toInt < (od (wu - 2)).toInt := hI
      obtain ⟨ik1, ik2, ikk⟩ := hI
      refine lv_aload_n hx hb dX8_nextOrder_47 rfl (lv_at hl 0 rfl) ?_
      refine va_get (D := (dC, dI)) (ci := 8) (v := .ref (b 46)) (C := RX8) (T := TX8) (N := 49) hx hb hw zz_inX8 hown hK hP 0 rfl rfl 45 (by decide) (hw _ tw_444) (fun _ h9 => h9) rfl dX8_nextOrder_48 ?_
      refine lv_iload_n hx hb dX8_nextOrder_51 rfl (lv_at hl 2 rfl) ?_
      refine va_iald hx hb hK hP 1 0 rfl rfl (vp_in_iff.mpr (by rw [zz_toInt kk (by omega)]; constructor <;> omega)) dX8_nextOrder_52 ?_
      refine zz_seti (od kk) (congrArg od (zz_cl (by omega))) ?_
      refine lv_aload_n hx hb dX8_nextOrder_53 rfl (lv_at hl 0 rfl) ?_
      refine va_get (D := (dC, dI)) (ci := 8) (v := .ref (b 46)) (C := RX8) (T := TX8) (N := 49) hx hb hw zz_inX8 hown hK hP 0 rfl rfl 45 (by decide) (hw _ tw_444) (fun _ h9 => h9) rfl dX8_nextOrder_54 ?_
      refine lv_iload_n hx hb dX8_nextOrder_57 rfl (lv_at hl 1 rfl) ?_
      refine zz_seti (nI (wu - 2)) (zz_pred2N (by omega) (by omega)) ?_
      refine va_iald hx hb hK hP 1 0 rfl rfl (vp_in_iff.mpr (by rw [zz_toInt (wu - 2) (by omega)]; constructor <;> omega)) dX8_nextOrder_58 ?_
      refine zz_seti (od (wu - 2)) (congrArg od (zz_cl (by omega))) ?_
      refine lv_icmp_ge (tgt := 68) hx hb dX8_nextOrder_59 (by decide) (fun c_5 => ?_) (fun c_5 => ?_)
      · have zc_5 := c_5
        rw [Int32.le_iff_toInt_le] at zc_5
        have hl2 : (od (wu - 2)).toInt < (od kk).toInt := zz_or_ne hor (by omega) (by omega) (by omega) (by omega)
        refine lv_aload_n hx hb dX8_nextOrder_68 rfl (lv_at hl 0 rfl) ?_
        refine lv_iload_n hx hb dX8_nextOrder_69 rfl (lv_at hl 1 rfl) ?_
        refine zz_seti (nI (wu - 2)) (zz_pred2N (by omega) (by omega)) ?_
        refine lv_iload_n hx hb dX8_nextOrder_70 rfl (lv_at hl 2 rfl) ?_
        obtain ⟨hPc, hDc⟩ := zz_sub2 (ws' := [(b 0, .inr (8, [.ref (b 1), .int (nI mt), .int (gg 2), .int (gg 3), .int (gg 4), .int (gg 5), .int (gg 6), .int (gg 7), .int (gg 8), .int (gg 9), .ref (b 11), .ref (b 12), .ref (b 13), .int (nI mc), .int (nI mh), .ref (b 16), .ref (b 17), .ref (b 18), .ref (b 19), .ref (b 20), .ref (b 21), .ref (b 22), .ref (b 23), .ref (b 24), .int (nI mf), .ref (b 26), .ref (b 27), .ref (b 28), .ref (b 29), .ref (b 30), .ref (b 31), .ref (b 32), .int (gg 32), .int (nI md), .ref (b 35), .ref (b 36), .ref (b 37), .ref (b 38), .ref (b 39), .ref (b 40), .int (gg 40), .ref (b 42), .ref (b 43), .ref (b 44), .int (nI wt), .ref (b 46), .ref (b 47), .int pz, .ref (b 49)])), (b 46, .inl (cI, 7, .inl od))]) hP hD [0, 1] (by decide) rfl
        have hKc := hK.sub (tys' := [(cI, .int)]) [0] rfl
        have hFc := zz_free1 hDc hS hA
        refine va_callv (va_runV (As := [.int (nI (wu - 2)), .int (nI kk)]) (rest := []) ⟨hx, hb, hml, hown, hw⟩ (m_swaps l dC dI b gg mt mc mh mf md wt pz cI od (wu - 2) kk H.size (by omega) (by omega)) ⟨callB_of 2 hw (zz_good tw_446) rfl rfl rfl (hw _ tw_184) (hw _ tw_447) (by decide +kernel) ⟨Nat.le_of_ble_eq_true rfl, Nat.le_of_ble_eq_true rfl⟩, (hw _ tw_448), (hw _ tw_449)⟩ ⟨zz_blind, va_recv hKc hPc (ci := 8) (q0 := 0) rfl rfl, zz_pre hPc hKc hDc hN⟩ rfl rfl hl.1 rfl (lv_room (Nat.le_of_ble_eq_true rfl)) dX8_nextOrder_71 ⟨Nat.le_of_ble_eq_true rfl, Nat.le_of_ble_eq_true rfl⟩) hS (fun q _ h => hFc q h) hFc (fun u_6 t H1 locs ht hvm e_6 hB hz1 hk1 hS => ?_)
        try dsimp only at e_6
        obtain ⟨v_6_0, rfl⟩ : ∃ z, z = u_6 := ⟨_, rfl⟩
        obtain ⟨hP1, hK1, hD1⟩ := hB
        rw [ht] at hP1
        have hK1 := va_K.moved hvm.symm hK1
        try dsimp only at e_6
        obtain ⟨hP, hD⟩ := va_join (wr := []) (w1 := [(b 0, .inr (8, [.ref (b 1), .int (nI mt), .int (gg 2), .int (gg 3), .int (gg 4), .int (gg 5), .int (gg 6), .int (gg 7), .int (gg 8), .int (gg 9), .ref (b 11), .ref (b 12), .ref (b 13), .int (nI mc), .int (nI mh), .ref (b 16), .ref (b 17), .ref (b 18), .ref (b 19), .ref (b 20), .ref (b 21), .ref (b 22), .ref (b 23), .ref (b 24), .int (nI mf), .ref (b 26), .ref (b 27), .ref (b 28), .ref (b 29), .ref (b 30), .ref (b 31), .ref (b 32), .int (gg 32), .int (nI md), .ref (b 35), .ref (b 36), .ref (b 37), .ref (b 38), .ref (b 39), .ref (b 40), .int (gg 40), .ref (b 42), .ref (b 43), .ref (b 44), .int (nI wt), .ref (b 46), .ref (b 47), .int pz, .ref (b 49)])), (b 46, .inl (cI, 7, .inl v_6_0))]) hP hD [0, 1] [] rfl rfl (by decide) (by decide) hk1 hFc hP1 hD1
        clear hk1 ht hvm
        generalize H1 = H at hP hS ⊢
        obtain ⟨hP, hD⟩ := zz_ty (D := (dC, dI)) (cl := vwCl) (A := A) (H := H) [(b 0, .inr (8, [.ref (b 1), .int (nI mt), .int (gg 2), .int (gg 3), .int (gg 4), .int (gg 5), .int (gg 6), .int (gg 7), .int (gg 8), .int (gg 9), .ref (b 11), .ref (b 12), .ref (b 13), .int (nI mc), .int (nI mh), .ref (b 16), .ref (b 17), .ref (b 18), .ref (b 19), .ref (b 20), .ref (b 21), .ref (b 22), .ref (b 23), .ref (b 24), .int (nI mf), .ref (b 26), .ref (b 27), .ref (b 28), .ref (b 29), .ref (b 30), .ref (b 31), .ref (b 32), .int (gg 32), .int (nI md), .ref (b 35), .ref (b 36), .ref (b 37), .ref (b 38), .ref (b 39), .ref (b 40), .int (gg 40), .ref (b 42), .ref (b 43), .ref (b 44), .int (nI wt), .ref (b 46), .ref (b 47), .int pz, .ref (b 49)])), (b 46, .inl (cI, 7, .inl v_6_0))] hP hD rfl
        refine lv_iload_n hx hb dX8_nextOrder_74 rfl (lv_at hl 1 rfl) ?_
        refine zz_seti (nI (wu - 2)) (zz_pred2N (by omega) (by omega)) ?_
        refine lv_iconst (v := 1) hx hb dX8_nextOrder_75 (by decide) ?_
        refine lv_iadd hx hb dX8_nextOrder_76 ?_
        refine zz_seti (nI ((wu - 2) + 1)) (nI_1 _) ?_
        refine lv_istore_n (lv' := [(3, .int (nI ((wu - 2) + 1))), (0, .ref (b 0)), (1, .int ((nI wu) - 2)), (2, .int (nI kk))]) hx hb dX8_nextOrder_77 rfl hl (by decide) rfl (fun ls hl => ?_)
        refine lv_aload_n hx hb dX8_nextOrder_78 rfl (lv_at hl 1 rfl) ?_
        refine va_get (D := (dC, dI)) (ci := 8) (v := .int (nI wt)) (C := RX8) (T := TX8) (N := 49) hx hb hw zz_inX8 hown hK hP 0 rfl rfl 44 (by decide) (hw _ tw_445) (fun _ h9 => h9) rfl dX8_nextOrder_79 ?_
        refine lv_iconst (v := 1) hx hb dX8_nextOrder_82 (by decide) ?_
        refine lv_isub hx hb dX8_nextOrder_83 ?_
        refine zz_seti (nI (wt - 1)) (zz_predN (by omega)) ?_
        refine lv_istore (lv' := [(4, .int (nI (wt - 1))), (3, .int (nI ((wu - 2) + 1))), (0, .ref (b 0)), (1, .int ((nI wu) - 2)), (2, .int (nI kk))]) hx hb dX8_nextOrder_84 hl (by decide) rfl (fun ls hl => ?_)
        refine zz_loopS (fun (u : (Nat) × (Nat) × (Nat → Int32)) => match u with | (lw, hw2, oq) => [(b 0, .inr (8, [.ref (b 1), .int (nI mt), .int (gg 2), .int (gg 3), .int (gg 4), .int (gg 5), .int (gg 6), .int (gg 7), .int (gg 8), .int (gg 9), .ref (b 11), .ref (b 12), .ref (b 13), .int (nI mc), .int (nI mh), .ref (b 16), .ref (b 17), .ref (b 18), .ref (b 19), .ref (b 20), .ref (b 21), .ref (b 22), .ref (b 23), .ref (b 24), .int (nI mf), .ref (b 26), .ref (b 27), .ref (b 28), .ref (b 29), .ref (b 30), .ref (b 31), .ref (b 32), .int (gg 32), .int (nI md), .ref (b 35), .ref (b 36), .ref (b 37), .ref (b 38), .ref (b 39), .ref (b 40), .int (gg 40), .ref (b 42), .ref (b 43), .ref (b 44), .int (nI wt), .ref (b 46), .ref (b 47), .int pz, .ref (b 49)])), (b 46, .inl (cI, 7, .inl oq))]) (fun (u : (Nat) × (Nat) × (Nat → Int32)) => match u with | (lw, hw2, oq) => [(0, .ref (b 0)), (1, .int ((nI wu) - 2)), (2, .int (nI kk)), (3, .int (nI lw)), (4, .int (nI hw2))]) (fun (u : (Nat) × (Nat) × (Nat → Int32)) => match u with | (lw, hw2, oq) => (wu - 2) + 1 ≤ lw ∧ lw ≤ wt ∧ hw2 ≤ wt - 1 ∧ zz_pm oq wt PP ∧ zz_mir (zz_sw od (wu - 2) kk) oq (wu - 2) wt lw hw2) (fun (u : (Nat) × (Nat) × (Nat → Int32)) => match u with | (lw, hw2, oq) => wt - lw) (fun u hI H locs ls hP hD hS hl ih_86 => ?_) (((wu - 2) + 1), (wt - 1), v_6_0) ⟨by omega, by omega, by omega, (by rw [e_6]; exact zz_sw_pm ⟨hor, hps⟩ (by omega) (by omega)), (by rw [e_6]; exact zz_mir_0 (by omega))⟩ _ _ _ (hP.sub [0, 1] rfl) (hD.sub [0, 1] (by decide) rfl) hS (lv_sub hl [2, 3, 4, 1, 0] rfl)
        obtain ⟨lw, hw2, oq⟩ := u
        obtain ⟨hP, hD⟩ := zz_ty (D := (dC, dI)) (cl := vwCl) (A := A) (H := H) [(b 0, .inr (8, [.ref (b 1), .int (nI mt), .int (gg 2), .int (gg 3), .int (gg 4), .int (gg 5), .int (gg 6), .int (gg 7), .int (gg 8), .int (gg 9), .ref (b 11), .ref (b 12), .ref (b 13), .int (nI mc), .int (nI mh), .ref (b 16), .ref (b 17), .ref (b 18), .ref (b 19), .ref (b 20), .ref (b 21), .ref (b 22), .ref (b 23), .ref (b 24), .int (nI mf), .ref (b 26), .ref (b 27), .ref (b 28), .ref (b 29), .ref (b 30), .ref (b 31), .ref (b 32), .int (gg 32), .int (nI md), .ref (b 35), .ref (b 36), .ref (b 37), .ref (b 38), .ref (b 39), .ref (b 40), .int (gg 40), .ref (b 42), .ref (b 43), .ref (b 44), .int (nI wt), .ref (b 46), .ref (b 47), .int pz, .ref (b 49)])), (b 46, .inl (cI, 7, .inl oq))] hP hD rfl
        have hl : lv_has ls 5 [(0, .ref (b 0)), (1, .int ((nI wu) - 2)), (2, .int (nI kk)), (3, .int (nI lw)), (4, .int (nI hw2))] := hl
        have hI : (wu - 2) + 1 ≤ lw ∧ lw ≤ wt ∧ hw2 ≤ wt - 1 ∧ zz_pm oq wt PP ∧ zz_mir (zz_sw od (wu - 2) kk) oq (wu - 2) wt lw hw2 := hI
        obtain ⟨il1, il2, ih2, io, im⟩ := hI
        refine lv_iload_n hx hb dX8_nextOrder_86 rfl (lv_at hl 3 rfl) ?_
        refine lv_iload hx hb dX8_nextOrder_87 (lv_at hl 4 rfl) ?_
        refine lv_icmp_ge (tgt := 108) hx hb dX8_nextOrder_89 (by decide) (fun c_7 => ?_) (fun c_7 => ?_)
        · have zc_7 := c_7
          rw [Int32.le_iff_toInt_le] at zc_7
          try rw [zz_toInt lw (by omega)] at zc_7
          try rw [zz_toInt hw2 (by omega)] at zc_7
          refine lv_iconst (v := 1) hx hb dX8_nextOrder_108 (by decide) ?_
          obtain ⟨hP9, hD9⟩ := zz_sub2 (ws' := [(b 0, .inr (8, [.ref (b 1), .int (nI mt), .int (gg 2), .int (gg 3), .int (gg 4), .int (gg 5), .int (gg 6), .int (gg 7), .int (gg 8), .int (gg 9), .ref (b 11), .ref (b 12), .ref (b 13), .int (nI mc), .int (nI mh), .ref (b 16), .ref (b 17), .ref (b 18), .ref (b 19), .ref (b 20), .ref (b 21), .ref (b 22), .ref (b 23), .ref (b 24), .int (nI mf), .ref (b 26), .ref (b 27), .ref (b 28), .ref (b 29), .ref (b 30), .ref (b 31), .ref (b 32), .int (gg 32), .int (nI md), .ref (b 35), .ref (b 36), .ref (b 37), .ref (b 38), .ref (b 39), .ref (b 40), .int (gg 40), .ref (b 42), .ref (b 43), .ref (b 44), .int (nI wt), .ref (b 46), .ref (b 47), .int pz, .ref (b 49)])), (b 46, .inl (cI, 7, .inl oq))]) hP hD [0, 1] (by decide) rfl
          have hK9 := hK.sub (tys' := [(cI, .int)]) [0] rfl
          exact W.zret (v := 1) hx hb hr (rfl) (fun t ht hW => ⟨⟨1, (oq), rfl, ⟨io, Or.inr ⟨rfl, zz_no_end (i := wu - 2) (kk := kk) ⟨hor, hps⟩ io (by omega) (by rw [show wu - 2 + 1 = wu - 1 by omega]; exact idc) ⟨by omega, by omega⟩ hl2 ikk im (by omega)⟩⟩, by rw [ht]; exact hP9, va_K.moved hW.alike hK9, hD9⟩, hS.F ht⟩) hS.2.2 dX8_nextOrder_109
        · have zc_7 := c_7
          rw [Int32.le_iff_toInt_le] at zc_7
          try rw [zz_toInt lw (by omega)] at zc_7
          try rw [zz_toInt hw2 (by omega)] at zc_7
          refine lv_aload_n hx hb dX8_nextOrder_92 rfl (lv_at hl 0 rfl) ?_
          refine lv_iload_n hx hb dX8_nextOrder_93 rfl (lv_at hl 3 rfl) ?_
          refine lv_iload hx hb dX8_nextOrder_94 (lv_at hl 4 rfl) ?_
          obtain ⟨hPc, hDc⟩ := zz_sub2 (ws' := [(b 0, .inr (8, [.ref (b 1), .int (nI mt), .int (gg 2), .int (gg 3), .int (gg 4), .int (gg 5), .int (gg 6), .int (gg 7), .int (gg 8), .int (gg 9), .ref (b 11), .ref (b 12), .ref (b 13), .int (nI mc), .int (nI mh), .ref (b 16), .ref (b 17), .ref (b 18), .ref (b 19), .ref (b 20), .ref (b 21), .ref (b 22), .ref (b 23), .ref (b 24), .int (nI mf), .ref (b 26), .ref (b 27), .ref (b 28), .ref (b 29), .ref (b 30), .ref (b 31), .ref (b 32), .int (gg 32), .int (nI md), .ref (b 35), .ref (b 36), .ref (b 37), .ref (b 38), .ref (b 39), .ref (b 40), .int (gg 40), .ref (b 42), .ref (b 43), .ref (b 44), .int (nI wt), .ref (b 46), .ref (b 47), .int pz, .ref (b 49)])), (b 46, .inl (cI, 7, .inl oq))]) hP hD [0, 1] (by decide) rfl
          have hKc := hK.sub (tys' := [(cI, .int)]) [0] rfl
          have hFc := zz_free1 hDc hS hA
          refine va_callv (va_runV (As := [.int (nI lw), .int (nI hw2)]) (rest := []) ⟨hx, hb, hml, hown, hw⟩ (m_swaps l dC dI b gg mt mc mh mf md wt pz cI oq lw hw2 H.size (by omega) (by omega)) ⟨callB_of 2 hw (zz_good tw_446) rfl rfl rfl (hw _ tw_184) (hw _ tw_447) (by decide +kernel) ⟨Nat.le_of_ble_eq_true rfl, Nat.le_of_ble_eq_true rfl⟩, (hw _ tw_448), (hw _ tw_449)⟩ ⟨zz_blind, va_recv hKc hPc (ci := 8) (q0 := 0) rfl rfl, zz_pre hPc hKc hDc hN⟩ rfl rfl hl.1 rfl (lv_room (Nat.le_of_ble_eq_true rfl)) dX8_nextOrder_96 ⟨Nat.le_of_ble_eq_true rfl, Nat.le_of_ble_eq_true rfl⟩) hS (fun q _ h => hFc q h) hFc (fun u_8 t H1 locs ht hvm e_8 hB hz1 hk1 hS => ?_)
          try dsimp only at e_8
          obtain ⟨v_8_0, rfl⟩ : ∃ z, z = u_8 := ⟨_, rfl⟩
          obtain ⟨hP1, hK1, hD1⟩ := hB
          rw [ht] at hP1
          have hK1 := va_K.moved hvm.symm hK1
          try dsimp only at e_8
          obtain ⟨hP, hD⟩ := va_join (wr := []) (w1 := [(b 0, .inr (8, [.ref (b 1), .int (nI mt), .int (gg 2), .int (gg 3), .int (gg 4), .int (gg 5), .int (gg 6), .int (gg 7), .int (gg 8), .int (gg 9), .ref (b 11), .ref (b 12), .ref (b 13), .int (nI mc), .int (nI mh), .ref (b 16), .ref (b 17), .ref (b 18), .ref (b 19), .ref (b 20), .ref (b 21), .ref (b 22), .ref (b 23), .ref (b 24), .int (nI mf), .ref (b 26), .ref (b 27), .ref (b 28), .ref (b 29), .ref (b 30), .ref (b 31), .ref (b 32), .int (gg 32), .int (nI md), .ref (b 35), .ref (b 36), .ref (b 37), .ref (b 38), .ref (b 39), .ref (b 40), .int (gg 40), .ref (b 42), .ref (b 43), .ref (b 44), .int (nI wt), .ref (b 46), .ref (b 47), .int pz, .ref (b 49)])), (b 46, .inl (cI, 7, .inl v_8_0))]) hP hD [0, 1] [] rfl rfl (by decide) (by decide) hk1 hFc hP1 hD1
          clear hk1 ht hvm
          generalize H1 = H at hP hS ⊢
          obtain ⟨hP, hD⟩ := zz_ty (D := (dC, dI)) (cl := vwCl) (A := A) (H := H) [(b 0, .inr (8, [.ref (b 1), .int (nI mt), .int (gg 2), .int (gg 3), .int (gg 4), .int (gg 5), .int (gg 6), .int (gg 7), .int (gg 8), .int (gg 9), .ref (b 11), .ref (b 12), .ref (b 13), .int (nI mc), .int (nI mh), .ref (b 16), .ref (b 17), .ref (b 18), .ref (b 19), .ref (b 20), .ref (b 21), .ref (b 22), .ref (b 23), .ref (b 24), .int (nI mf), .ref (b 26), .ref (b 27), .ref (b 28), .ref (b 29), .ref (b 30), .ref (b 31), .ref (b 32), .int (gg 32), .int (nI md), .ref (b 35), .ref (b 36), .ref (b 37), .ref (b 38), .ref (b 39), .ref (b 40), .int (gg 40), .ref (b 42), .ref (b 43), .ref (b 44), .int (nI wt), .ref (b 46), .ref (b 47), .int pz, .ref (b 49)])), (b 46, .inl (cI, 7, .inl v_8_0))] hP hD rfl
          refine lv_iinc (v := (nI (lw + 1))) (lv' := [(3, .int (nI (lw + 1))), (0, .ref (b 0)), (1, .int ((nI wu) - 2)), (2, .int (nI kk)), (4, .int (nI hw2))]) hx hb dX8_nextOrder_99 hl (k := 3) rfl (nI_1 _) (by decide) rfl (fun ls hl => ?_)
          refine lv_iinc (v := (nI (hw2 - 1))) (lv' := [(4, .int (nI (hw2 - 1))), (3, .int (nI (lw + 1))), (0, .ref (b 0)), (1, .int ((nI wu) - 2)), (2, .int (nI kk))]) hx hb dX8_nextOrder_102 hl (k := 4) rfl (zz_predI (by omega)) (by decide) rfl (fun ls hl => ?_)
          refine lv_goto (tgt := 86) hx hb dX8_nextOrder_105 (by decide) ?_
          exact ih_86 ((lw + 1), (hw2 - 1), v_8_0) ⟨by omega, by omega, by omega, (by rw [e_8]; exact zz_sw_pm io (by omega) (by omega)), (by rw [e_8]; exact zz_mir_s im (by omega) (by omega) (by omega))⟩ (show wt - (lw + 1) < wt - lw from by omega) _ _ _ (hP.sub [0, 1] rfl) (hD.sub [0, 1] (by decide) rfl) hS (lv_sub hl [2, 3, 4, 1, 0] rfl)
      · have zc_5 := c_5
        rw [Int32.le_iff_toInt_le] at zc_5
        refine lv_iinc (v := (nI (kk - 1))) (lv' := [(2, .int (nI (kk - 1))), (0, .ref (b 0)), (1, .int ((nI wu) - 2))]) hx hb dX8_nextOrder_62 hl (k := 2) rfl (zz_predI (by omega)) (by decide) rfl (fun ls hl => ?_)
        refine lv_goto (tgt := 47) hx hb dX8_nextOrder_65 (by decide) ?_
        exact ih_47 (kk - 1) ⟨Nat.le_sub_one_of_lt (zz_lt_of (by omega) (fun h9 => by rw [← h9] at zc_5; omega)), by omega, zz_kk_s ikk (by omega)⟩ (show (kk - 1) < kk from by omega) _ _ _ (hP.sub [0, 1] rfl) (hD.sub [0, 1] (by decide) rfl) hS (lv_sub hl [1, 2, 0] rfl)
    · have zc_3 := c_3
      rw [Int32.le_iff_toInt_le] at zc_3
      refine lv_iinc (v := (nI (wu - 1)) - 2) (lv' := [(1, .int ((nI (wu - 1)) - 2)), (0, .ref (b 0))]) hx hb dX8_nextOrder_28 hl (k := 1) rfl (zz_iw2 (by omega) (by omega)) (by decide) rfl (fun ls hl => ?_)
      refine lv_goto (tgt := 7) hx hb dX8_nextOrder_31 (by decide) ?_
      exact ih_7 (wu - 1) ⟨by omega, zz_dsc_s idc (by omega) (by omega)⟩ (show (wu - 1) < wu from by omega) _ _ _ (hP.sub [0, 1] rfl) (hD.sub [0, 1] (by decide) rfl) hS (lv_sub hl [1, 0] rfl)
