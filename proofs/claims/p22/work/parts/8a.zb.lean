set_option maxHeartbeats 4000000 in
set_option maxRecDepth 100000 in
theorem mx_free (l : Launch) (dC : Nat → ClassId) (dI : Nat → Nat → Nat) (b : Nat → Nat) (gg : Nat → Int32) (mt : Nat) (mc : Nat) (mh : Nat) (mf : Nat) (md : Nat) (cI : ClassId) (il : Nat → Int32) (ha : Nat → Int32) (us : Nat → Int32) (p0 : Int32) (sz : Nat) (hp8 : 0 ≤ p0.toInt ∧ p0.toInt < 8) : Met l yX8_free (zz_w yX8_free cX8_free 2 (some .int)) ({ frames := 0, cells := 0, slots := 0, locals := 0 }) (va_Pc [.ref (b 0), .int p0] (zz_B (dC, dI) sz [(b 0, .inr (8, [.ref (b 1), .int (nI mt), .int (gg 2), .int (gg 3), .int (gg 4), .int (gg 5), .int (gg 6), .int (gg 7), .int (gg 8), .int (gg 9), .ref (b 11), .ref (b 12), .ref (b 13), .int (nI mc), .int (nI mh), .ref (b 16), .ref (b 17), .ref (b 18), .ref (b 19), .ref (b 20), .ref (b 21), .ref (b 22), .ref (b 23), .ref (b 24), .int (nI mf), .ref (b 26), .ref (b 27), .ref (b 28), .ref (b 29), .ref (b 30), .ref (b 31), .ref (b 32), .int (gg 32), .int (nI md), .ref (b 35), .ref (b 36), .ref (b 37), .ref (b 38), .ref (b 39), .ref (b 40), .int (gg 40), .ref (b 42), .ref (b 43), .ref (b 44), .int (gg 44), .ref (b 46), .ref (b 47), .int (gg 47), .ref (b 49)])), (b 18, .inl (cI, 8, .inl il)), (b 16, .inl (cI, 8, .inl ha)), (b 19, .inl (cI, 8, .inl us))] [(cI, .int)])) (va_Qi (fun (r : Int32) (_ : Unit) => r = zz_fr il ha us (Int32.toNatClampNeg p0)) (fun _ _ => True) (va_A [] sz)) 0 0 (va_A [] sz) := by
  refine Met.ofW (cc := cX8_free) (maxL := 2) (ret := (some .int)) (by decide) rfl ?_
  intro p e s m args below meth c s₁ B hml hv
  obtain ⟨rfl, hsz, hP, hK, hD0, hN⟩ := hv
  have hx := B.exec
  have hb := B.bytes
  have hr := B.returns
  have hts := atoms_spec (ws := zz_w yX8_free cX8_free 2 (some .int)) B.pre
  have hw : ∀ w ∈ zz_all, w.before _ s = true := fun w h => hts w (List.mem_cons_of_mem _ h)
  have hown : s.vm.findClass RX8 = some m.cls := findClass_of_methodNamed B.named
  have hlocks := B.notSynchronized
  subst hsz
  have hD := hD0
  generalize hAe : va_A [] s.heap.size = A
  have hA : ∀ q : Nat, s.heap.size ≤ q → A q := fun q h => by rw [← hAe]; exact Or.inr h
  have hS : va_S A s.heap s.heap [] := va_S.rf
  have hP : va_P (dC, dI) vwCl [(b 0, .inr (8, [.ref (b 1), .int (nI mt), .int (gg 2), .int (gg 3), .int (gg 4), .int (gg 5), .int (gg 6), .int (gg 7), .int (gg 8), .int (gg 9), .ref (b 11), .ref (b 12), .ref (b 13), .int (nI mc), .int (nI mh), .ref (b 16), .ref (b 17), .ref (b 18), .ref (b 19), .ref (b 20), .ref (b 21), .ref (b 22), .ref (b 23), .ref (b 24), .int (nI mf), .ref (b 26), .ref (b 27), .ref (b 28), .ref (b 29), .ref (b 30), .ref (b 31), .ref (b 32), .int (gg 32), .int (nI md), .ref (b 35), .ref (b 36), .ref (b 37), .ref (b 38), .ref (b 39), .ref (b 40), .int (gg 40), .ref (b 42), .ref (b 43), .ref (b 44), .int (gg 44), .ref (b 46), .ref (b 47), .int (gg 47), .ref (b 49)])), (b 18, .inl (cI, 8, .inl il)), (b 16, .inl (cI, 8, .inl ha)), (b 19, .inl (cI, 8, .inl us))] s.heap := hP
  have hl := lv_entry ([.ref (b 0), .int p0]) (n := 2) (Nat.le_of_ble_eq_true rfl)
  rw [lg_entry_eq]
  generalize (lg_sl ([.ref (b 0), .int p0]) ++ List.replicate (2 - (lg_sl ([.ref (b 0), .int p0])).length) Slot.unset).toArray = ls at hl ⊢
  have hl : lv_has ls 2 [(0, .ref (b 0)), (1, .int p0)] := hl
  refine lv_aload_n hx hb dX8_free_0 rfl (lv_at hl 0 rfl) ?_
  refine va_get (D := (dC, dI)) (ci := 8) (v := .ref (b 18)) (C := RX8) (T := TX8) (N := 49) hx hb hw zz_inX8 hown hK hP 0 rfl rfl 17 (by decide) (hw _ tw_202) (fun _ h9 => h9) rfl dX8_free_1 ?_
  refine lv_iload_n hx hb dX8_free_4 rfl (lv_at hl 1 rfl) ?_
  refine va_iald hx hb hK hP 1 0 rfl rfl (vp_in_iff.mpr (by constructor <;> omega)) dX8_free_5 ?_
  refine lv_if_le (tgt := 13) hx hb dX8_free_6 (by decide) (fun c_1 => ?_) (fun c_1 => ?_)
  · have zc_1 := c_1
    rw [Int32.le_iff_toInt_le] at zc_1
    try rw [show (0 : Int32).toInt = 0 from by decide] at zc_1
    refine lv_aload_n hx hb dX8_free_13 rfl (lv_at hl 0 rfl) ?_
    refine va_get (D := (dC, dI)) (ci := 8) (v := .ref (b 16)) (C := RX8) (T := TX8) (N := 49) hx hb hw zz_inX8 hown hK hP 0 rfl rfl 15 (by decide) (hw _ tw_189) (fun _ h9 => h9) rfl dX8_free_14 ?_
    refine lv_iload_n hx hb dX8_free_17 rfl (lv_at hl 1 rfl) ?_
    refine va_iald hx hb hK hP 2 0 rfl rfl (vp_in_iff.mpr (by constructor <;> omega)) dX8_free_18 ?_
    refine lv_aload_n hx hb dX8_free_19 rfl (lv_at hl 0 rfl) ?_
    refine va_get (D := (dC, dI)) (ci := 8) (v := .ref (b 19)) (C := RX8) (T := TX8) (N := 49) hx hb hw zz_inX8 hown hK hP 0 rfl rfl 18 (by decide) (hw _ tw_205) (fun _ h9 => h9) rfl dX8_free_20 ?_
    refine lv_iload_n hx hb dX8_free_23 rfl (lv_at hl 1 rfl) ?_
    refine va_iald hx hb hK hP 3 0 rfl rfl (vp_in_iff.mpr (by constructor <;> omega)) dX8_free_24 ?_
    refine lv_isub hx hb dX8_free_25 ?_
    exact W.iret (v := ((ha (Int32.toNatClampNeg p0)) - (us (Int32.toNatClampNeg p0)))) hx hb hr (fun t ht hW => ⟨⟨((ha (Int32.toNatClampNeg p0)) - (us (Int32.toNatClampNeg p0))), (), rfl, (by unfold zz_fr; first | exact (if_pos (by omega)).symm | exact (if_neg (by omega)).symm), trivial⟩, hS.F ht⟩) hS.2.2 dX8_free_26
  · have zc_1 := c_1
    rw [Int32.le_iff_toInt_le] at zc_1
    try rw [show (0 : Int32).toInt = 0 from by decide] at zc_1
    refine lv_iconst (v := 0) hx hb dX8_free_9 (by decide) ?_
    refine lv_goto (tgt := 26) hx hb dX8_free_10 (by decide) ?_
    exact W.iret (v := 0) hx hb hr (fun t ht hW => ⟨⟨0, (), rfl, (by unfold zz_fr; first | exact (if_pos (by omega)).symm | exact (if_neg (by omega)).symm), trivial⟩, hS.F ht⟩) hS.2.2 dX8_free_26
set_option maxHeartbeats 4000000 in
set_option maxRecDepth 100000 in
theorem mx_canWork (l : Launch) (dC : Nat → ClassId) (dI : Nat → Nat → Nat) (b : Nat → Nat) (gg : Nat → Int32) (mt : Nat) (mc : Nat) (mh : Nat) (mf : Nat) (md : Nat) (cI : ClassId) (re : Nat → Int32) (nee : Nat → Int32) (p0 : Int32) (p1 : Int32) (sz : Nat) (hmf : mf ≤ 12) (hmc : mc ≤ 400) : Met l yX8_canWork (zz_w yX8_canWork cX8_canWork 3 (some .boolean)) ({ frames := 2, cells := 0, slots := 0, locals := 46 }) (va_Pc [.ref (b 0), .int p0, .int p1] (zz_B (dC, dI) sz [(b 0, .inr (8, [.ref (b 1), .int (nI mt), .int (gg 2), .int (gg 3), .int (gg 4), .int (gg 5), .int (gg 6), .int (gg 7), .int (gg 8), .int (gg 9), .ref (b 11), .ref (b 12), .ref (b 13), .int (nI mc), .int (nI mh), .ref (b 16), .ref (b 17), .ref (b 18), .ref (b 19), .ref (b 20), .ref (b 21), .ref (b 22), .ref (b 23), .ref (b 24), .int (nI mf), .ref (b 26), .ref (b 27), .ref (b 28), .ref (b 29), .ref (b 30), .ref (b 31), .ref (b 32), .int (gg 32), .int (nI md), .ref (b 35), .ref (b 36), .ref (b 37), .ref (b 38), .ref (b 39), .ref (b 40), .int (gg 40), .ref (b 42), .ref (b 43), .ref (b 44), .int (gg 44), .ref (b 46), .ref (b 47), .int (gg 47), .ref (b 49)])), (b 29, .inl (cI, 12, .inl re)), (b 28, .inl (cI, 12, .inl nee))] [(cI, .int)])) (va_Qi (fun (r : Int32) (_ : Unit) => (((0 ≤ p0.toInt ∧ p0.toInt < (mf : Int)) ∧ 1 ≤ p1.toInt ∧ (re (Int32.toNatClampNeg p0)).toInt ≤ (mc : Int) ∧ p1.toInt ≤ (nee (Int32.toNatClampNeg p0)).toInt) ∧ r = 1) ∨ (¬ ((0 ≤ p0.toInt ∧ p0.toInt < (mf : Int)) ∧ 1 ≤ p1.toInt ∧ (re (Int32.toNatClampNeg p0)).toInt ≤ (mc : Int) ∧ p1.toInt ≤ (nee (Int32.toNatClampNeg p0)).toInt) ∧ r = 0)) (fun _ _ => True) (va_A [] sz)) 0 0 (va_A [] sz) := by
  refine Met.ofW (cc := cX8_canWork) (maxL := 3) (ret := (some .boolean)) (by decide) rfl ?_
  intro p e s m args below meth c s₁ B hml hv
  obtain ⟨rfl, hsz, hP, hK, hD0, hN⟩ := hv
  have hx := B.exec
  have hb := B.bytes
  have hr := B.returns
  have hts := atoms_spec (ws := zz_w yX8_canWork cX8_canWork 3 (some .boolean)) B.pre
  have hw : ∀ w ∈ zz_all, w.before _ s = true := fun w h => hts w (List.mem_cons_of_mem _ h)
  have hown : s.vm.findClass RX8 = some m.cls := findClass_of_methodNamed B.named
  have hlocks := B.notSynchronized
  subst hsz
  have hD := hD0
  generalize hAe : va_A [] s.heap.size = A
  have hA : ∀ q : Nat, s.heap.size ≤ q → A q := fun q h => by rw [← hAe]; exact Or.inr h
  have hS : va_S A s.heap s.heap [] := va_S.rf
  have hP : va_P (dC, dI) vwCl [(b 0, .inr (8, [.ref (b 1), .int (nI mt), .int (gg 2), .int (gg 3), .int (gg 4), .int (gg 5), .int (gg 6), .int (gg 7), .int (gg 8), .int (gg 9), .ref (b 11), .ref (b 12), .ref (b 13), .int (nI mc), .int (nI mh), .ref (b 16), .ref (b 17), .ref (b 18), .ref (b 19), .ref (b 20), .ref (b 21), .ref (b 22), .ref (b 23), .ref (b 24), .int (nI mf), .ref (b 26), .ref (b 27), .ref (b 28), .ref (b 29), .ref (b 30), .ref (b 31), .ref (b 32), .int (gg 32), .int (nI md), .ref (b 35), .ref (b 36), .ref (b 37), .ref (b 38), .ref (b 39), .ref (b 40), .int (gg 40), .ref (b 42), .ref (b 43), .ref (b 44), .int (gg 44), .ref (b 46), .ref (b 47), .int (gg 47), .ref (b 49)])), (b 29, .inl (cI, 12, .inl re)), (b 28, .inl (cI, 12, .inl nee))] s.heap := hP
  have hl := lv_entry ([.ref (b 0), .int p0, .int p1]) (n := 3) (Nat.le_of_ble_eq_true rfl)
  rw [lg_entry_eq]
  generalize (lg_sl ([.ref (b 0), .int p0, .int p1]) ++ List.replicate (3 - (lg_sl ([.ref (b 0), .int p0, .int p1])).length) Slot.unset).toArray = ls at hl ⊢
  have hl : lv_has ls 3 [(0, .ref (b 0)), (1, .int p0), (2, .int p1)] := hl
  refine lv_aload_n hx hb dX8_canWork_0 rfl (lv_at hl 0 rfl) ?_
  refine lv_iload_n hx hb dX8_canWork_1 rfl (lv_at hl 1 rfl) ?_
  obtain ⟨hPc, hDc⟩ := zz_sub2 (ws' := [(b 0, .inr (8, [.ref (b 1), .int (nI mt), .int (gg 2), .int (gg 3), .int (gg 4), .int (gg 5), .int (gg 6), .int (gg 7), .int (gg 8), .int (gg 9), .ref (b 11), .ref (b 12), .ref (b 13), .int (nI mc), .int (nI mh), .ref (b 16), .ref (b 17), .ref (b 18), .ref (b 19), .ref (b 20), .ref (b 21), .ref (b 22), .ref (b 23), .ref (b 24), .int (nI mf), .ref (b 26), .ref (b 27), .ref (b 28), .ref (b 29), .ref (b 30), .ref (b 31), .ref (b 32), .int (gg 32), .int (nI md), .ref (b 35), .ref (b 36), .ref (b 37), .ref (b 38), .ref (b 39), .ref (b 40), .int (gg 40), .ref (b 42), .ref (b 43), .ref (b 44), .int (gg 44), .ref (b 46), .ref (b 47), .int (gg 47), .ref (b 49)]))]) hP hD [0] (by decide) rfl
  have hKc := hK.sub (tys' := []) [] rfl
  have hFc := zz_free0 hS hA
  refine va_calli (va_runV (As := [.int p0]) (rest := []) ⟨hx, hb, hml, hown, hw⟩ (m_isField l dC dI b gg mt mc mh mf md p0 s.heap.size (by omega)) ⟨callB_of 1 hw (zz_good tw_229) rfl rfl rfl (hw _ tw_184) (hw _ tw_230) (by decide +kernel) ⟨Nat.le_of_ble_eq_true rfl, Nat.le_of_ble_eq_true rfl⟩, (hw _ tw_231), (hw _ tw_232)⟩ ⟨zz_blind, va_recv hKc hPc (ci := 8) (q0 := 0) rfl rfl, zz_pre hPc hKc hDc hN⟩ rfl rfl hl.1 rfl (lv_room (Nat.le_of_ble_eq_true rfl)) dX8_canWork_2 ⟨Nat.le_of_ble_eq_true rfl, Nat.le_of_ble_eq_true rfl⟩) hS (fun q _ h => hFc q h) hFc (fun r_1 u_1 t H1 locs ht hvm e_1 hB hz1 hk1 hS => ?_)
  try dsimp only at e_1
  have hP := zz_keep hP hk1
  clear hk1 hB ht hvm
  generalize H1 = H at hP hS ⊢
  rcases e_1 with ⟨n1_1, er_1⟩ | ⟨n1_1, er_1⟩
  · refine zz_seti 1 er_1 ?_
    refine lv_if_eq (tgt := 40) hx hb dX8_canWork_5 (by decide) (fun c_9 => absurd c_9 (by decide)) (fun _ => ?_)
    refine lv_iload_n hx hb dX8_canWork_8 rfl (lv_at hl 2 rfl) ?_
    refine lv_iconst (v := 1) hx hb dX8_canWork_9 (by decide) ?_
    refine lv_icmp_lt (tgt := 40) hx hb dX8_canWork_10 (by decide) (fun c_2 => ?_) (fun c_2 => ?_)
    · have zc_2 := c_2
      rw [Int32.lt_iff_toInt_lt] at zc_2
      try rw [show (1 : Int32).toInt = 1 from by decide] at zc_2
      refine lv_iconst (v := 0) hx hb dX8_canWork_40 (by decide) ?_
      exact W.zret (v := 0) hx hb hr (rfl) (fun t ht hW => ⟨⟨0, (), rfl, (by first | exact Or.inl ⟨by omega, rfl⟩ | exact Or.inr ⟨by omega, rfl⟩), trivial⟩, hS.F ht⟩) hS.2.2 dX8_canWork_41
    · have zc_2 := c_2
      rw [Int32.lt_iff_toInt_lt] at zc_2
      try rw [show (1 : Int32).toInt = 1 from by decide] at zc_2
      refine lv_aload_n hx hb dX8_canWork_13 rfl (lv_at hl 0 rfl) ?_
      refine va_get (D := (dC, dI)) (ci := 8) (v := .ref (b 29)) (C := RX8) (T := TX8) (N := 49) hx hb hw zz_inX8 hown hK hP 0 rfl rfl 28 (by decide) (hw _ tw_223) (fun _ h9 => h9) rfl dX8_canWork_14 ?_
      refine lv_iload_n hx hb dX8_canWork_17 rfl (lv_at hl 1 rfl) ?_
      refine va_iald hx hb hK hP 1 0 rfl rfl (vp_in_iff.mpr (by constructor <;> omega)) dX8_canWork_18 ?_
      refine lv_aload_n hx hb dX8_canWork_19 rfl (lv_at hl 0 rfl) ?_
      refine va_get (D := (dC, dI)) (ci := 8) (v := .int (nI mc)) (C := RX8) (T := TX8) (N := 49) hx hb hw zz_inX8 hown hK hP 0 rfl rfl 13 (by decide) (hw _ tw_219) (fun _ h9 => h9) rfl dX8_canWork_20 ?_
      refine lv_icmp_gt (tgt := 40) hx hb dX8_canWork_23 (by decide) (fun c_3 => ?_) (fun c_3 => ?_)
      · have zc_3 := c_3
        rw [Int32.lt_iff_toInt_lt] at zc_3
        try rw [zz_toInt mc (by omega)] at zc_3
        refine lv_iconst (v := 0) hx hb dX8_canWork_40 (by decide) ?_
        exact W.zret (v := 0) hx hb hr (rfl) (fun t ht hW => ⟨⟨0, (), rfl, (by first | exact Or.inl ⟨by omega, rfl⟩ | exact Or.inr ⟨by omega, rfl⟩), trivial⟩, hS.F ht⟩) hS.2.2 dX8_canWork_41
      · have zc_3 := c_3
        rw [Int32.lt_iff_toInt_lt] at zc_3
        try rw [zz_toInt mc (by omega)] at zc_3
        refine lv_iload_n hx hb dX8_canWork_26 rfl (lv_at hl 2 rfl) ?_
        refine lv_aload_n hx hb dX8_canWork_27 rfl (lv_at hl 0 rfl) ?_
        refine va_get (D := (dC, dI)) (ci := 8) (v := .ref (b 28)) (C := RX8) (T := TX8) (N := 49) hx hb hw zz_inX8 hown hK hP 0 rfl rfl 27 (by decide) (hw _ tw_233) (fun _ h9 => h9) rfl dX8_canWork_28 ?_
        refine lv_iload_n hx hb dX8_canWork_31 rfl (lv_at hl 1 rfl) ?_
        refine va_iald hx hb hK hP 2 0 rfl rfl (vp_in_iff.mpr (by constructor <;> omega)) dX8_canWork_32 ?_
        refine lv_icmp_gt (tgt := 40) hx hb dX8_canWork_33 (by decide) (fun c_4 => ?_) (fun c_4 => ?_)
        · have zc_4 := c_4
          rw [Int32.lt_iff_toInt_lt] at zc_4
          refine lv_iconst (v := 0) hx hb dX8_canWork_40 (by decide) ?_
          exact W.zret (v := 0) hx hb hr (rfl) (fun t ht hW => ⟨⟨0, (), rfl, (by first | exact Or.inl ⟨by omega, rfl⟩ | exact Or.inr ⟨by omega, rfl⟩), trivial⟩, hS.F ht⟩) hS.2.2 dX8_canWork_41
        · have zc_4 := c_4
          rw [Int32.lt_iff_toInt_lt] at zc_4
          refine lv_iconst (v := 1) hx hb dX8_canWork_36 (by decide) ?_
          refine lv_goto (tgt := 41) hx hb dX8_canWork_37 (by decide) ?_
          exact W.zret (v := 1) hx hb hr (rfl) (fun t ht hW => ⟨⟨1, (), rfl, (by first | exact Or.inl ⟨by omega, rfl⟩ | exact Or.inr ⟨by omega, rfl⟩), trivial⟩, hS.F ht⟩) hS.2.2 dX8_canWork_41
  · refine zz_seti 0 er_1 ?_
    refine lv_if_eq (tgt := 40) hx hb dX8_canWork_5 (by decide) (fun _ => ?_) (fun c_9 => absurd c_9 (by decide))
    refine lv_iconst (v := 0) hx hb dX8_canWork_40 (by decide) ?_
    exact W.zret (v := 0) hx hb hr (rfl) (fun t ht hW => ⟨⟨0, (), rfl, (by first | exact Or.inl ⟨by omega, rfl⟩ | exact Or.inr ⟨by omega, rfl⟩), trivial⟩, hS.F ht⟩) hS.2.2 dX8_canWork_41
set_option maxHeartbeats 4000000 in
set_option maxRecDepth 100000 in
theorem mx_lossOf (l : Launch) (dC : Nat → ClassId) (dI : Nat → Nat → Nat) (b : Nat → Nat) (gg : Nat → Int32) (mt : Nat) (mc : Nat) (mh : Nat) (mf : Nat) (md : Nat) (cI : ClassId) (re : Nat → Int32) (lo : Nat → Int32) (p0 : Int32) (p1 : Int32) (sz : Nat) (hp12 : 0 ≤ p0.toInt ∧ p0.toInt < 12) (hre : 0 ≤ (re (Int32.toNatClampNeg p0)).toInt ∧ (re (Int32.toNatClampNeg p0)).toInt ≤ p1.toInt) : Met l yX8_lossOf (zz_w yX8_lossOf cX8_lossOf 4 (some .int)) ({ frames := 0, cells := 0, slots := 0, locals := 0 }) (va_Pc [.ref (b 0), .int p0, .int p1] (zz_B (dC, dI) sz [(b 0, .inr (8, [.ref (b 1), .int (nI mt), .int (gg 2), .int (gg 3), .int (gg 4), .int (gg 5), .int (gg 6), .int (gg 7), .int (gg 8), .int (gg 9), .ref (b 11), .ref (b 12), .ref (b 13), .int (nI mc), .int (nI mh), .ref (b 16), .ref (b 17), .ref (b 18), .ref (b 19), .ref (b 20), .ref (b 21), .ref (b 22), .ref (b 23), .ref (b 24), .int (nI mf), .ref (b 26), .ref (b 27), .ref (b 28), .ref (b 29), .ref (b 30), .ref (b 31), .ref (b 32), .int (gg 32), .int (nI md), .ref (b 35), .ref (b 36), .ref (b 37), .ref (b 38), .ref (b 39), .ref (b 40), .int (gg 40), .ref (b 42), .ref (b 43), .ref (b 44), .int (gg 44), .ref (b 46), .ref (b 47), .int (gg 47), .ref (b 49)])), (b 29, .inl (cI, 12, .inl re)), (b 24, .inl (cI, 10, .inl lo))] [(cI, .int)])) (va_Qi (fun (r : Int32) (_ : Unit) => r = lo (Int32.toNatClampNeg (if 9 < p1 - (re (Int32.toNatClampNeg p0)) then 9 else p1 - (re (Int32.toNatClampNeg p0))))) (fun _ _ => True) (va_A [] sz)) 0 0 (va_A [] sz) := by
  refine Met.ofW (cc := cX8_lossOf) (maxL := 4) (ret := (some .int)) (by decide) rfl ?_
  intro p e s m args below meth c s₁ B hml hv
  obtain ⟨rfl, hsz, hP, hK, hD0, hN⟩ := hv
  have hx := B.exec
  have hb := B.bytes
  have hr := B.returns
  have hts := atoms_spec (ws := zz_w yX8_lossOf cX8_lossOf 4 (some .int)) B.pre
  have hw : ∀ w ∈ zz_all, w.before _ s = true := fun w h => hts w (List.mem_cons_of_mem _ h)
  have hown : s.vm.findClass RX8 = some m.cls := findClass_of_methodNamed B.named
  have hlocks := B.notSynchronized
  subst hsz
  have hD := hD0
  generalize hAe : va_A [] s.heap.size = A
  have hA : ∀ q : Nat, s.heap.size ≤ q → A q := fun q h => by rw [← hAe]; exact Or.inr h
  have hS : va_S A s.heap s.heap [] := va_S.rf
  have hP : va_P (dC, dI) vwCl [(b 0, .inr (8, [.ref (b 1), .int (nI mt), .int (gg 2), .int (gg 3), .int (gg 4), .int (gg 5), .int (gg 6), .int (gg 7), .int (gg 8), .int (gg 9), .ref (b 11), .ref (b 12), .ref (b 13), .int (nI mc), .int (nI mh), .ref (b 16), .ref (b 17), .ref (b 18), .ref (b 19), .ref (b 20), .ref (b 21), .ref (b 22), .ref (b 23), .ref (b 24), .int (nI mf), .ref (b 26), .ref (b 27), .ref (b 28), .ref (b 29), .ref (b 30), .ref (b 31), .ref (b 32), .int (gg 32), .int (nI md), .ref (b 35), .ref (b 36), .ref (b 37), .ref (b 38), .ref (b 39), .ref (b 40), .int (gg 40), .ref (b 42), .ref (b 43), .ref (b 44), .int (gg 44), .ref (b 46), .ref (b 47), .int (gg 47), .ref (b 49)])), (b 29, .inl (cI, 12, .inl re)), (b 24, .inl (cI, 10, .inl lo))] s.heap := hP
  have hl := lv_entry ([.ref (b 0), .int p0, .int p1]) (n := 4) (Nat.le_of_ble_eq_true rfl)
  rw [lg_entry_eq]
  generalize (lg_sl ([.ref (b 0), .int p0, .int p1]) ++ List.replicate (4 - (lg_sl ([.ref (b 0), .int p0, .int p1])).length) Slot.unset).toArray = ls at hl ⊢
  have hl : lv_has ls 4 [(0, .ref (b 0)), (1, .int p0), (2, .int p1)] := hl
  refine lv_iload_n hx hb dX8_lossOf_0 rfl (lv_at hl 2 rfl) ?_
  refine lv_aload_n hx hb dX8_lossOf_1 rfl (lv_at hl 0 rfl) ?_
  refine va_get (D := (dC, dI)) (ci := 8) (v := .ref (b 29)) (C := RX8) (T := TX8) (N := 49) hx hb hw zz_inX8 hown hK hP 0 rfl rfl 28 (by decide) (hw _ tw_223) (fun _ h9 => h9) rfl dX8_lossOf_2 ?_
  refine lv_iload_n hx hb dX8_lossOf_5 rfl (lv_at hl 1 rfl) ?_
  refine va_iald hx hb hK hP 1 0 rfl rfl (vp_in_iff.mpr (by constructor <;> omega)) dX8_lossOf_6 ?_
  refine lv_isub hx hb dX8_lossOf_7 ?_
  refine lv_topi (fun lt elt => ?_)
  have zlt : lt.toInt = p1.toInt - (re (Int32.toNatClampNeg p0)).toInt := by rw [elt]; exact zz_subI (by omega) (by omega)
  refine lv_istore_n (lv' := [(3, .int lt), (0, .ref (b 0)), (1, .int p0), (2, .int p1)]) hx hb dX8_lossOf_8 rfl hl (by decide) rfl (fun ls hl => ?_)
  refine lv_aload_n hx hb dX8_lossOf_9 rfl (lv_at hl 1 rfl) ?_
  refine va_get (D := (dC, dI)) (ci := 8) (v := .ref (b 24)) (C := RX8) (T := TX8) (N := 49) hx hb hw zz_inX8 hown hK hP 0 rfl rfl 23 (by decide) (hw _ tw_204) (fun _ h9 => h9) rfl dX8_lossOf_10 ?_
  refine lv_iload_n hx hb dX8_lossOf_13 rfl (lv_at hl 0 rfl) ?_
  refine lv_bipush (v := 9) hx hb dX8_lossOf_14 (by decide) ?_
  refine lv_icmp_le (tgt := 24) hx hb dX8_lossOf_16 (by decide) (fun c_1 => ?_) (fun c_1 => ?_)
  · have zc_1 := c_1
    rw [Int32.le_iff_toInt_le] at zc_1
    try rw [show (9 : Int32).toInt = 9 from by decide] at zc_1
    refine lv_iload_n hx hb dX8_lossOf_24 rfl (lv_at hl 0 rfl) ?_
    refine va_iald hx hb hK hP 2 0 rfl rfl (vp_in_iff.mpr (by constructor <;> omega)) dX8_lossOf_25 ?_
    exact W.iret (v := (lo (Int32.toNatClampNeg lt))) hx hb hr (fun t ht hW => ⟨⟨(lo (Int32.toNatClampNeg lt)), (), rfl, (by show (lo (Int32.toNatClampNeg lt)) = lo (Int32.toNatClampNeg (if 9 < p1 - (re (Int32.toNatClampNeg p0)) then 9 else p1 - (re (Int32.toNatClampNeg p0)))); rw [← elt, if_neg (Int32.not_lt.mpr c_1)]), trivial⟩, hS.F ht⟩) hS.2.2 dX8_lossOf_26
  · have zc_1 := c_1
    rw [Int32.le_iff_toInt_le] at zc_1
    try rw [show (9 : Int32).toInt = 9 from by decide] at zc_1
    refine lv_bipush (v := 9) hx hb dX8_lossOf_19 (by decide) ?_
    refine lv_goto (tgt := 25) hx hb dX8_lossOf_21 (by decide) ?_
    refine va_iald hx hb hK hP 2 0 rfl rfl (zz_vin (by decide)) dX8_lossOf_25 ?_
    exact W.iret (v := (lo (Int32.toNatClampNeg 9))) hx hb hr (fun t ht hW => ⟨⟨(lo (Int32.toNatClampNeg 9)), (), rfl, (by show (lo (Int32.toNatClampNeg 9)) = lo (Int32.toNatClampNeg (if 9 < p1 - (re (Int32.toNatClampNeg p0)) then 9 else p1 - (re (Int32.toNatClampNeg p0)))); rw [← elt, if_pos (Int32.not_le.mp c_1)]), trivial⟩, hS.F ht⟩) hS.2.2 dX8_lossOf_26
set_option maxHeartbeats 4000000 in
set_option maxRecDepth 100000 in
theorem mx_proceeds (l : Launch) (dC : Nat → ClassId) (dI : Nat → Nat → Nat) (b : Nat → Nat) (gg : Nat → Int32) (mt : Nat) (mc : Nat) (mh : Nat) (mf : Nat) (md : Nat) (cI : ClassId) (re : Nat → Int32) (lo : Nat → Int32) (va : Nat → Int32) (p0 : Int32) (p1 : Int32) (sz : Nat) (hp12 : 0 ≤ p0.toInt ∧ p0.toInt < 12) (hre : 0 ≤ (re (Int32.toNatClampNeg p0)).toInt ∧ (re (Int32.toNatClampNeg p0)).toInt ≤ p1.toInt) : Met l yX8_proceeds (zz_w yX8_proceeds cX8_proceeds 3 (some .int)) ({ frames := 1, cells := 0, slots := 0, locals := 23 }) (va_Pc [.ref (b 0), .int p0, .int p1] (zz_B (dC, dI) sz [(b 0, .inr (8, [.ref (b 1), .int (nI mt), .int (gg 2), .int (gg 3), .int (gg 4), .int (gg 5), .int (gg 6), .int (gg 7), .int (gg 8), .int (gg 9), .ref (b 11), .ref (b 12), .ref (b 13), .int (nI mc), .int (nI mh), .ref (b 16), .ref (b 17), .ref (b 18), .ref (b 19), .ref (b 20), .ref (b 21), .ref (b 22), .ref (b 23), .ref (b 24), .int (nI mf), .ref (b 26), .ref (b 27), .ref (b 28), .ref (b 29), .ref (b 30), .ref (b 31), .ref (b 32), .int (gg 32), .int (nI md), .ref (b 35), .ref (b 36), .ref (b 37), .ref (b 38), .ref (b 39), .ref (b 40), .int (gg 40), .ref (b 42), .ref (b 43), .ref (b 44), .int (gg 44), .ref (b 46), .ref (b 47), .int (gg 47), .ref (b 49)])), (b 29, .inl (cI, 12, .inl re)), (b 24, .inl (cI, 10, .inl lo)), (b 30, .inl (cI, 12, .inl va))] [(cI, .int)])) (va_Qi (fun (r : Int32) (_ : Unit) => r = (zz_pc lo (va (Int32.toNatClampNeg p0)) (p1 - (re (Int32.toNatClampNeg p0))))) (fun _ _ => True) (va_A [] sz)) 0 0 (va_A [] sz) := by
  refine Met.ofW (cc := cX8_proceeds) (maxL := 3) (ret := (some .int)) (by decide) rfl ?_
  intro p e s m args below meth c s₁ B hml hv
  obtain ⟨rfl, hsz, hP, hK, hD0, hN⟩ := hv
  have hx := B.exec
  have hb := B.bytes
  have hr := B.returns
  have hts := atoms_spec (ws := zz_w yX8_proceeds cX8_proceeds 3 (some .int)) B.pre
  have hw : ∀ w ∈ zz_all, w.before _ s = true := fun w h => hts w (List.mem_cons_of_mem _ h)
  have hown : s.vm.findClass RX8 = some m.cls := findClass_of_methodNamed B.named
  have hlocks := B.notSynchronized
  subst hsz
  have hD := hD0
  generalize hAe : va_A [] s.heap.size = A
  have hA : ∀ q : Nat, s.heap.size ≤ q → A q := fun q h => by rw [← hAe]; exact Or.inr h
  have hS : va_S A s.heap s.heap [] := va_S.rf
  have hP : va_P (dC, dI) vwCl [(b 0, .inr (8, [.ref (b 1), .int (nI mt), .int (gg 2), .int (gg 3), .int (gg 4), .int (gg 5), .int (gg 6), .int (gg 7), .int (gg 8), .int (gg 9), .ref (b 11), .ref (b 12), .ref (b 13), .int (nI mc), .int (nI mh), .ref (b 16), .ref (b 17), .ref (b 18), .ref (b 19), .ref (b 20), .ref (b 21), .ref (b 22), .ref (b 23), .ref (b 24), .int (nI mf), .ref (b 26), .ref (b 27), .ref (b 28), .ref (b 29), .ref (b 30), .ref (b 31), .ref (b 32), .int (gg 32), .int (nI md), .ref (b 35), .ref (b 36), .ref (b 37), .ref (b 38), .ref (b 39), .ref (b 40), .int (gg 40), .ref (b 42), .ref (b 43), .ref (b 44), .int (gg 44), .ref (b 46), .ref (b 47), .int (gg 47), .ref (b 49)])), (b 29, .inl (cI, 12, .inl re)), (b 24, .inl (cI, 10, .inl lo)), (b 30, .inl (cI, 12, .inl va))] s.heap := hP
  have hl := lv_entry ([.ref (b 0), .int p0, .int p1]) (n := 3) (Nat.le_of_ble_eq_true rfl)
  rw [lg_entry_eq]
  generalize (lg_sl ([.ref (b 0), .int p0, .int p1]) ++ List.replicate (3 - (lg_sl ([.ref (b 0), .int p0, .int p1])).length) Slot.unset).toArray = ls at hl ⊢
  have hl : lv_has ls 3 [(0, .ref (b 0)), (1, .int p0), (2, .int p1)] := hl
  refine lv_aload_n hx hb dX8_proceeds_0 rfl (lv_at hl 0 rfl) ?_
  refine va_get (D := (dC, dI)) (ci := 8) (v := .ref (b 30)) (C := RX8) (T := TX8) (N := 49) hx hb hw zz_inX8 hown hK hP 0 rfl rfl 29 (by decide) (hw _ tw_224) (fun _ h9 => h9) rfl dX8_proceeds_1 ?_
  refine lv_iload_n hx hb dX8_proceeds_4 rfl (lv_at hl 1 rfl) ?_
  refine va_iald hx hb hK hP 3 0 rfl rfl (vp_in_iff.mpr (by constructor <;> omega)) dX8_proceeds_5 ?_
  refine lv_bipush (v := 100) hx hb dX8_proceeds_6 (by decide) ?_
  refine lv_aload_n hx hb dX8_proceeds_8 rfl (lv_at hl 0 rfl) ?_
  refine lv_iload_n hx hb dX8_proceeds_9 rfl (lv_at hl 1 rfl) ?_
  refine lv_iload_n hx hb dX8_proceeds_10 rfl (lv_at hl 2 rfl) ?_
  obtain ⟨hPc, hDc⟩ := zz_sub2 (ws' := [(b 0, .inr (8, [.ref (b 1), .int (nI mt), .int (gg 2), .int (gg 3), .int (gg 4), .int (gg 5), .int (gg 6), .int (gg 7), .int (gg 8), .int (gg 9), .ref (b 11), .ref (b 12), .ref (b 13), .int (nI mc), .int (nI mh), .ref (b 16), .ref (b 17), .ref (b 18), .ref (b 19), .ref (b 20), .ref (b 21), .ref (b 22), .ref (b 23), .ref (b 24), .int (nI mf), .ref (b 26), .ref (b 27), .ref (b 28), .ref (b 29), .ref (b 30), .ref (b 31), .ref (b 32), .int (gg 32), .int (nI md), .ref (b 35), .ref (b 36), .ref (b 37), .ref (b 38), .ref (b 39), .ref (b 40), .int (gg 40), .ref (b 42), .ref (b 43), .ref (b 44), .int (gg 44), .ref (b 46), .ref (b 47), .int (gg 47), .ref (b 49)])), (b 29, .inl (cI, 12, .inl re)), (b 24, .inl (cI, 10, .inl lo))]) hP hD [0, 1, 2] (by decide) rfl
  have hKc := hK.sub (tys' := [(cI, .int)]) [0] rfl
  have hFc := zz_free0 hS hA
  refine va_calli (va_runV (As := [.int p0, .int p1]) (rest := [.int 100, .int (va (Int32.toNatClampNeg p0))]) ⟨hx, hb, hml, hown, hw⟩ (mx_lossOf l dC dI b gg mt mc mh mf md cI re lo p0 p1 s.heap.size (by omega) (by omega)) ⟨callB_of 2 hw (zz_good tw_225) rfl rfl rfl (hw _ tw_184) (hw _ tw_226) (by decide +kernel) ⟨Nat.le_of_ble_eq_true rfl, Nat.le_of_ble_eq_true rfl⟩, (hw _ tw_227), (hw _ tw_228)⟩ ⟨zz_blind, va_recv hKc hPc (ci := 8) (q0 := 0) rfl rfl, zz_pre hPc hKc hDc hN⟩ rfl rfl hl.1 rfl (lv_room (Nat.le_of_ble_eq_true rfl)) dX8_proceeds_11 ⟨Nat.le_of_ble_eq_true rfl, Nat.le_of_ble_eq_true rfl⟩) hS (fun q _ h => hFc q h) hFc (fun r_1 u_1 t H1 locs ht hvm e_1 hB hz1 hk1 hS => ?_)
  try dsimp only at e_1
  have hP := zz_keep hP hk1
  clear hk1 hB ht hvm
  generalize H1 = H at hP hS ⊢
  refine zz_seti (lo (Int32.toNatClampNeg (if 9 < p1 - (re (Int32.toNatClampNeg p0)) then 9 else p1 - (re (Int32.toNatClampNeg p0))))) e_1 ?_
  refine lv_isub hx hb dX8_proceeds_14 ?_
  refine lv_imul hx hb dX8_proceeds_15 ?_
  refine lv_bipush (v := 100) hx hb dX8_proceeds_16 (by decide) ?_
  refine lv_idiv hx hb dX8_proceeds_18 (by decide) ?_
  exact W.iret (v := (((va (Int32.toNatClampNeg p0)) * (100 - (lo (Int32.toNatClampNeg (if 9 < p1 - (re (Int32.toNatClampNeg p0)) then 9 else p1 - (re (Int32.toNatClampNeg p0))))))) / 100)) hx hb hr (fun t ht hW => ⟨⟨(((va (Int32.toNatClampNeg p0)) * (100 - (lo (Int32.toNatClampNeg (if 9 < p1 - (re (Int32.toNatClampNeg p0)) then 9 else p1 - (re (Int32.toNatClampNeg p0))))))) / 100), (), rfl, rfl, trivial⟩, hS.F ht⟩) hS.2.2 dX8_proceeds_19
set_option maxHeartbeats 4000000 in
set_option maxRecDepth 100000 in
theorem mx_worked (l : Launch) (dC : Nat → ClassId) (dI : Nat → Nat → Nat) (b : Nat → Nat) (gg : Nat → Int32) (mt : Nat) (mc : Nat) (mh : Nat) (mf : Nat) (md : Nat) (cI : ClassId) (re : Nat → Int32) (lo : Nat → Int32) (va : Nat → Int32) (nee : Nat → Int32) (dn : Nat → Int32) (gt : Nat → Int32) (p0 : Int32) (p1 : Int32) (sz : Nat) (hmc : mc ≤ 400) (hmf : mf ≤ 12) (hpf : 0 ≤ p0.toInt ∧ p0.toInt < (mf : Int)) (hrn : zz_rg nee mf 0 60) (hdn : zz_dn dn nee mf) (hwk : 1 ≤ p1.toInt ∧ p1.toInt ≤ (nee (Int32.toNatClampNeg p0)).toInt) (hre : 0 ≤ (re (Int32.toNatClampNeg p0)).toInt ∧ (re (Int32.toNatClampNeg p0)).toInt ≤ (mc : Int)) : Met l yX8_worked (zz_w yX8_worked cX8_worked 3 (some .int)) ({ frames := 2, cells := 0, slots := 0, locals := 45 }) (va_Pc [.ref (b 0), .int p0, .int p1] (zz_B (dC, dI) sz [(b 0, .inr (8, [.ref (b 1), .int (nI mt), .int (gg 2), .int (gg 3), .int (gg 4), .int (gg 5), .int (gg 6), .int (gg 7), .int (gg 8), .int (gg 9), .ref (b 11), .ref (b 12), .ref (b 13), .int (nI mc), .int (nI mh), .ref (b 16), .ref (b 17), .ref (b 18), .ref (b 19), .ref (b 20), .ref (b 21), .ref (b 22), .ref (b 23), .ref (b 24), .int (nI mf), .ref (b 26), .ref (b 27), .ref (b 28), .ref (b 29), .ref (b 30), .ref (b 31), .ref (b 32), .int (gg 32), .int (nI md), .ref (b 35), .ref (b 36), .ref (b 37), .ref (b 38), .ref (b 39), .ref (b 40), .int (gg 40), .ref (b 42), .ref (b 43), .ref (b 44), .int (gg 44), .ref (b 46), .ref (b 47), .int (gg 47), .ref (b 49)])), (b 29, .inl (cI, 12, .inl re)), (b 24, .inl (cI, 10, .inl lo)), (b 30, .inl (cI, 12, .inl va)), (b 28, .inl (cI, 12, .inl nee)), (b 31, .inl (cI, 12, .inl dn)), (b 32, .inl (cI, 12, .inl gt))] [(cI, .int)])) (va_Qi (fun (r : Int32) (u : (Nat → Int32) × (Nat → Int32) × (Nat → Int32)) => match u with | (n2, d2, g2) => r = (nee (Int32.toNatClampNeg p0) - p1) ∧ n2 = upd nee (Int32.toNatClampNeg p0) (nee (Int32.toNatClampNeg p0) - p1) ∧ d2 = (if (nee (Int32.toNatClampNeg p0) - p1) = 0 then upd dn (Int32.toNatClampNeg p0) (nI mc) else dn) ∧ g2 = (if (nee (Int32.toNatClampNeg p0) - p1) = 0 then upd gt (Int32.toNatClampNeg p0) (zz_pc lo (va (Int32.toNatClampNeg p0)) ((nI mc) - (re (Int32.toNatClampNeg p0)))) else gt) ∧ zz_rg n2 mf 0 60 ∧ zz_dn d2 n2 mf) (fun (u : (Nat → Int32) × (Nat → Int32) × (Nat → Int32)) (t : State) => match u with | (u0, u1, u2) => va_P (dC, dI) vwCl [(b 0, .inr (8, [.ref (b 1), .int (nI mt), .int (gg 2), .int (gg 3), .int (gg 4), .int (gg 5), .int (gg 6), .int (gg 7), .int (gg 8), .int (gg 9), .ref (b 11), .ref (b 12), .ref (b 13), .int (nI mc), .int (nI mh), .ref (b 16), .ref (b 17), .ref (b 18), .ref (b 19), .ref (b 20), .ref (b 21), .ref (b 22), .ref (b 23), .ref (b 24), .int (nI mf), .ref (b 26), .ref (b 27), .ref (b 28), .ref (b 29), .ref (b 30), .ref (b 31), .ref (b 32), .int (gg 32), .int (nI md), .ref (b 35), .ref (b 36), .ref (b 37), .ref (b 38), .ref (b 39), .ref (b 40), .int (gg 40), .ref (b 42), .ref (b 43), .ref (b 44), .int (gg 44), .ref (b 46), .ref (b 47), .int (gg 47), .ref (b 49)])), (b 29, .inl (cI, 12, .inl re)), (b 24, .inl (cI, 10, .inl lo)), (b 30, .inl (cI, 12, .inl va)), (b 28, .inl (cI, 12, .inl u0)), (b 31, .inl (cI, 12, .inl u1)), (b 32, .inl (cI, 12, .inl u2))] t.heap ∧ va_K (dC, dI) vwCl [(cI, .int)] t ∧ va_D (va_A [(b 0, .inr (8, [.ref (b 1), .int (nI mt), .int (gg 2), .int (gg 3), .int (gg 4), .int (gg 5), .int (gg 6), .int (gg 7), .int (gg 8), .int (gg 9), .ref (b 11), .ref (b 12), .ref (b 13), .int (nI mc), .int (nI mh), .ref (b 16), .ref (b 17), .ref (b 18), .ref (b 19), .ref (b 20), .ref (b 21), .ref (b 22), .ref (b 23), .ref (b 24), .int (nI mf), .ref (b 26), .ref (b 27), .ref (b 28), .ref (b 29), .ref (b 30), .ref (b 31), .ref (b 32), .int (gg 32), .int (nI md), .ref (b 35), .ref (b 36), .ref (b 37), .ref (b 38), .ref (b 39), .ref (b 40), .int (gg 40), .ref (b 42), .ref (b 43), .ref (b 44), .int (gg 44), .ref (b 46), .ref (b 47), .int (gg 47), .ref (b 49)])), (b 29, .inl (cI, 12, .inl re)), (b 24, .inl (cI, 10, .inl lo)), (b 30, .inl (cI, 12, .inl va)), (b 28, .inl (cI, 12, .inl nee)), (b 31, .inl (cI, 12, .inl dn)), (b 32, .inl (cI, 12, .inl gt))] sz) [(b 0, .inr (8, [.ref (b 1), .int (nI mt), .int (gg 2), .int (gg 3), .int (gg 4), .int (gg 5), .int (gg 6), .int (gg 7), .int (gg 8), .int (gg 9), .ref (b 11), .ref (b 12), .ref (b 13), .int (nI mc), .int (nI mh), .ref (b 16), .ref (b 17), .ref (b 18), .ref (b 19), .ref (b 20), .ref (b 21), .ref (b 22), .ref (b 23), .ref (b 24), .int (nI mf), .ref (b 26), .ref (b 27), .ref (b 28), .ref (b 29), .ref (b 30), .ref (b 31), .ref (b 32), .int (gg 32), .int (nI md), .ref (b 35), .ref (b 36), .ref (b 37), .ref (b 38), .ref (b 39), .ref (b 40), .int (gg 40), .ref (b 42), .ref (b 43), .ref (b 44), .int (gg 44), .ref (b 46), .ref (b 47), .int (gg 47), .ref (b 49)])), (b 29, .inl (cI, 12, .inl re)), (b 24, .inl (cI, 10, .inl lo)), (b 30, .inl (cI, 12, .inl va)), (b 28, .inl (cI, 12, .inl u0)), (b 31, .inl (cI, 12, .inl u1)), (b 32, .inl (cI, 12, .inl u2))]) (va_A [(b 0, .inr (8, [.ref (b 1), .int (nI mt), .int (gg 2), .int (gg 3), .int (gg 4), .int (gg 5), .int (gg 6), .int (gg 7), .int (gg 8), .int (gg 9), .ref (b 11), .ref (b 12), .ref (b 13), .int (nI mc), .int (nI mh), .ref (b 16), .ref (b 17), .ref (b 18), .ref (b 19), .ref (b 20), .ref (b 21), .ref (b 22), .ref (b 23), .ref (b 24), .int (nI mf), .ref (b 26), .ref (b 27), .ref (b 28), .ref (b 29), .ref (b 30), .ref (b 31), .ref (b 32), .int (gg 32), .int (nI md), .ref (b 35), .ref (b 36), .ref (b 37), .ref (b 38), .ref (b 39), .ref (b 40), .int (gg 40), .ref (b 42), .ref (b 43), .ref (b 44), .int (gg 44), .ref (b 46), .ref (b 47), .int (gg 47), .ref (b 49)])), (b 29, .inl (cI, 12, .inl re)), (b 24, .inl (cI, 10, .inl lo)), (b 30, .inl (cI, 12, .inl va)), (b 28, .inl (cI, 12, .inl nee)), (b 31, .inl (cI, 12, .inl dn)), (b 32, .inl (cI, 12, .inl gt))] sz)) 0 0 (va_A [(b 0, .inr (8, [.ref (b 1), .int (nI mt), .int (gg 2), .int (gg 3), .int (gg 4), .int (gg 5), .int (gg 6), .int (gg 7), .int (gg 8), .int (gg 9), .ref (b 11), .ref (b 12), .ref (b 13), .int (nI mc), .int (nI mh), .ref (b 16), .ref (b 17), .ref (b 18), .ref (b 19), .ref (b 20), .ref (b 21), .ref (b 22), .ref (b 23), .ref (b 24), .int (nI mf), .ref (b 26), .ref (b 27), .ref (b 28), .ref (b 29), .ref (b 30), .ref (b 31), .ref (b 32), .int (gg 32), .int (nI md), .ref (b 35), .ref (b 36), .ref (b 37), .ref (b 38), .ref (b 39), .ref (b 40), .int (gg 40), .ref (b 42), .ref (b 43), .ref (b 44), .int (gg 44), .ref (b 46), .ref (b 47), .int (gg 47), .ref (b 49)])), (b 29, .inl (cI, 12, .inl re)), (b 24, .inl (cI, 10, .inl lo)), (b 30, .inl (cI, 12, .inl va)), (b 28, .inl (cI, 12, .inl nee)), (b 31, .inl (cI, 12, .inl dn)), (b 32, .inl (cI, 12, .inl gt))] sz) := by
  refine Met.ofW (cc := cX8_worked) (maxL := 3) (ret := (some .int)) (by decide) rfl ?_
  intro p e s m args below meth c s₁ B hml hv
  obtain ⟨rfl, hsz, hP, hK, hD0, hN⟩ := hv
  have hx := B.exec
  have hb := B.bytes
  have hr := B.returns
  have hts := atoms_spec (ws := zz_w yX8_worked cX8_worked 3 (some .int)) B.pre
  have hw : ∀ w ∈ zz_all, w.before _ s = true := fun w h => hts w (List.mem_cons_of_mem _ h)
  have hown : s.vm.findClass RX8 = some m.cls := findClass_of_methodNamed B.named
  have hlocks := B.notSynchronized
  subst hsz
  have hD := hD0.self (sz := s.heap.size)
  generalize hAe : va_A [(b 0, .inr (8, [.ref (b 1), .int (nI mt), .int (gg 2), .int (gg 3), .int (gg 4), .int (gg 5), .int (gg 6), .int (gg 7), .int (gg 8), .int (gg 9), .ref (b 11), .ref (b 12), .ref (b 13), .int (nI mc), .int (nI mh), .ref (b 16), .ref (b 17), .ref (b 18), .ref (b 19), .ref (b 20), .ref (b 21), .ref (b 22), .ref (b 23), .ref (b 24), .int (nI mf), .ref (b 26), .ref (b 27), .ref (b 28), .ref (b 29), .ref (b 30), .ref (b 31), .ref (b 32), .int (gg 32), .int (nI md), .ref (b 35), .ref (b 36), .ref (b 37), .ref (b 38), .ref (b 39), .ref (b 40), .int (gg 40), .ref (b 42), .ref (b 43), .ref (b 44), .int (gg 44), .ref (b 46), .ref (b 47), .int (gg 47), .ref (b 49)])), (b 29, .inl (cI, 12, .inl re)), (b 24, .inl (cI, 10, .inl lo)), (b 30, .inl (cI, 12, .inl va)), (b 28, .inl (cI, 12, .inl nee)), (b 31, .inl (cI, 12, .inl dn)), (b 32, .inl (cI, 12, .inl gt))] s.heap.size = A at hD ⊢
  have hA : ∀ q : Nat, s.heap.size ≤ q → A q := fun q h => by rw [← hAe]; exact Or.inr h
  have hS : va_S A s.heap s.heap [] := va_S.rf
  have hP : va_P (dC, dI) vwCl [(b 0, .inr (8, [.ref (b 1), .int (nI mt), .int (gg 2), .int (gg 3), .int (gg 4), .int (gg 5), .int (gg 6), .int (gg 7), .int (gg 8), .int (gg 9), .ref (b 11), .ref (b 12), .ref (b 13), .int (nI mc), .int (nI mh), .ref (b 16), .ref (b 17), .ref (b 18), .ref (b 19), .ref (b 20), .ref (b 21), .ref (b 22), .ref (b 23), .ref (b 24), .int (nI mf), .ref (b 26), .ref (b 27), .ref (b 28), .ref (b 29), .ref (b 30), .ref (b 31), .ref (b 32), .int (gg 32), .int (nI md), .ref (b 35), .ref (b 36), .ref (b 37), .ref (b 38), .ref (b 39), .ref (b 40), .int (gg 40), .ref (b 42), .ref (b 43), .ref (b 44), .int (gg 44), .ref (b 46), .ref (b 47), .int (gg 47), .ref (b 49)])), (b 29, .inl (cI, 12, .inl re)), (b 24, .inl (cI, 10, .inl lo)), (b 30, .inl (cI, 12, .inl va)), (b 28, .inl (cI, 12, .inl nee)), (b 31, .inl (cI, 12, .inl dn)), (b 32, .inl (cI, 12, .inl gt))] s.heap := hP
  have hl := lv_entry ([.ref (b 0), .int p0, .int p1]) (n := 3) (Nat.le_of_ble_eq_true rfl)
  rw [lg_entry_eq]
  generalize (lg_sl ([.ref (b 0), .int p0, .int p1]) ++ List.replicate (3 - (lg_sl ([.ref (b 0), .int p0, .int p1])).length) Slot.unset).toArray = ls at hl ⊢
  have hl : lv_has ls 3 [(0, .ref (b 0)), (1, .int p0), (2, .int p1)] := hl
  refine lv_aload_n hx hb dX8_worked_0 rfl (lv_at hl 0 rfl) ?_
  refine va_get (D := (dC, dI)) (ci := 8) (v := .ref (b 28)) (C := RX8) (T := TX8) (N := 49) hx hb hw zz_inX8 hown hK hP 0 rfl rfl 27 (by decide) (hw _ tw_233) (fun _ h9 => h9) rfl dX8_worked_1 ?_
  refine lv_iload_n hx hb dX8_worked_4 rfl (lv_at hl 1 rfl) ?_
  refine lv_dup2_11 hx hb dX8_worked_5 rfl rfl ?_
  refine va_iald hx hb hK hP 4 0 rfl rfl (vp_in_iff.mpr (by constructor <;> omega)) dX8_worked_6 ?_
  refine lv_iload_n hx hb dX8_worked_7 rfl (lv_at hl 2 rfl) ?_
  refine lv_isub hx hb dX8_worked_8 ?_
  refine va_iast hx hb hK hP hD hS 4 0 rfl rfl (vp_in_iff.mpr (by constructor <;> omega)) dX8_worked_9 (fun H locs hP hD hS => ?_)
  obtain ⟨hP, hD⟩ := zz_ty (D := (dC, dI)) (cl := vwCl) (A := A) (H := H) [(b 0, .inr (8, [.ref (b 1), .int (nI mt), .int (gg 2), .int (gg 3), .int (gg 4), .int (gg 5), .int (gg 6), .int (gg 7), .int (gg 8), .int (gg 9), .ref (b 11), .ref (b 12), .ref (b 13), .int (nI mc), .int (nI mh), .ref (b 16), .ref (b 17), .ref (b 18), .ref (b 19), .ref (b 20), .ref (b 21), .ref (b 22), .ref (b 23), .ref (b 24), .int (nI mf), .ref (b 26), .ref (b 27), .ref (b 28), .ref (b 29), .ref (b 30), .ref (b 31), .ref (b 32), .int (gg 32), .int (nI md), .ref (b 35), .ref (b 36), .ref (b 37), .ref (b 38), .ref (b 39), .ref (b 40), .int (gg 40), .ref (b 42), .ref (b 43), .ref (b 44), .int (gg 44), .ref (b 46), .ref (b 47), .int (gg 47), .ref (b 49)])), (b 29, .inl (cI, 12, .inl re)), (b 24, .inl (cI, 10, .inl lo)), (b 30, .inl (cI, 12, .inl va)), (b 28, .inl (cI, 12, .inl (upd nee (Int32.toNatClampNeg p0) ((nee (Int32.toNatClampNeg p0)) - p1)))), (b 31, .inl (cI, 12, .inl dn)), (b 32, .inl (cI, 12, .inl gt))] hP hD rfl
  refine lv_aload_n hx hb dX8_worked_10 rfl (lv_at hl 0 rfl) ?_
  refine va_get (D := (dC, dI)) (ci := 8) (v := .ref (b 28)) (C := RX8) (T := TX8) (N := 49) hx hb hw zz_inX8 hown hK hP 0 rfl rfl 27 (by decide) (hw _ tw_233) (fun _ h9 => h9) rfl dX8_worked_11 ?_
  refine lv_iload_n hx hb dX8_worked_14 rfl (lv_at hl 1 rfl) ?_
  refine va_iald hx hb hK hP 4 0 rfl rfl (vp_in_iff.mpr (by constructor <;> omega)) dX8_worked_15 ?_
  refine lv_if_ne (tgt := 44) hx hb dX8_worked_16 (by decide) (fun c_1 => ?_) (fun c_1 => ?_)
  · have zc_1 := c_1
    rw [← Int32.toInt_inj] at zc_1
    try rw [show (0 : Int32).toInt = 0 from by decide] at zc_1
    refine lv_aload_n hx hb dX8_worked_44 rfl (lv_at hl 0 rfl) ?_
    refine va_get (D := (dC, dI)) (ci := 8) (v := .ref (b 28)) (C := RX8) (T := TX8) (N := 49) hx hb hw zz_inX8 hown hK hP 0 rfl rfl 27 (by decide) (hw _ tw_233) (fun _ h9 => h9) rfl dX8_worked_45 ?_
    refine lv_iload_n hx hb dX8_worked_48 rfl (lv_at hl 1 rfl) ?_
    refine va_iald hx hb hK hP 4 0 rfl rfl (vp_in_iff.mpr (by constructor <;> omega)) dX8_worked_49 ?_
    obtain ⟨hP9, hD9⟩ := zz_sub2 (ws' := [(b 0, .inr (8, [.ref (b 1), .int (nI mt), .int (gg 2), .int (gg 3), .int (gg 4), .int (gg 5), .int (gg 6), .int (gg 7), .int (gg 8), .int (gg 9), .ref (b 11), .ref (b 12), .ref (b 13), .int (nI mc), .int (nI mh), .ref (b 16), .ref (b 17), .ref (b 18), .ref (b 19), .ref (b 20), .ref (b 21), .ref (b 22), .ref (b 23), .ref (b 24), .int (nI mf), .ref (b 26), .ref (b 27), .ref (b 28), .ref (b 29), .ref (b 30), .ref (b 31), .ref (b 32), .int (gg 32), .int (nI md), .ref (b 35), .ref (b 36), .ref (b 37), .ref (b 38), .ref (b 39), .ref (b 40), .int (gg 40), .ref (b 42), .ref (b 43), .ref (b 44), .int (gg 44), .ref (b 46), .ref (b 47), .int (gg 47), .ref (b 49)])), (b 29, .inl (cI, 12, .inl re)), (b 24, .inl (cI, 10, .inl lo)), (b 30, .inl (cI, 12, .inl va)), (b 28, .inl (cI, 12, .inl (upd nee (Int32.toNatClampNeg p0) ((nee (Int32.toNatClampNeg p0)) - p1)))), (b 31, .inl (cI, 12, .inl dn)), (b 32, .inl (cI, 12, .inl gt))]) hP hD [0, 1, 2, 3, 4, 5, 6] (by decide) rfl
    have hK9 := hK.sub (tys' := [(cI, .int)]) [0] rfl
    exact W.iret (v := ((upd nee (Int32.toNatClampNeg p0) ((nee (Int32.toNatClampNeg p0)) - p1)) (Int32.toNatClampNeg p0))) hx hb hr (fun t ht hW => ⟨⟨((upd nee (Int32.toNatClampNeg p0) ((nee (Int32.toNatClampNeg p0)) - p1)) (Int32.toNatClampNeg p0)), ((upd nee (Int32.toNatClampNeg p0) ((nee (Int32.toNatClampNeg p0)) - p1)), dn, gt), rfl, ⟨zz_up_s, rfl, (if_neg (fun h9 => c_1 (zz_up_s.trans h9))).symm, (if_neg (fun h9 => c_1 (zz_up_s.trans h9))).symm, (zz_rg_sub hrn (zz_lt hpf (Nat.le_refl _) (by omega)) (by omega) (by omega)), (zz_dn_1 hdn (by rw [zz_subI (by omega) (by omega)]; omega) c_1)⟩, by rw [ht]; exact hP9, va_K.moved hW.alike hK9, hD9⟩, hS.F ht⟩) hS.2.2 dX8_worked_50
  · have zc_1 := c_1
    rw [← Int32.toInt_inj] at zc_1
    try rw [show (0 : Int32).toInt = 0 from by decide] at zc_1
    refine lv_aload_n hx hb dX8_worked_19 rfl (lv_at hl 0 rfl) ?_
    refine va_get (D := (dC, dI)) (ci := 8) (v := .ref (b 31)) (C := RX8) (T := TX8) (N := 49) hx hb hw zz_inX8 hown hK hP 0 rfl rfl 30 (by decide) (hw _ tw_234) (fun _ h9 => h9) rfl dX8_worked_20 ?_
    refine lv_iload_n hx hb dX8_worked_23 rfl (lv_at hl 1 rfl) ?_
    refine lv_aload_n hx hb dX8_worked_24 rfl (lv_at hl 0 rfl) ?_
    refine va_get (D := (dC, dI)) (ci := 8) (v := .int (nI mc)) (C := RX8) (T := TX8) (N := 49) hx hb hw zz_inX8 hown hK hP 0 rfl rfl 13 (by decide) (hw _ tw_219) (fun _ h9 => h9) rfl dX8_worked_25 ?_
    refine va_iast hx hb hK hP hD hS 5 0 rfl rfl (vp_in_iff.mpr (by constructor <;> omega)) dX8_worked_28 (fun H locs hP hD hS => ?_)
    obtain ⟨hP, hD⟩ := zz_ty (D := (dC, dI)) (cl := vwCl) (A := A) (H := H) [(b 0, .inr (8, [.ref (b 1), .int (nI mt), .int (gg 2), .int (gg 3), .int (gg 4), .int (gg 5), .int (gg 6), .int (gg 7), .int (gg 8), .int (gg 9), .ref (b 11), .ref (b 12), .ref (b 13), .int (nI mc), .int (nI mh), .ref (b 16), .ref (b 17), .ref (b 18), .ref (b 19), .ref (b 20), .ref (b 21), .ref (b 22), .ref (b 23), .ref (b 24), .int (nI mf), .ref (b 26), .ref (b 27), .ref (b 28), .ref (b 29), .ref (b 30), .ref (b 31), .ref (b 32), .int (gg 32), .int (nI md), .ref (b 35), .ref (b 36), .ref (b 37), .ref (b 38), .ref (b 39), .ref (b 40), .int (gg 40), .ref (b 42), .ref (b 43), .ref (b 44), .int (gg 44), .ref (b 46), .ref (b 47), .int (gg 47), .ref (b 49)])), (b 29, .inl (cI, 12, .inl re)), (b 24, .inl (cI, 10, .inl lo)), (b 30, .inl (cI, 12, .inl va)), (b 28, .inl (cI, 12, .inl (upd nee (Int32.toNatClampNeg p0) ((nee (Int32.toNatClampNeg p0)) - p1)))), (b 31, .inl (cI, 12, .inl (upd dn (Int32.toNatClampNeg p0) (nI mc)))), (b 32, .inl (cI, 12, .inl gt))] hP hD rfl
    refine lv_aload_n hx hb dX8_worked_29 rfl (lv_at hl 0 rfl) ?_
    refine va_get (D := (dC, dI)) (ci := 8) (v := .ref (b 32)) (C := RX8) (T := TX8) (N := 49) hx hb hw zz_inX8 hown hK hP 0 rfl rfl 31 (by decide) (hw _ tw_235) (fun _ h9 => h9) rfl dX8_worked_30 ?_
    refine lv_iload_n hx hb dX8_worked_33 rfl (lv_at hl 1 rfl) ?_
    refine lv_aload_n hx hb dX8_worked_34 rfl (lv_at hl 0 rfl) ?_
    refine lv_iload_n hx hb dX8_worked_35 rfl (lv_at hl 1 rfl) ?_
    refine lv_aload_n hx hb dX8_worked_36 rfl (lv_at hl 0 rfl) ?_
    refine va_get (D := (dC, dI)) (ci := 8) (v := .int (nI mc)) (C := RX8) (T := TX8) (N := 49) hx hb hw zz_inX8 hown hK hP 0 rfl rfl 13 (by decide) (hw _ tw_219) (fun _ h9 => h9) rfl dX8_worked_37 ?_
    obtain ⟨hPc, hDc⟩ := zz_sub2 (ws' := [(b 0, .inr (8, [.ref (b 1), .int (nI mt), .int (gg 2), .int (gg 3), .int (gg 4), .int (gg 5), .int (gg 6), .int (gg 7), .int (gg 8), .int (gg 9), .ref (b 11), .ref (b 12), .ref (b 13), .int (nI mc), .int (nI mh), .ref (b 16), .ref (b 17), .ref (b 18), .ref (b 19), .ref (b 20), .ref (b 21), .ref (b 22), .ref (b 23), .ref (b 24), .int (nI mf), .ref (b 26), .ref (b 27), .ref (b 28), .ref (b 29), .ref (b 30), .ref (b 31), .ref (b 32), .int (gg 32), .int (nI md), .ref (b 35), .ref (b 36), .ref (b 37), .ref (b 38), .ref (b 39), .ref (b 40), .int (gg 40), .ref (b 42), .ref (b 43), .ref (b 44), .int (gg 44), .ref (b 46), .ref (b 47), .int (gg 47), .ref (b 49)])), (b 29, .inl (cI, 12, .inl re)), (b 24, .inl (cI, 10, .inl lo)), (b 30, .inl (cI, 12, .inl va))]) hP hD [0, 1, 2, 3] (by decide) rfl
    have hKc := hK.sub (tys' := [(cI, .int)]) [0] rfl
    have hFc := zz_free0 hS hA
    refine va_calli (va_runV (As := [.int p0, .int (nI mc)]) (rest := [.int p0, .ref (b 32)]) ⟨hx, hb, hml, hown, hw⟩ (mx_proceeds l dC dI b gg mt mc mh mf md cI re lo va p0 (nI mc) H.size (by omega) (by rw [zz_toInt mc (by omega)]; omega)) ⟨callB_of 2 hw (zz_good tw_236) rfl rfl rfl (hw _ tw_184) (hw _ tw_237) (by decide +kernel) ⟨Nat.le_of_ble_eq_true rfl, Nat.le_of_ble_eq_true rfl⟩, (hw _ tw_238), (hw _ tw_239)⟩ ⟨zz_blind, va_recv hKc hPc (ci := 8) (q0 := 0) rfl rfl, zz_pre hPc hKc hDc hN⟩ rfl rfl hl.1 rfl (lv_room (Nat.le_of_ble_eq_true rfl)) dX8_worked_40 ⟨Nat.le_of_ble_eq_true rfl, Nat.le_of_ble_eq_true rfl⟩) hS (fun q _ h => hFc q h) hFc (fun r_2 u_2 t H1 locs ht hvm e_2 hB hz1 hk1 hS => ?_)
    try dsimp only at e_2
    have hP := zz_keep hP hk1
    clear hk1 hB ht hvm
    generalize H1 = H at hP hS ⊢
    refine zz_seti (zz_pc lo (va (Int32.toNatClampNeg p0)) ((nI mc) - (re (Int32.toNatClampNeg p0)))) e_2 ?_
    refine va_iast hx hb hK hP hD hS 6 0 rfl rfl (vp_in_iff.mpr (by constructor <;> omega)) dX8_worked_43 (fun H locs hP hD hS => ?_)
    obtain ⟨hP, hD⟩ := zz_ty (D := (dC, dI)) (cl := vwCl) (A := A) (H := H) [(b 0, .inr (8, [.ref (b 1), .int (nI mt), .int (gg 2), .int (gg 3), .int (gg 4), .int (gg 5), .int (gg 6), .int (gg 7), .int (gg 8), .int (gg 9), .ref (b 11), .ref (b 12), .ref (b 13), .int (nI mc), .int (nI mh), .ref (b 16), .ref (b 17), .ref (b 18), .ref (b 19), .ref (b 20), .ref (b 21), .ref (b 22), .ref (b 23), .ref (b 24), .int (nI mf), .ref (b 26), .ref (b 27), .ref (b 28), .ref (b 29), .ref (b 30), .ref (b 31), .ref (b 32), .int (gg 32), .int (nI md), .ref (b 35), .ref (b 36), .ref (b 37), .ref (b 38), .ref (b 39), .ref (b 40), .int (gg 40), .ref (b 42), .ref (b 43), .ref (b 44), .int (gg 44), .ref (b 46), .ref (b 47), .int (gg 47), .ref (b 49)])), (b 29, .inl (cI, 12, .inl re)), (b 24, .inl (cI, 10, .inl lo)), (b 30, .inl (cI, 12, .inl va)), (b 28, .inl (cI, 12, .inl (upd nee (Int32.toNatClampNeg p0) ((nee (Int32.toNatClampNeg p0)) - p1)))), (b 31, .inl (cI, 12, .inl (upd dn (Int32.toNatClampNeg p0) (nI mc)))), (b 32, .inl (cI, 12, .inl (upd gt (Int32.toNatClampNeg p0) (zz_pc lo (va (Int32.toNatClampNeg p0)) ((nI mc) - (re (Int32.toNatClampNeg p0)))))))] hP hD rfl
    refine lv_aload_n hx hb dX8_worked_44 rfl (lv_at hl 0 rfl) ?_
    refine va_get (D := (dC, dI)) (ci := 8) (v := .ref (b 28)) (C := RX8) (T := TX8) (N := 49) hx hb hw zz_inX8 hown hK hP 0 rfl rfl 27 (by decide) (hw _ tw_233) (fun _ h9 => h9) rfl dX8_worked_45 ?_
    refine lv_iload_n hx hb dX8_worked_48 rfl (lv_at hl 1 rfl) ?_
    refine va_iald hx hb hK hP 4 0 rfl rfl (vp_in_iff.mpr (by constructor <;> omega)) dX8_worked_49 ?_
    obtain ⟨hP9, hD9⟩ := zz_sub2 (ws' := [(b 0, .inr (8, [.ref (b 1), .int (nI mt), .int (gg 2), .int (gg 3), .int (gg 4), .int (gg 5), .int (gg 6), .int (gg 7), .int (gg 8), .int (gg 9), .ref (b 11), .ref (b 12), .ref (b 13), .int (nI mc), .int (nI mh), .ref (b 16), .ref (b 17), .ref (b 18), .ref (b 19), .ref (b 20), .ref (b 21), .ref (b 22), .ref (b 23), .ref (b 24), .int (nI mf), .ref (b 26), .ref (b 27), .ref (b 28), .ref (b 29), .ref (b 30), .ref (b 31), .ref (b 32), .int (gg 32), .int (nI md), .ref (b 35), .ref (b 36), .ref (b 37), .ref (b 38), .ref (b 39), .ref (b 40), .int (gg 40), .ref (b 42), .ref (b 43), .ref (b 44), .int (gg 44), .ref (b 46), .ref (b 47), .int (gg 47), .ref (b 49)])), (b 29, .inl (cI, 12, .inl re)), (b 24, .inl (cI, 10, .inl lo)), (b 30, .inl (cI, 12, .inl va)), (b 28, .inl (cI, 12, .inl (upd nee (Int32.toNatClampNeg p0) ((nee (Int32.toNatClampNeg p0)) - p1)))), (b 31, .inl (cI, 12, .inl (upd dn (Int32.toNatClampNeg p0) (nI mc)))), (b 32, .inl (cI, 12, .inl (upd gt (Int32.toNatClampNeg p0) (zz_pc lo (va (Int32.toNatClampNeg p0)) ((nI mc) - (re (Int32.toNatClampNeg p0)))))))]) hP hD [0, 1, 2, 3, 4, 5, 6] (by decide) rfl
    have hK9 := hK.sub (tys' := [(cI, .int)]) [0] rfl
    exact W.iret (v := ((upd nee (Int32.toNatClampNeg p0) ((nee (Int32.toNatClampNeg p0)) - p1)) (Int32.toNatClampNeg p0))) hx hb hr (fun t ht hW => ⟨⟨((upd nee (Int32.toNatClampNeg p0) ((nee (Int32.toNatClampNeg p0)) - p1)) (Int32.toNatClampNeg p0)), ((upd nee (Int32.toNatClampNeg p0) ((nee (Int32.toNatClampNeg p0)) - p1)), (upd dn (Int32.toNatClampNeg p0) (nI mc)), (upd gt (Int32.toNatClampNeg p0) (zz_pc lo (va (Int32.toNatClampNeg p0)) ((nI mc) - (re (Int32.toNatClampNeg p0)))))), rfl, ⟨zz_up_s, rfl, (if_pos (zz_up_s.symm.trans c_1)).symm, (if_pos (zz_up_s.symm.trans c_1)).symm, (zz_rg_sub hrn (zz_lt hpf (Nat.le_refl _) (by omega)) (by omega) (by omega)), (zz_dn_2 hdn (by rw [zz_toInt mc (by omega)]; omega))⟩, by rw [ht]; exact hP9, va_K.moved hW.alike hK9, hD9⟩, hS.F ht⟩) hS.2.2 dX8_worked_50
