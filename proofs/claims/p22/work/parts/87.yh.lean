set_option maxHeartbeats 4000000 in
set_option maxRecDepth 100000 in
theorem kx_house (l : Launch) (dC : Nat → ClassId) (dI : Nat → Nat → Nat) (a : Nat → Nat) (nh : Nat) (nf : Nat) (clk : Int32) (hi : Int32) (cH : ClassId) (fH : Nat → Option Nat) (V : Nat → Nat → Int32) (vh0 : Nat → Int32) (vh1 : Nat → Int32) (vh2 : Nat → Int32) (vh3 : Nat → Int32) (vh4 : Nat → Int32) (vh5 : Nat → Int32) (vh6 : Nat → Int32) (vh7 : Nat → Int32) (vh8 : Nat → Int32) (vf0 : Nat → Int32) (vf1 : Nat → Int32) (vf2 : Nat → Int32) (vf3 : Nat → Int32) (vf4 : Nat → Int32) (vf5 : Nat → Int32) (vf6 : Nat → Int32) (p0 : Int32) (p1 : Int32) (L : List Nat) (K : Nat → Nat) (sz : Nat) (hc8 : nh ≤ 8) (hf12 : nf ≤ 12) (hfH : ∀ k, k < 8 → fH k = some (a (2 + k))) (hH : ∀ k, k < 8 → a (2 + k) ∈ L ∧ K (a (2 + k)) = 4) (hdj : zz_dj a) (hR : zz_RV a V vh0 vh1 vh2 vh3 vh4 vh5 vh6 vh7 vh8 vf0 vf1 vf2 vf3 vf4 vf5 vf6) (hp1 : p1 = 0 ∨ p1 = 1) : Met l yX7_house (zz_w yX7_house cX7_house 4 (some .int)) ({ frames := 0, cells := 0, slots := 0, locals := 0 }) (va_Pc [.ref (a 0), .int p0, .int p1] (zz_B (dC, dI) sz (([(a 0, .inr (7, [.ref (a 1), .ref (a 10), .ref (a 23), .ref (a 24), .ref (a 26), .ref (a 29), .ref (a 34), .ref (a 43), .int (nI nh), .int (nI nf), .int clk, .int hi])), (a 1, .inl (cH, 8, .inr (.inr (.inr (.inr fH)))))] : va_W) ++ va_pl L (zz_F K V)) [(cH, .object RX4)])) (va_Qi (fun (r : Int32) (u : Nat × (Nat → Nat → Int32)) => match u with | (c2, V2) => ((1 ≤ p0.toInt ∧ p0.toInt ≤ 9 ∧ nh < 8) ∧ r = nI nh ∧ c2 = (nh + 1) ∧ zz_RV a V2 (upd vh0 nh p0) (upd vh1 nh p1) vh2 vh3 vh4 vh5 vh6 vh7 vh8 vf0 vf1 vf2 vf3 vf4 vf5 vf6) ∨ (¬ (1 ≤ p0.toInt ∧ p0.toInt ≤ 9 ∧ nh < 8) ∧ r = -1 ∧ c2 = nh ∧ zz_RV a V2 vh0 vh1 vh2 vh3 vh4 vh5 vh6 vh7 vh8 vf0 vf1 vf2 vf3 vf4 vf5 vf6)) (fun (u : Nat × (Nat → Nat → Int32)) (t : State) => match u with | (u0, u1) => va_P (dC, dI) vwCl (([(a 0, .inr (7, [.ref (a 1), .ref (a 10), .ref (a 23), .ref (a 24), .ref (a 26), .ref (a 29), .ref (a 34), .ref (a 43), .int (nI u0), .int (nI nf), .int clk, .int hi])), (a 1, .inl (cH, 8, .inr (.inr (.inr (.inr fH)))))] : va_W) ++ va_pl L (zz_F K u1)) t.heap ∧ va_K (dC, dI) vwCl [(cH, .object RX4)] t ∧ va_D (va_A (([(a 0, .inr (7, [.ref (a 1), .ref (a 10), .ref (a 23), .ref (a 24), .ref (a 26), .ref (a 29), .ref (a 34), .ref (a 43), .int (nI nh), .int (nI nf), .int clk, .int hi])), (a 1, .inl (cH, 8, .inr (.inr (.inr (.inr fH)))))] : va_W) ++ va_pl L (zz_F K V)) sz) (([(a 0, .inr (7, [.ref (a 1), .ref (a 10), .ref (a 23), .ref (a 24), .ref (a 26), .ref (a 29), .ref (a 34), .ref (a 43), .int (nI u0), .int (nI nf), .int clk, .int hi])), (a 1, .inl (cH, 8, .inr (.inr (.inr (.inr fH)))))] : va_W) ++ va_pl L (zz_F K u1))) (va_A (([(a 0, .inr (7, [.ref (a 1), .ref (a 10), .ref (a 23), .ref (a 24), .ref (a 26), .ref (a 29), .ref (a 34), .ref (a 43), .int (nI nh), .int (nI nf), .int clk, .int hi])), (a 1, .inl (cH, 8, .inr (.inr (.inr (.inr fH)))))] : va_W) ++ va_pl L (zz_F K V)) sz)) 0 0 (va_A (([(a 0, .inr (7, [.ref (a 1), .ref (a 10), .ref (a 23), .ref (a 24), .ref (a 26), .ref (a 29), .ref (a 34), .ref (a 43), .int (nI nh), .int (nI nf), .int clk, .int hi])), (a 1, .inl (cH, 8, .inr (.inr (.inr (.inr fH)))))] : va_W) ++ va_pl L (zz_F K V)) sz) := by
  refine Met.ofW (cc := cX7_house) (maxL := 4) (ret := (some .int)) (by decide) rfl ?_
  intro p e s m args below meth c s₁ B hml hv
  obtain ⟨rfl, hsz, hP, hK, hD0, hN⟩ := hv
  have hx := B.exec
  have hb := B.bytes
  have hr := B.returns
  have hts := atoms_spec (ws := zz_w yX7_house cX7_house 4 (some .int)) B.pre
  have hw : ∀ w ∈ zz_all, w.before _ s = true := fun w h => hts w (List.mem_cons_of_mem _ h)
  have hown : s.vm.findClass RX7 = some m.cls := findClass_of_methodNamed B.named
  have hlocks := B.notSynchronized
  subst hsz
  have hD := hD0.self (sz := s.heap.size)
  generalize hAe : va_A (([(a 0, .inr (7, [.ref (a 1), .ref (a 10), .ref (a 23), .ref (a 24), .ref (a 26), .ref (a 29), .ref (a 34), .ref (a 43), .int (nI nh), .int (nI nf), .int clk, .int hi])), (a 1, .inl (cH, 8, .inr (.inr (.inr (.inr fH)))))] : va_W) ++ va_pl L (zz_F K V)) s.heap.size = A at hD ⊢
  have hA : ∀ q : Nat, s.heap.size ≤ q → A q := fun q h => by rw [← hAe]; exact Or.inr h
  have hS : va_S A s.heap s.heap [] := va_S.rf
  have hP : va_P (dC, dI) vwCl (([(a 0, .inr (7, [.ref (a 1), .ref (a 10), .ref (a 23), .ref (a 24), .ref (a 26), .ref (a 29), .ref (a 34), .ref (a 43), .int (nI nh), .int (nI nf), .int clk, .int hi])), (a 1, .inl (cH, 8, .inr (.inr (.inr (.inr fH)))))] : va_W) ++ va_pl L (zz_F K V)) s.heap := hP
  have hl := lv_entry ([.ref (a 0), .int p0, .int p1]) (n := 4) (Nat.le_of_ble_eq_true rfl)
  rw [lg_entry_eq]
  generalize (lg_sl ([.ref (a 0), .int p0, .int p1]) ++ List.replicate (4 - (lg_sl ([.ref (a 0), .int p0, .int p1])).length) Slot.unset).toArray = ls at hl ⊢
  have hl : lv_has ls 4 [(0, .ref (a 0)), (1, .int p0), (2, .int p1)] := hl
  refine lv_iload_n hx hb dX7_house_0 rfl (lv_at hl 1 rfl) ?_
  refine lv_iconst (v := 1) hx hb dX7_house_1 (by decide) ?_
  refine lv_icmp_lt (tgt := 20) hx hb dX7_house_2 (by decide) (fun c_1 => ?_) (fun c_1 => ?_)
  · have zc_1 := c_1
    rw [Int32.lt_iff_toInt_lt] at zc_1
    try rw [show (1 : Int32).toInt = 1 from by decide] at zc_1
    refine lv_iconst (v := (-1)) hx hb dX7_house_20 (by decide) ?_
    obtain ⟨hP9, hD9⟩ := zz_part2 (cx := [(a 0, .inr (7, [.ref (a 1), .ref (a 10), .ref (a 23), .ref (a 24), .ref (a 26), .ref (a 29), .ref (a 34), .ref (a 43), .int (nI nh), .int (nI nf), .int clk, .int hi])), (a 1, .inl (cH, 8, .inr (.inr (.inr (.inr fH)))))]) hP hD [0, 1] (by decide) rfl
    have hK9 := hK.sub (tys' := [(cH, .object RX4)]) [0] rfl
    exact W.iret (v := (-1)) hx hb hr (fun t ht hW => ⟨⟨(-1), (nh, V), rfl, (by first | exact Or.inl ⟨by omega, rfl, rfl, hR⟩ | exact Or.inr ⟨by omega, rfl, rfl, hR⟩), by rw [ht]; exact hP9, va_K.moved hW.alike hK9, hD9⟩, hS.F ht⟩) hS.2.2 dX7_house_21
  · have zc_1 := c_1
    rw [Int32.lt_iff_toInt_lt] at zc_1
    try rw [show (1 : Int32).toInt = 1 from by decide] at zc_1
    refine lv_iload_n hx hb dX7_house_5 rfl (lv_at hl 1 rfl) ?_
    refine lv_bipush (v := 9) hx hb dX7_house_6 (by decide) ?_
    refine lv_icmp_gt (tgt := 20) hx hb dX7_house_8 (by decide) (fun c_2 => ?_) (fun c_2 => ?_)
    · have zc_2 := c_2
      rw [Int32.lt_iff_toInt_lt] at zc_2
      try rw [show (9 : Int32).toInt = 9 from by decide] at zc_2
      refine lv_iconst (v := (-1)) hx hb dX7_house_20 (by decide) ?_
      obtain ⟨hP9, hD9⟩ := zz_part2 (cx := [(a 0, .inr (7, [.ref (a 1), .ref (a 10), .ref (a 23), .ref (a 24), .ref (a 26), .ref (a 29), .ref (a 34), .ref (a 43), .int (nI nh), .int (nI nf), .int clk, .int hi])), (a 1, .inl (cH, 8, .inr (.inr (.inr (.inr fH)))))]) hP hD [0, 1] (by decide) rfl
      have hK9 := hK.sub (tys' := [(cH, .object RX4)]) [0] rfl
      exact W.iret (v := (-1)) hx hb hr (fun t ht hW => ⟨⟨(-1), (nh, V), rfl, (by first | exact Or.inl ⟨by omega, rfl, rfl, hR⟩ | exact Or.inr ⟨by omega, rfl, rfl, hR⟩), by rw [ht]; exact hP9, va_K.moved hW.alike hK9, hD9⟩, hS.F ht⟩) hS.2.2 dX7_house_21
    · have zc_2 := c_2
      rw [Int32.lt_iff_toInt_lt] at zc_2
      try rw [show (9 : Int32).toInt = 9 from by decide] at zc_2
      refine lv_aload_n hx hb dX7_house_11 rfl (lv_at hl 0 rfl) ?_
      refine va_get (D := (dC, dI)) (ci := 7) (v := .int (nI nh)) (C := RX7) (T := TX7) (N := 12) hx hb hw zz_inX7 hown hK hP 0 rfl rfl 8 (by decide) (hw _ tw_0) (fun _ h9 => h9) rfl dX7_house_12 ?_
      refine lv_bipush (v := 8) hx hb dX7_house_15 (by decide) ?_
      refine lv_icmp_lt (tgt := 22) hx hb dX7_house_17 (by decide) (fun c_3 => ?_) (fun c_3 => ?_)
      · have zc_3 := c_3
        rw [Int32.lt_iff_toInt_lt] at zc_3
        try rw [zz_toInt nh (by omega)] at zc_3
        try rw [show (8 : Int32).toInt = 8 from by decide] at zc_3
        refine lv_aload_n hx hb dX7_house_22 rfl (lv_at hl 0 rfl) ?_
        refine va_get (D := (dC, dI)) (ci := 7) (v := .ref (a 1)) (C := RX7) (T := TX7) (N := 12) hx hb hw zz_inX7 hown hK hP 0 rfl rfl 0 (by decide) (hw _ tw_5) (fun _ h9 => h9) rfl dX7_house_23 ?_
        refine lv_aload_n hx hb dX7_house_26 rfl (lv_at hl 0 rfl) ?_
        refine va_get (D := (dC, dI)) (ci := 7) (v := .int (nI nh)) (C := RX7) (T := TX7) (N := 12) hx hb hw zz_inX7 hown hK hP 0 rfl rfl 8 (by decide) (hw _ tw_0) (fun _ h9 => h9) rfl dX7_house_27 ?_
        refine va_aldq hx hb hK hP 1 0 rfl rfl (vp_in_iff.mpr (by rw [zz_toInt nh (by omega)]; constructor <;> omega)) dX7_house_30 ?_
        refine zz_setv (.ref (a (2 + nh))) (by rw [zz_cl (by omega)]; exact congrArg va_rf (hfH nh (by omega))) ?_
        refine lv_astore_n (lv' := [(3, .ref (a (2 + nh))), (0, .ref (a 0)), (1, .int p0), (2, .int p1)]) hx hb dX7_house_31 rfl hl (by decide) rfl (fun ls hl => ?_)
        refine lv_aload_n hx hb dX7_house_32 rfl (lv_at hl 0 rfl) ?_
        refine lv_iload_n hx hb dX7_house_33 rfl (lv_at hl 2 rfl) ?_
        obtain ⟨kq_4, hq_4⟩ := zz_pg4 (X := [(a 0, .inr (7, [.ref (a 1), .ref (a 10), .ref (a 23), .ref (a 24), .ref (a 26), .ref (a 29), .ref (a 34), .ref (a 43), .int (nI nh), .int (nI nf), .int clk, .int hi])), (a 1, .inl (cH, 8, .inr (.inr (.inr (.inr fH)))))]) (V := V) (hH nh (by omega)).1 (hH nh (by omega)).2
        have hDo := hD
        refine va_putN (D := (dC, dI)) (ci := 4) (v := .int p0) (ty := .int) (C := RX4) (T := TX4) (N := 9) hx hb hw zz_inX4 tyX4 tyX4_ok nmX4 hown hK hP hD hS kq_4 hq_4 rfl 0 (by decide) (hN.use zz_n1) (fun _ h9 => h9) rfl (by decide +kernel) rfl rfl (Nat.le_of_ble_eq_true rfl) dX7_house_34 (fun H locs hP hD hS => ?_)
        have hP : va_P (dC, dI) vwCl (List.set (α := Nat × va_E) (([(a 0, .inr (7, [.ref (a 1), .ref (a 10), .ref (a 23), .ref (a 24), .ref (a 26), .ref (a 29), .ref (a 34), .ref (a 43), .int (nI nh), .int (nI nf), .int clk, .int hi])), (a 1, .inl (cH, 8, .inr (.inr (.inr (.inr fH)))))] : va_W) ++ va_pl L (zz_F K V)) kq_4 (a (2 + nh), .inr (4, [.int p0, .int (V (a (2 + nh)) 1), .int (V (a (2 + nh)) 2), .int (V (a (2 + nh)) 3), .int (V (a (2 + nh)) 4), .int (V (a (2 + nh)) 5), .int (V (a (2 + nh)) 6), .int (V (a (2 + nh)) 7), .int (V (a (2 + nh)) 8)]))) H := hP
        have hD : va_D A (List.set (α := Nat × va_E) (([(a 0, .inr (7, [.ref (a 1), .ref (a 10), .ref (a 23), .ref (a 24), .ref (a 26), .ref (a 29), .ref (a 34), .ref (a 43), .int (nI nh), .int (nI nf), .int clk, .int hi])), (a 1, .inl (cH, 8, .inr (.inr (.inr (.inr fH)))))] : va_W) ++ va_pl L (zz_F K V)) kq_4 (a (2 + nh), .inr (4, [.int p0, .int (V (a (2 + nh)) 1), .int (V (a (2 + nh)) 2), .int (V (a (2 + nh)) 3), .int (V (a (2 + nh)) 4), .int (V (a (2 + nh)) 5), .int (V (a (2 + nh)) 6), .int (V (a (2 + nh)) 7), .int (V (a (2 + nh)) 8)]))) := hD
        rw [zz_ps4_0 hDo (hH nh (by omega)).1 (hH nh (by omega)).2 hq_4] at hP hD
        have hR : zz_RV a (zz_put V (a (2 + nh)) 0 p0) (upd vh0 nh p0) vh1 vh2 vh3 vh4 vh5 vh6 vh7 vh8 vf0 vf1 vf2 vf3 vf4 vf5 vf6 := zz_RVp4_0 hdj hR (by omega)
        obtain ⟨hP, hD⟩ := zz_ty (D := (dC, dI)) (cl := vwCl) (A := A) (H := H) (([(a 0, .inr (7, [.ref (a 1), .ref (a 10), .ref (a 23), .ref (a 24), .ref (a 26), .ref (a 29), .ref (a 34), .ref (a 43), .int (nI nh), .int (nI nf), .int clk, .int hi])), (a 1, .inl (cH, 8, .inr (.inr (.inr (.inr fH)))))] : va_W) ++ va_pl L (zz_F K (zz_put V (a (2 + nh)) 0 p0))) hP hD rfl
        refine lv_aload_n hx hb dX7_house_37 rfl (lv_at hl 0 rfl) ?_
        refine lv_iload_n hx hb dX7_house_38 rfl (lv_at hl 3 rfl) ?_
        obtain ⟨kq_5, hq_5⟩ := zz_pg4 (X := [(a 0, .inr (7, [.ref (a 1), .ref (a 10), .ref (a 23), .ref (a 24), .ref (a 26), .ref (a 29), .ref (a 34), .ref (a 43), .int (nI nh), .int (nI nf), .int clk, .int hi])), (a 1, .inl (cH, 8, .inr (.inr (.inr (.inr fH)))))]) (V := (zz_put V (a (2 + nh)) 0 p0)) (hH nh (by omega)).1 (hH nh (by omega)).2
        have hDo := hD
        refine va_putN (D := (dC, dI)) (ci := 4) (v := .int p1) (ty := .boolean) (C := RX4) (T := TX4) (N := 9) hx hb hw zz_inX4 tyX4 tyX4_ok nmX4 hown hK hP hD hS kq_5 hq_5 rfl 1 (by decide) (hN.use zz_n2) (fun _ h9 => h9) rfl (by decide +kernel) (zz_nz hp1) (zz_fz hp1) (Nat.le_of_ble_eq_true rfl) dX7_house_39 (fun H locs hP hD hS => ?_)
        have hP : va_P (dC, dI) vwCl (List.set (α := Nat × va_E) (([(a 0, .inr (7, [.ref (a 1), .ref (a 10), .ref (a 23), .ref (a 24), .ref (a 26), .ref (a 29), .ref (a 34), .ref (a 43), .int (nI nh), .int (nI nf), .int clk, .int hi])), (a 1, .inl (cH, 8, .inr (.inr (.inr (.inr fH)))))] : va_W) ++ va_pl L (zz_F K (zz_put V (a (2 + nh)) 0 p0))) kq_5 (a (2 + nh), .inr (4, [.int ((zz_put V (a (2 + nh)) 0 p0) (a (2 + nh)) 0), .int p1, .int ((zz_put V (a (2 + nh)) 0 p0) (a (2 + nh)) 2), .int ((zz_put V (a (2 + nh)) 0 p0) (a (2 + nh)) 3), .int ((zz_put V (a (2 + nh)) 0 p0) (a (2 + nh)) 4), .int ((zz_put V (a (2 + nh)) 0 p0) (a (2 + nh)) 5), .int ((zz_put V (a (2 + nh)) 0 p0) (a (2 + nh)) 6), .int ((zz_put V (a (2 + nh)) 0 p0) (a (2 + nh)) 7), .int ((zz_put V (a (2 + nh)) 0 p0) (a (2 + nh)) 8)]))) H := hP
        have hD : va_D A (List.set (α := Nat × va_E) (([(a 0, .inr (7, [.ref (a 1), .ref (a 10), .ref (a 23), .ref (a 24), .ref (a 26), .ref (a 29), .ref (a 34), .ref (a 43), .int (nI nh), .int (nI nf), .int clk, .int hi])), (a 1, .inl (cH, 8, .inr (.inr (.inr (.inr fH)))))] : va_W) ++ va_pl L (zz_F K (zz_put V (a (2 + nh)) 0 p0))) kq_5 (a (2 + nh), .inr (4, [.int ((zz_put V (a (2 + nh)) 0 p0) (a (2 + nh)) 0), .int p1, .int ((zz_put V (a (2 + nh)) 0 p0) (a (2 + nh)) 2), .int ((zz_put V (a (2 + nh)) 0 p0) (a (2 + nh)) 3), .int ((zz_put V (a (2 + nh)) 0 p0) (a (2 + nh)) 4), .int ((zz_put V (a (2 + nh)) 0 p0) (a (2 + nh)) 5), .int ((zz_put V (a (2 + nh)) 0 p0) (a (2 + nh)) 6), .int ((zz_put V (a (2 + nh)) 0 p0) (a (2 + nh)) 7), .int ((zz_put V (a (2 + nh)) 0 p0) (a (2 + nh)) 8)]))) := hD
        rw [zz_ps4_1 hDo (hH nh (by omega)).1 (hH nh (by omega)).2 hq_5] at hP hD
        have hR : zz_RV a (zz_put (zz_put V (a (2 + nh)) 0 p0) (a (2 + nh)) 1 p1) (upd vh0 nh p0) (upd vh1 nh p1) vh2 vh3 vh4 vh5 vh6 vh7 vh8 vf0 vf1 vf2 vf3 vf4 vf5 vf6 := zz_RVp4_1 hdj hR (by omega)
        obtain ⟨hP, hD⟩ := zz_ty (D := (dC, dI)) (cl := vwCl) (A := A) (H := H) (([(a 0, .inr (7, [.ref (a 1), .ref (a 10), .ref (a 23), .ref (a 24), .ref (a 26), .ref (a 29), .ref (a 34), .ref (a 43), .int (nI nh), .int (nI nf), .int clk, .int hi])), (a 1, .inl (cH, 8, .inr (.inr (.inr (.inr fH)))))] : va_W) ++ va_pl L (zz_F K (zz_put (zz_put V (a (2 + nh)) 0 p0) (a (2 + nh)) 1 p1))) hP hD rfl
        refine lv_aload_n hx hb dX7_house_42 rfl (lv_at hl 1 rfl) ?_
        refine lv_dup hx hb dX7_house_43 rfl ?_
        refine va_get (D := (dC, dI)) (ci := 7) (v := .int (nI nh)) (C := RX7) (T := TX7) (N := 12) hx hb hw zz_inX7 hown hK hP 0 rfl rfl 8 (by decide) (hw _ tw_0) (fun _ h9 => h9) rfl dX7_house_44 ?_
        refine lv_iconst (v := 1) hx hb dX7_house_47 (by decide) ?_
        refine lv_iadd hx hb dX7_house_48 ?_
        refine zz_seti (nI (nh + 1)) (nI_1 _) ?_
        refine va_put (D := (dC, dI)) (ci := 7) (v := .int (nI (nh + 1))) (ty := .int) (C := RX7) (T := TX7) (N := 12) hx hb hw zz_inX7 tyX7 tyX7_ok nmX7 hown hK hP hD hS 0 rfl rfl 8 (by decide) (hw _ tw_0) (fun _ h9 => h9) rfl (by decide +kernel) rfl rfl (Nat.le_of_ble_eq_true rfl) dX7_house_49 (fun H locs hP hD hS => ?_)
        obtain ⟨hP, hD⟩ := zz_ty (D := (dC, dI)) (cl := vwCl) (A := A) (H := H) (([(a 0, .inr (7, [.ref (a 1), .ref (a 10), .ref (a 23), .ref (a 24), .ref (a 26), .ref (a 29), .ref (a 34), .ref (a 43), .int (nI (nh + 1)), .int (nI nf), .int clk, .int hi])), (a 1, .inl (cH, 8, .inr (.inr (.inr (.inr fH)))))] : va_W) ++ va_pl L (zz_F K (zz_put (zz_put V (a (2 + nh)) 0 p0) (a (2 + nh)) 1 p1))) hP hD rfl
        refine lv_aload_n hx hb dX7_house_52 rfl (lv_at hl 1 rfl) ?_
        refine va_get (D := (dC, dI)) (ci := 7) (v := .int (nI (nh + 1))) (C := RX7) (T := TX7) (N := 12) hx hb hw zz_inX7 hown hK hP 0 rfl rfl 8 (by decide) (hw _ tw_0) (fun _ h9 => h9) rfl dX7_house_53 ?_
        refine lv_iconst (v := 1) hx hb dX7_house_56 (by decide) ?_
        refine lv_isub hx hb dX7_house_57 ?_
        refine zz_seti (nI nh) (nI_pred _) ?_
        obtain ⟨hP9, hD9⟩ := zz_part2 (cx := [(a 0, .inr (7, [.ref (a 1), .ref (a 10), .ref (a 23), .ref (a 24), .ref (a 26), .ref (a 29), .ref (a 34), .ref (a 43), .int (nI (nh + 1)), .int (nI nf), .int clk, .int hi])), (a 1, .inl (cH, 8, .inr (.inr (.inr (.inr fH)))))]) hP hD [0, 1] (by decide) rfl
        have hK9 := hK.sub (tys' := [(cH, .object RX4)]) [0] rfl
        exact W.iret (v := (nI nh)) hx hb hr (fun t ht hW => ⟨⟨(nI nh), ((nh + 1), (zz_put (zz_put V (a (2 + nh)) 0 p0) (a (2 + nh)) 1 p1)), rfl, (by first | exact Or.inl ⟨by omega, rfl, rfl, hR⟩ | exact Or.inr ⟨by omega, rfl, rfl, hR⟩), by rw [ht]; exact hP9, va_K.moved hW.alike hK9, hD9⟩, hS.F ht⟩) hS.2.2 dX7_house_58
      · have zc_3 := c_3
        rw [Int32.lt_iff_toInt_lt] at zc_3
        try rw [zz_toInt nh (by omega)] at zc_3
        try rw [show (8 : Int32).toInt = 8 from by decide] at zc_3
        refine lv_iconst (v := (-1)) hx hb dX7_house_20 (by decide) ?_
        obtain ⟨hP9, hD9⟩ := zz_part2 (cx := [(a 0, .inr (7, [.ref (a 1), .ref (a 10), .ref (a 23), .ref (a 24), .ref (a 26), .ref (a 29), .ref (a 34), .ref (a 43), .int (nI nh), .int (nI nf), .int clk, .int hi])), (a 1, .inl (cH, 8, .inr (.inr (.inr (.inr fH)))))]) hP hD [0, 1] (by decide) rfl
        have hK9 := hK.sub (tys' := [(cH, .object RX4)]) [0] rfl
        exact W.iret (v := (-1)) hx hb hr (fun t ht hW => ⟨⟨(-1), (nh, V), rfl, (by first | exact Or.inl ⟨by omega, rfl, rfl, hR⟩ | exact Or.inr ⟨by omega, rfl, rfl, hR⟩), by rw [ht]; exact hP9, va_K.moved hW.alike hK9, hD9⟩, hS.F ht⟩) hS.2.2 dX7_house_21
set_option maxHeartbeats 4000000 in
set_option maxRecDepth 100000 in
theorem kx_ill (l : Launch) (dC : Nat → ClassId) (dI : Nat → Nat → Nat) (a : Nat → Nat) (nh : Nat) (nf : Nat) (clk : Int32) (hi : Int32) (cH : ClassId) (fH : Nat → Option Nat) (V : Nat → Nat → Int32) (vh0 : Nat → Int32) (vh1 : Nat → Int32) (vh2 : Nat → Int32) (vh3 : Nat → Int32) (vh4 : Nat → Int32) (vh5 : Nat → Int32) (vh6 : Nat → Int32) (vh7 : Nat → Int32) (vh8 : Nat → Int32) (vf0 : Nat → Int32) (vf1 : Nat → Int32) (vf2 : Nat → Int32) (vf3 : Nat → Int32) (vf4 : Nat → Int32) (vf5 : Nat → Int32) (vf6 : Nat → Int32) (p0 : Int32) (p1 : Int32) (L : List Nat) (K : Nat → Nat) (sz : Nat) (hc8 : nh ≤ 8) (hf12 : nf ≤ 12) (hfH : ∀ k, k < 8 → fH k = some (a (2 + k))) (hH : ∀ k, k < 8 → a (2 + k) ∈ L ∧ K (a (2 + k)) = 4) (hdj : zz_dj a) (hR : zz_RV a V vh0 vh1 vh2 vh3 vh4 vh5 vh6 vh7 vh8 vf0 vf1 vf2 vf3 vf4 vf5 vf6) : Met l yX7_ill (zz_w yX7_ill cX7_ill 4 (some .boolean)) ({ frames := 2, cells := 0, slots := 0, locals := 43 }) (va_Pc [.ref (a 0), .int p0, .int p1] (zz_B (dC, dI) sz (([(a 0, .inr (7, [.ref (a 1), .ref (a 10), .ref (a 23), .ref (a 24), .ref (a 26), .ref (a 29), .ref (a 34), .ref (a 43), .int (nI nh), .int (nI nf), .int clk, .int hi])), (a 1, .inl (cH, 8, .inr (.inr (.inr (.inr fH)))))] : va_W) ++ va_pl L (zz_F K V)) [(cH, .object RX4)])) (va_Qi (fun (r : Int32) (V2 : Nat → Nat → Int32) => (((0 ≤ p0.toInt ∧ p0.toInt < (nh : Int)) ∧ (0 ≤ p1.toInt ∧ p1.toInt ≤ 400)) ∧ r = 1 ∧ zz_RV a V2 vh0 vh1 (upd vh2 (Int32.toNatClampNeg p0) p1) vh3 vh4 vh5 vh6 vh7 vh8 vf0 vf1 vf2 vf3 vf4 vf5 vf6) ∨ (¬ ((0 ≤ p0.toInt ∧ p0.toInt < (nh : Int)) ∧ (0 ≤ p1.toInt ∧ p1.toInt ≤ 400)) ∧ r = 0 ∧ zz_RV a V2 vh0 vh1 vh2 vh3 vh4 vh5 vh6 vh7 vh8 vf0 vf1 vf2 vf3 vf4 vf5 vf6)) (fun (u0 : Nat → Nat → Int32) (t : State) => va_P (dC, dI) vwCl (([(a 0, .inr (7, [.ref (a 1), .ref (a 10), .ref (a 23), .ref (a 24), .ref (a 26), .ref (a 29), .ref (a 34), .ref (a 43), .int (nI nh), .int (nI nf), .int clk, .int hi])), (a 1, .inl (cH, 8, .inr (.inr (.inr (.inr fH)))))] : va_W) ++ va_pl L (zz_F K u0)) t.heap ∧ va_K (dC, dI) vwCl [(cH, .object RX4)] t ∧ va_D (va_A (([(a 0, .inr (7, [.ref (a 1), .ref (a 10), .ref (a 23), .ref (a 24), .ref (a 26), .ref (a 29), .ref (a 34), .ref (a 43), .int (nI nh), .int (nI nf), .int clk, .int hi])), (a 1, .inl (cH, 8, .inr (.inr (.inr (.inr fH)))))] : va_W) ++ va_pl L (zz_F K V)) sz) (([(a 0, .inr (7, [.ref (a 1), .ref (a 10), .ref (a 23), .ref (a 24), .ref (a 26), .ref (a 29), .ref (a 34), .ref (a 43), .int (nI nh), .int (nI nf), .int clk, .int hi])), (a 1, .inl (cH, 8, .inr (.inr (.inr (.inr fH)))))] : va_W) ++ va_pl L (zz_F K u0))) (va_A (([(a 0, .inr (7, [.ref (a 1), .ref (a 10), .ref (a 23), .ref (a 24), .ref (a 26), .ref (a 29), .ref (a 34), .ref (a 43), .int (nI nh), .int (nI nf), .int clk, .int hi])), (a 1, .inl (cH, 8, .inr (.inr (.inr (.inr fH)))))] : va_W) ++ va_pl L (zz_F K V)) sz)) 0 0 (va_A (([(a 0, .inr (7, [.ref (a 1), .ref (a 10), .ref (a 23), .ref (a 24), .ref (a 26), .ref (a 29), .ref (a 34), .ref (a 43), .int (nI nh), .int (nI nf), .int clk, .int hi])), (a 1, .inl (cH, 8, .inr (.inr (.inr (.inr fH)))))] : va_W) ++ va_pl L (zz_F K V)) sz) := by
  refine Met.ofW (cc := cX7_ill) (maxL := 4) (ret := (some .boolean)) (by decide) rfl ?_
  intro p e s m args below meth c s₁ B hml hv
  obtain ⟨rfl, hsz, hP, hK, hD0, hN⟩ := hv
  have hx := B.exec
  have hb := B.bytes
  have hr := B.returns
  have hts := atoms_spec (ws := zz_w yX7_ill cX7_ill 4 (some .boolean)) B.pre
  have hw : ∀ w ∈ zz_all, w.before _ s = true := fun w h => hts w (List.mem_cons_of_mem _ h)
  have hown : s.vm.findClass RX7 = some m.cls := findClass_of_methodNamed B.named
  have hlocks := B.notSynchronized
  subst hsz
  have hD := hD0.self (sz := s.heap.size)
  generalize hAe : va_A (([(a 0, .inr (7, [.ref (a 1), .ref (a 10), .ref (a 23), .ref (a 24), .ref (a 26), .ref (a 29), .ref (a 34), .ref (a 43), .int (nI nh), .int (nI nf), .int clk, .int hi])), (a 1, .inl (cH, 8, .inr (.inr (.inr (.inr fH)))))] : va_W) ++ va_pl L (zz_F K V)) s.heap.size = A at hD ⊢
  have hA : ∀ q : Nat, s.heap.size ≤ q → A q := fun q h => by rw [← hAe]; exact Or.inr h
  have hS : va_S A s.heap s.heap [] := va_S.rf
  have hP : va_P (dC, dI) vwCl (([(a 0, .inr (7, [.ref (a 1), .ref (a 10), .ref (a 23), .ref (a 24), .ref (a 26), .ref (a 29), .ref (a 34), .ref (a 43), .int (nI nh), .int (nI nf), .int clk, .int hi])), (a 1, .inl (cH, 8, .inr (.inr (.inr (.inr fH)))))] : va_W) ++ va_pl L (zz_F K V)) s.heap := hP
  have hl := lv_entry ([.ref (a 0), .int p0, .int p1]) (n := 4) (Nat.le_of_ble_eq_true rfl)
  rw [lg_entry_eq]
  generalize (lg_sl ([.ref (a 0), .int p0, .int p1]) ++ List.replicate (4 - (lg_sl ([.ref (a 0), .int p0, .int p1])).length) Slot.unset).toArray = ls at hl ⊢
  have hl : lv_has ls 4 [(0, .ref (a 0)), (1, .int p0), (2, .int p1)] := hl
  refine lv_aload_n hx hb dX7_ill_0 rfl (lv_at hl 0 rfl) ?_
  refine lv_iload_n hx hb dX7_ill_1 rfl (lv_at hl 1 rfl) ?_
  obtain ⟨hPc, hDc⟩ := zz_sub2 (ws' := [(a 0, .inr (7, [.ref (a 1), .ref (a 10), .ref (a 23), .ref (a 24), .ref (a 26), .ref (a 29), .ref (a 34), .ref (a 43), .int (nI nh), .int (nI nf), .int clk, .int hi])), (a 1, .inl (cH, 8, .inr (.inr (.inr (.inr fH)))))]) hP hD [0, 1] (by decide) rfl
  have hKc := hK.sub (tys' := [(cH, .object RX4)]) [0] rfl
  have hFc := zz_free0 hS hA
  refine va_callq (va_runV (As := [.int p0]) (rest := []) ⟨hx, hb, hml, hown, hw⟩ (k_houseAt l dC dI a nh nf clk hi cH fH p0 s.heap.size hc8 hf12 hfH) ⟨callB_of 1 hw (zz_good tw_8) rfl rfl rfl (hw _ tw_2) (hw _ tw_9) (by decide +kernel) ⟨Nat.le_of_ble_eq_true rfl, Nat.le_of_ble_eq_true rfl⟩, (hw _ tw_10), (hw _ tw_11)⟩ ⟨zz_blind, va_recv hKc hPc (ci := 7) (q0 := 0) rfl rfl, zz_pre hPc hKc hDc hN⟩ rfl rfl hl.1 rfl (lv_room (Nat.le_of_ble_eq_true rfl)) dX7_ill_2 ⟨Nat.le_of_ble_eq_true rfl, Nat.le_of_ble_eq_true rfl⟩) hS (fun q _ h => hFc q h) hFc (fun r_1 u_1 t H1 locs ht hvm e_1 hB hz1 hk1 hS => ?_)
  try dsimp only at e_1
  have hP := zz_keep hP hk1
  clear hk1 hB ht hvm
  generalize H1 = H at hP hS ⊢
  rcases e_1 with ⟨er_1, nk_1⟩ | ⟨er_1, nk_1⟩
  · refine zz_setv (.null) (congrArg va_rf er_1) ?_
    refine lv_astore_nN (lv' := [(3, .null), (0, .ref (a 0)), (1, .int p0), (2, .int p1)]) hx hb dX7_ill_5 rfl hl (by decide) rfl (fun ls hl => ?_)
    refine lv_aload_nN hx hb dX7_ill_6 rfl (lv_at hl 0 rfl) ?_
    refine lv_ifnullN (tgt := 21) hx hb dX7_ill_7 (by decide) ?_
    refine lv_iconst (v := 0) hx hb dX7_ill_21 (by decide) ?_
    obtain ⟨hP9, hD9⟩ := zz_part2 (cx := [(a 0, .inr (7, [.ref (a 1), .ref (a 10), .ref (a 23), .ref (a 24), .ref (a 26), .ref (a 29), .ref (a 34), .ref (a 43), .int (nI nh), .int (nI nf), .int clk, .int hi])), (a 1, .inl (cH, 8, .inr (.inr (.inr (.inr fH)))))]) hP hD [0, 1] (by decide) rfl
    have hK9 := hK.sub (tys' := [(cH, .object RX4)]) [0] rfl
    exact W.zret (v := 0) hx hb hr (rfl) (fun t ht hW => ⟨⟨0, (V), rfl, (by first | exact Or.inl ⟨by omega, rfl, hR⟩ | exact Or.inr ⟨by omega, rfl, hR⟩), by rw [ht]; exact hP9, va_K.moved hW.alike hK9, hD9⟩, hS.F ht⟩) hS.2.2 dX7_ill_22
  · refine zz_setv (.ref (a (2 + (Int32.toNatClampNeg p0)))) (congrArg va_rf er_1) ?_
    refine lv_astore_n (lv' := [(3, .ref (a (2 + (Int32.toNatClampNeg p0)))), (0, .ref (a 0)), (1, .int p0), (2, .int p1)]) hx hb dX7_ill_5 rfl hl (by decide) rfl (fun ls hl => ?_)
    refine lv_aload_n hx hb dX7_ill_6 rfl (lv_at hl 0 rfl) ?_
    refine lv_ifnull hx hb dX7_ill_7 ?_
    refine lv_iload_n hx hb dX7_ill_10 rfl (lv_at hl 3 rfl) ?_
    refine lv_iconst (v := 0) hx hb dX7_ill_11 (by decide) ?_
    refine lv_sipush (v := 400) hx hb dX7_ill_12 (by decide) ?_
    obtain ⟨hPc, hDc⟩ := zz_sub2 (ws' := []) hP hD [] (by decide) rfl
    have hKc := hK.sub (tys' := []) [] rfl
    have hFc := zz_free0 hS hA
    refine va_calli (va_runS (As := [.int p1, .int 0, .int 400]) (rest := []) ⟨hx, hb, hml, hown, hw⟩ (k_within l dC dI p1 0 400 H.size) ⟨callB_of 3 hw (zz_good tw_1) rfl rfl rfl (hw _ tw_2) (hw _ tw_3) (by decide +kernel) ⟨Nat.le_of_ble_eq_true rfl, Nat.le_of_ble_eq_true rfl⟩, (hw _ tw_4)⟩ ⟨zz_blind, zz_pre hPc hKc hDc hN⟩ rfl rfl hl.1 rfl (lv_room (Nat.le_of_ble_eq_true rfl)) dX7_ill_15 ⟨Nat.le_of_ble_eq_true rfl, Nat.le_of_ble_eq_true rfl⟩) hS (fun q _ h => hFc q h) hFc (fun r_2 u_2 t H1 locs ht hvm e_2 hB hz1 hk1 hS => ?_)
    try dsimp only at e_2
    have hP := zz_keep hP hk1
    clear hk1 hB ht hvm
    generalize H1 = H at hP hS ⊢
    refine lv_if_ne (tgt := 23) hx hb dX7_ill_18 (by decide) (fun c_3 => ?_) (fun c_3 => ?_)
    · have zc_3 := c_3
      rw [e_2, zz_in0, Int32.le_iff_toInt_le, Int32.le_iff_toInt_le] at zc_3
      try rw [show (0 : Int32).toInt = 0 from by decide] at zc_3
      try rw [show (400 : Int32).toInt = 400 from by decide] at zc_3
      refine lv_aload_n hx hb dX7_ill_23 rfl (lv_at hl 0 rfl) ?_
      refine lv_iload_n hx hb dX7_ill_24 rfl (lv_at hl 3 rfl) ?_
      obtain ⟨kq_4, hq_4⟩ := zz_pg4 (X := [(a 0, .inr (7, [.ref (a 1), .ref (a 10), .ref (a 23), .ref (a 24), .ref (a 26), .ref (a 29), .ref (a 34), .ref (a 43), .int (nI nh), .int (nI nf), .int clk, .int hi])), (a 1, .inl (cH, 8, .inr (.inr (.inr (.inr fH)))))]) (V := V) (hH (Int32.toNatClampNeg p0) (zz_lt nk_1 hc8 (by omega))).1 (hH (Int32.toNatClampNeg p0) (zz_lt nk_1 hc8 (by omega))).2
      have hDo := hD
      refine va_putN (D := (dC, dI)) (ci := 4) (v := .int p1) (ty := .int) (C := RX4) (T := TX4) (N := 9) hx hb hw zz_inX4 tyX4 tyX4_ok nmX4 hown hK hP hD hS kq_4 hq_4 rfl 2 (by decide) (hN.use zz_n3) (fun _ h9 => h9) rfl (by decide +kernel) rfl rfl (Nat.le_of_ble_eq_true rfl) dX7_ill_25 (fun H locs hP hD hS => ?_)
      have hP : va_P (dC, dI) vwCl (List.set (α := Nat × va_E) (([(a 0, .inr (7, [.ref (a 1), .ref (a 10), .ref (a 23), .ref (a 24), .ref (a 26), .ref (a 29), .ref (a 34), .ref (a 43), .int (nI nh), .int (nI nf), .int clk, .int hi])), (a 1, .inl (cH, 8, .inr (.inr (.inr (.inr fH)))))] : va_W) ++ va_pl L (zz_F K V)) kq_4 (a (2 + (Int32.toNatClampNeg p0)), .inr (4, [.int (V (a (2 + (Int32.toNatClampNeg p0))) 0), .int (V (a (2 + (Int32.toNatClampNeg p0))) 1), .int p1, .int (V (a (2 + (Int32.toNatClampNeg p0))) 3), .int (V (a (2 + (Int32.toNatClampNeg p0))) 4), .int (V (a (2 + (Int32.toNatClampNeg p0))) 5), .int (V (a (2 + (Int32.toNatClampNeg p0))) 6), .int (V (a (2 + (Int32.toNatClampNeg p0))) 7), .int (V (a (2 + (Int32.toNatClampNeg p0))) 8)]))) H := hP
      have hD : va_D A (List.set (α := Nat × va_E) (([(a 0, .inr (7, [.ref (a 1), .ref (a 10), .ref (a 23), .ref (a 24), .ref (a 26), .ref (a 29), .ref (a 34), .ref (a 43), .int (nI nh), .int (nI nf), .int clk, .int hi])), (a 1, .inl (cH, 8, .inr (.inr (.inr (.inr fH)))))] : va_W) ++ va_pl L (zz_F K V)) kq_4 (a (2 + (Int32.toNatClampNeg p0)), .inr (4, [.int (V (a (2 + (Int32.toNatClampNeg p0))) 0), .int (V (a (2 + (Int32.toNatClampNeg p0))) 1), .int p1, .int (V (a (2 + (Int32.toNatClampNeg p0))) 3), .int (V (a (2 + (Int32.toNatClampNeg p0))) 4), .int (V (a (2 + (Int32.toNatClampNeg p0))) 5), .int (V (a (2 + (Int32.toNatClampNeg p0))) 6), .int (V (a (2 + (Int32.toNatClampNeg p0))) 7), .int (V (a (2 + (Int32.toNatClampNeg p0))) 8)]))) := hD
      rw [zz_ps4_2 hDo (hH (Int32.toNatClampNeg p0) (zz_lt nk_1 hc8 (by omega))).1 (hH (Int32.toNatClampNeg p0) (zz_lt nk_1 hc8 (by omega))).2 hq_4] at hP hD
      have hR : zz_RV a (zz_put V (a (2 + (Int32.toNatClampNeg p0))) 2 p1) vh0 vh1 (upd vh2 (Int32.toNatClampNeg p0) p1) vh3 vh4 vh5 vh6 vh7 vh8 vf0 vf1 vf2 vf3 vf4 vf5 vf6 := zz_RVp4_2 hdj hR (zz_lt nk_1 hc8 (by omega))
      obtain ⟨hP, hD⟩ := zz_ty (D := (dC, dI)) (cl := vwCl) (A := A) (H := H) (([(a 0, .inr (7, [.ref (a 1), .ref (a 10), .ref (a 23), .ref (a 24), .ref (a 26), .ref (a 29), .ref (a 34), .ref (a 43), .int (nI nh), .int (nI nf), .int clk, .int hi])), (a 1, .inl (cH, 8, .inr (.inr (.inr (.inr fH)))))] : va_W) ++ va_pl L (zz_F K (zz_put V (a (2 + (Int32.toNatClampNeg p0))) 2 p1))) hP hD rfl
      refine lv_iconst (v := 1) hx hb dX7_ill_28 (by decide) ?_
      obtain ⟨hP9, hD9⟩ := zz_part2 (cx := [(a 0, .inr (7, [.ref (a 1), .ref (a 10), .ref (a 23), .ref (a 24), .ref (a 26), .ref (a 29), .ref (a 34), .ref (a 43), .int (nI nh), .int (nI nf), .int clk, .int hi])), (a 1, .inl (cH, 8, .inr (.inr (.inr (.inr fH)))))]) hP hD [0, 1] (by decide) rfl
      have hK9 := hK.sub (tys' := [(cH, .object RX4)]) [0] rfl
      exact W.zret (v := 1) hx hb hr (rfl) (fun t ht hW => ⟨⟨1, ((zz_put V (a (2 + (Int32.toNatClampNeg p0))) 2 p1)), rfl, (by first | exact Or.inl ⟨by omega, rfl, hR⟩ | exact Or.inr ⟨by omega, rfl, hR⟩), by rw [ht]; exact hP9, va_K.moved hW.alike hK9, hD9⟩, hS.F ht⟩) hS.2.2 dX7_ill_29
    · have zc_3 := c_3
      rw [e_2, zz_in0, Int32.le_iff_toInt_le, Int32.le_iff_toInt_le] at zc_3
      try rw [show (0 : Int32).toInt = 0 from by decide] at zc_3
      try rw [show (400 : Int32).toInt = 400 from by decide] at zc_3
      refine lv_iconst (v := 0) hx hb dX7_ill_21 (by decide) ?_
      obtain ⟨hP9, hD9⟩ := zz_part2 (cx := [(a 0, .inr (7, [.ref (a 1), .ref (a 10), .ref (a 23), .ref (a 24), .ref (a 26), .ref (a 29), .ref (a 34), .ref (a 43), .int (nI nh), .int (nI nf), .int clk, .int hi])), (a 1, .inl (cH, 8, .inr (.inr (.inr (.inr fH)))))]) hP hD [0, 1] (by decide) rfl
      have hK9 := hK.sub (tys' := [(cH, .object RX4)]) [0] rfl
      exact W.zret (v := 0) hx hb hr (rfl) (fun t ht hW => ⟨⟨0, (V), rfl, (by first | exact Or.inl ⟨by omega, rfl, hR⟩ | exact Or.inr ⟨by omega, rfl, hR⟩), by rw [ht]; exact hP9, va_K.moved hW.alike hK9, hD9⟩, hS.F ht⟩) hS.2.2 dX7_ill_22
set_option maxHeartbeats 4000000 in
set_option maxRecDepth 100000 in
theorem kx_field (l : Launch) (dC : Nat → ClassId) (dI : Nat → Nat → Nat) (a : Nat → Nat) (nh : Nat) (nf : Nat) (clk : Int32) (hi : Int32) (cH : ClassId) (fH : Nat → Option Nat) (cF : ClassId) (fF : Nat → Option Nat) (V : Nat → Nat → Int32) (vh0 : Nat → Int32) (vh1 : Nat → Int32) (vh2 : Nat → Int32) (vh3 : Nat → Int32) (vh4 : Nat → Int32) (vh5 : Nat → Int32) (vh6 : Nat → Int32) (vh7 : Nat → Int32) (vh8 : Nat → Int32) (vf0 : Nat → Int32) (vf1 : Nat → Int32) (vf2 : Nat → Int32) (vf3 : Nat → Int32) (vf4 : Nat → Int32) (vf5 : Nat → Int32) (vf6 : Nat → Int32) (p0 : Int32) (p1 : Int32) (p2 : Int32) (p3 : Int32) (p4 : Int32) (L : List Nat) (K : Nat → Nat) (sz : Nat) (hc8 : nh ≤ 8) (hf12 : nf ≤ 12) (hfH : ∀ k, k < 8 → fH k = some (a (2 + k))) (hfF : ∀ k, k < 12 → fF k = some (a (11 + k))) (hH : ∀ k, k < 8 → a (2 + k) ∈ L ∧ K (a (2 + k)) = 4) (hF : ∀ k, k < 12 → a (11 + k) ∈ L ∧ K (a (11 + k)) = 3) (hdj : zz_dj a) (hR : zz_RV a V vh0 vh1 vh2 vh3 vh4 vh5 vh6 vh7 vh8 vf0 vf1 vf2 vf3 vf4 vf5 vf6) : Met l yX7_field (zz_w yX7_field cX7_field 7 (some .int)) ({ frames := 2, cells := 0, slots := 0, locals := 43 }) (va_Pc [.ref (a 0), .int p0, .int p1, .int p2, .int p3, .int p4] (zz_B (dC, dI) sz (([(a 0, .inr (7, [.ref (a 1), .ref (a 10), .ref (a 23), .ref (a 24), .ref (a 26), .ref (a 29), .ref (a 34), .ref (a 43), .int (nI nh), .int (nI nf), .int clk, .int hi])), (a 1, .inl (cH, 8, .inr (.inr (.inr (.inr fH))))), (a 10, .inl (cF, 12, .inr (.inr (.inr (.inr fF)))))] : va_W) ++ va_pl L (zz_F K V)) [(cH, .object RX4), (cF, .object RX3)])) (va_Qi (fun (r : Int32) (u : Nat × (Nat → Nat → Int32)) => match u with | (f2, V2) => (((0 ≤ p0.toInt ∧ p0.toInt < (nh : Int)) ∧ (0 ≤ p1.toInt ∧ p1.toInt ≤ 2) ∧ (1 ≤ p2.toInt ∧ p2.toInt ≤ 60) ∧ (0 ≤ p3.toInt ∧ p3.toInt ≤ 400) ∧ (0 ≤ p4.toInt ∧ p4.toInt ≤ 10000) ∧ nf < 12) ∧ r = nI nf ∧ f2 = (nf + 1) ∧ zz_RV a V2 vh0 vh1 vh2 vh3 vh4 vh5 vh6 vh7 vh8 (upd vf0 nf p0) (upd vf1 nf p1) (upd vf2 nf p2) (upd vf3 nf p3) (upd vf4 nf p4) vf5 vf6) ∨ (¬ ((0 ≤ p0.toInt ∧ p0.toInt < (nh : Int)) ∧ (0 ≤ p1.toInt ∧ p1.toInt ≤ 2) ∧ (1 ≤ p2.toInt ∧ p2.toInt ≤ 60) ∧ (0 ≤ p3.toInt ∧ p3.toInt ≤ 400) ∧ (0 ≤ p4.toInt ∧ p4.toInt ≤ 10000) ∧ nf < 12) ∧ r = -1 ∧ f2 = nf ∧ zz_RV a V2 vh0 vh1 vh2 vh3 vh4 vh5 vh6 vh7 vh8 vf0 vf1 vf2 vf3 vf4 vf5 vf6)) (fun (u : Nat × (Nat → Nat → Int32)) (t : State) => match u with | (u0, u1) => va_P (dC, dI) vwCl (([(a 0, .inr (7, [.ref (a 1), .ref (a 10), .ref (a 23), .ref (a 24), .ref (a 26), .ref (a 29), .ref (a 34), .ref (a 43), .int (nI nh), .int (nI u0), .int clk, .int hi])), (a 1, .inl (cH, 8, .inr (.inr (.inr (.inr fH))))), (a 10, .inl (cF, 12, .inr (.inr (.inr (.inr fF)))))] : va_W) ++ va_pl L (zz_F K u1)) t.heap ∧ va_K (dC, dI) vwCl [(cH, .object RX4), (cF, .object RX3)] t ∧ va_D (va_A (([(a 0, .inr (7, [.ref (a 1), .ref (a 10), .ref (a 23), .ref (a 24), .ref (a 26), .ref (a 29), .ref (a 34), .ref (a 43), .int (nI nh), .int (nI nf), .int clk, .int hi])), (a 1, .inl (cH, 8, .inr (.inr (.inr (.inr fH))))), (a 10, .inl (cF, 12, .inr (.inr (.inr (.inr fF)))))] : va_W) ++ va_pl L (zz_F K V)) sz) (([(a 0, .inr (7, [.ref (a 1), .ref (a 10), .ref (a 23), .ref (a 24), .ref (a 26), .ref (a 29), .ref (a 34), .ref (a 43), .int (nI nh), .int (nI u0), .int clk, .int hi])), (a 1, .inl (cH, 8, .inr (.inr (.inr (.inr fH))))), (a 10, .inl (cF, 12, .inr (.inr (.inr (.inr fF)))))] : va_W) ++ va_pl L (zz_F K u1))) (va_A (([(a 0, .inr (7, [.ref (a 1), .ref (a 10), .ref (a 23), .ref (a 24), .ref (a 26), .ref (a 29), .ref (a 34), .ref (a 43), .int (nI nh), .int (nI nf), .int clk, .int hi])), (a 1, .inl (cH, 8, .inr (.inr (.inr (.inr fH))))), (a 10, .inl (cF, 12, .inr (.inr (.inr (.inr fF)))))] : va_W) ++ va_pl L (zz_F K V)) sz)) 0 0 (va_A (([(a 0, .inr (7, [.ref (a 1), .ref (a 10), .ref (a 23), .ref (a 24), .ref (a 26), .ref (a 29), .ref (a 34), .ref (a 43), .int (nI nh), .int (nI nf), .int clk, .int hi])), (a 1, .inl (cH, 8, .inr (.inr (.inr (.inr fH))))), (a 10, .inl (cF, 12, .inr (.inr (.inr (.inr fF)))))] : va_W) ++ va_pl L (zz_F K V)) sz) := by
  refine Met.ofW (cc := cX7_field) (maxL := 7) (ret := (some .int)) (by decide) rfl ?_
  intro p e s m args below meth c s₁ B hml hv
  obtain ⟨rfl, hsz, hP, hK, hD0, hN⟩ := hv
  have hx := B.exec
  have hb := B.bytes
  have hr := B.returns
  have hts := atoms_spec (ws := zz_w yX7_field cX7_field 7 (some .int)) B.pre
  have hw : ∀ w ∈ zz_all, w.before _ s = true := fun w h => hts w (List.mem_cons_of_mem _ h)
  have hown : s.vm.findClass RX7 = some m.cls := findClass_of_methodNamed B.named
  have hlocks := B.notSynchronized
  subst hsz
  have hD := hD0.self (sz := s.heap.size)
  generalize hAe : va_A (([(a 0, .inr (7, [.ref (a 1), .ref (a 10), .ref (a 23), .ref (a 24), .ref (a 26), .ref (a 29), .ref (a 34), .ref (a 43), .int (nI nh), .int (nI nf), .int clk, .int hi])), (a 1, .inl (cH, 8, .inr (.inr (.inr (.inr fH))))), (a 10, .inl (cF, 12, .inr (.inr (.inr (.inr fF)))))] : va_W) ++ va_pl L (zz_F K V)) s.heap.size = A at hD ⊢
  have hA : ∀ q : Nat, s.heap.size ≤ q → A q := fun q h => by rw [← hAe]; exact Or.inr h
  have hS : va_S A s.heap s.heap [] := va_S.rf
  have hP : va_P (dC, dI) vwCl (([(a 0, .inr (7, [.ref (a 1), .ref (a 10), .ref (a 23), .ref (a 24), .ref (a 26), .ref (a 29), .ref (a 34), .ref (a 43), .int (nI nh), .int (nI nf), .int clk, .int hi])), (a 1, .inl (cH, 8, .inr (.inr (.inr (.inr fH))))), (a 10, .inl (cF, 12, .inr (.inr (.inr (.inr fF)))))] : va_W) ++ va_pl L (zz_F K V)) s.heap := hP
  have hl := lv_entry ([.ref (a 0), .int p0, .int p1, .int p2, .int p3, .int p4]) (n := 7) (Nat.le_of_ble_eq_true rfl)
  rw [lg_entry_eq]
  generalize (lg_sl ([.ref (a 0), .int p0, .int p1, .int p2, .int p3, .int p4]) ++ List.replicate (7 - (lg_sl ([.ref (a 0), .int p0, .int p1, .int p2, .int p3, .int p4])).length) Slot.unset).toArray = ls at hl ⊢
  have hl : lv_has ls 7 [(0, .ref (a 0)), (1, .int p0), (2, .int p1), (3, .int p2), (4, .int p3), (5, .int p4)] := hl
  refine lv_aload_n hx hb dX7_field_0 rfl (lv_at hl 0 rfl) ?_
  refine lv_iload_n hx hb dX7_field_1 rfl (lv_at hl 1 rfl) ?_
  obtain ⟨hPc, hDc⟩ := zz_sub2 (ws' := [(a 0, .inr (7, [.ref (a 1), .ref (a 10), .ref (a 23), .ref (a 24), .ref (a 26), .ref (a 29), .ref (a 34), .ref (a 43), .int (nI nh), .int (nI nf), .int clk, .int hi])), (a 1, .inl (cH, 8, .inr (.inr (.inr (.inr fH)))))]) hP hD [0, 1] (by decide) rfl
  have hKc := hK.sub (tys' := [(cH, .object RX4)]) [0] rfl
  have hFc := zz_free0 hS hA
  refine va_callq (va_runV (As := [.int p0]) (rest := []) ⟨hx, hb, hml, hown, hw⟩ (k_houseAt l dC dI a nh nf clk hi cH fH p0 s.heap.size (by omega) (by omega) hfH) ⟨callB_of 1 hw (zz_good tw_8) rfl rfl rfl (hw _ tw_2) (hw _ tw_9) (by decide +kernel) ⟨Nat.le_of_ble_eq_true rfl, Nat.le_of_ble_eq_true rfl⟩, (hw _ tw_10), (hw _ tw_11)⟩ ⟨zz_blind, va_recv hKc hPc (ci := 7) (q0 := 0) rfl rfl, zz_pre hPc hKc hDc hN⟩ rfl rfl hl.1 rfl (lv_room (Nat.le_of_ble_eq_true rfl)) dX7_field_2 ⟨Nat.le_of_ble_eq_true rfl, Nat.le_of_ble_eq_true rfl⟩) hS (fun q _ h => hFc q h) hFc (fun r_1 u_1 t H1 locs ht hvm e_1 hB hz1 hk1 hS => ?_)
  try dsimp only at e_1
  have hP := zz_keep hP hk1
  clear hk1 hB ht hvm
  generalize H1 = H at hP hS ⊢
  rcases e_1 with ⟨er_1, nk_1⟩ | ⟨er_1, nk_1⟩
  · refine zz_setv (.null) (congrArg va_rf er_1) ?_
    refine lv_ifnullN (tgt := 17) hx hb dX7_field_5 (by decide) ?_
    refine lv_iconst (v := (-1)) hx hb dX7_field_17 (by decide) ?_
    obtain ⟨hP9, hD9⟩ := zz_part2 (cx := [(a 0, .inr (7, [.ref (a 1), .ref (a 10), .ref (a 23), .ref (a 24), .ref (a 26), .ref (a 29), .ref (a 34), .ref (a 43), .int (nI nh), .int (nI nf), .int clk, .int hi])), (a 1, .inl (cH, 8, .inr (.inr (.inr (.inr fH))))), (a 10, .inl (cF, 12, .inr (.inr (.inr (.inr fF)))))]) hP hD [0, 1, 2] (by decide) rfl
    have hK9 := hK.sub (tys' := [(cH, .object RX4), (cF, .object RX3)]) [0, 1] rfl
    exact W.iret (v := (-1)) hx hb hr (fun t ht hW => ⟨⟨(-1), (nf, V), rfl, (by first | exact Or.inl ⟨by omega, rfl, rfl, hR⟩ | exact Or.inr ⟨by omega, rfl, rfl, hR⟩), by rw [ht]; exact hP9, va_K.moved hW.alike hK9, hD9⟩, hS.F ht⟩) hS.2.2 dX7_field_18
  · refine zz_setv (.ref (a (2 + (Int32.toNatClampNeg p0)))) (congrArg va_rf er_1) ?_
    refine lv_ifnull hx hb dX7_field_5 ?_
    refine lv_aload_n hx hb dX7_field_8 rfl (lv_at hl 0 rfl) ?_
    refine va_get (D := (dC, dI)) (ci := 7) (v := .int (nI nf)) (C := RX7) (T := TX7) (N := 12) hx hb hw zz_inX7 hown hK hP 0 rfl rfl 9 (by decide) (hw _ tw_6) (fun _ h9 => h9) rfl dX7_field_9 ?_
    refine lv_bipush (v := 12) hx hb dX7_field_12 (by decide) ?_
    refine lv_icmp_lt (tgt := 19) hx hb dX7_field_14 (by decide) (fun c_2 => ?_) (fun c_2 => ?_)
    · have zc_2 := c_2
      rw [Int32.lt_iff_toInt_lt] at zc_2
      try rw [zz_toInt nf (by omega)] at zc_2
      try rw [show (12 : Int32).toInt = 12 from by decide] at zc_2
      refine lv_iload_n hx hb dX7_field_19 rfl (lv_at hl 2 rfl) ?_
      refine lv_iconst (v := 0) hx hb dX7_field_20 (by decide) ?_
      refine lv_iconst (v := 2) hx hb dX7_field_21 (by decide) ?_
      obtain ⟨hPc, hDc⟩ := zz_sub2 (ws' := []) hP hD [] (by decide) rfl
      have hKc := hK.sub (tys' := []) [] rfl
      have hFc := zz_free0 hS hA
      refine va_calli (va_runS (As := [.int p1, .int 0, .int 2]) (rest := []) ⟨hx, hb, hml, hown, hw⟩ (k_within l dC dI p1 0 2 H.size) ⟨callB_of 3 hw (zz_good tw_1) rfl rfl rfl (hw _ tw_2) (hw _ tw_3) (by decide +kernel) ⟨Nat.le_of_ble_eq_true rfl, Nat.le_of_ble_eq_true rfl⟩, (hw _ tw_4)⟩ ⟨zz_blind, zz_pre hPc hKc hDc hN⟩ rfl rfl hl.1 rfl (lv_room (Nat.le_of_ble_eq_true rfl)) dX7_field_22 ⟨Nat.le_of_ble_eq_true rfl, Nat.le_of_ble_eq_true rfl⟩) hS (fun q _ h => hFc q h) hFc (fun r_3 u_3 t H1 locs ht hvm e_3 hB hz1 hk1 hS => ?_)
      try dsimp only at e_3
      have hP := zz_keep hP hk1
      clear hk1 hB ht hvm
      generalize H1 = H at hP hS ⊢
      refine lv_if_eq (tgt := 62) hx hb dX7_field_25 (by decide) (fun c_4 => ?_) (fun c_4 => ?_)
      · have zc_4 := c_4
        rw [e_3, zz_in0, Int32.le_iff_toInt_le, Int32.le_iff_toInt_le] at zc_4
        try rw [show (0 : Int32).toInt = 0 from by decide] at zc_4
        try rw [show (2 : Int32).toInt = 2 from by decide] at zc_4
        refine lv_iconst (v := (-1)) hx hb dX7_field_62 (by decide) ?_
        obtain ⟨hP9, hD9⟩ := zz_part2 (cx := [(a 0, .inr (7, [.ref (a 1), .ref (a 10), .ref (a 23), .ref (a 24), .ref (a 26), .ref (a 29), .ref (a 34), .ref (a 43), .int (nI nh), .int (nI nf), .int clk, .int hi])), (a 1, .inl (cH, 8, .inr (.inr (.inr (.inr fH))))), (a 10, .inl (cF, 12, .inr (.inr (.inr (.inr fF)))))]) hP hD [0, 1, 2] (by decide) rfl
        have hK9 := hK.sub (tys' := [(cH, .object RX4), (cF, .object RX3)]) [0, 1] rfl
        exact W.iret (v := (-1)) hx hb hr (fun t ht hW => ⟨⟨(-1), (nf, V), rfl, (by first | exact Or.inl ⟨by omega, rfl, rfl, hR⟩ | exact Or.inr ⟨by omega, rfl, rfl, hR⟩), by rw [ht]; exact hP9, va_K.moved hW.alike hK9, hD9⟩, hS.F ht⟩) hS.2.2 dX7_field_63
      · have zc_4 := c_4
        rw [e_3, zz_in0, Int32.le_iff_toInt_le, Int32.le_iff_toInt_le] at zc_4
        try rw [show (0 : Int32).toInt = 0 from by decide] at zc_4
        try rw [show (2 : Int32).toInt = 2 from by decide] at zc_4
        refine lv_iload_n hx hb dX7_field_28 rfl (lv_at hl 3 rfl) ?_
        refine lv_iconst (v := 1) hx hb dX7_field_29 (by decide) ?_
        refine lv_bipush (v := 60) hx hb dX7_field_30 (by decide) ?_
        obtain ⟨hPc, hDc⟩ := zz_sub2 (ws' := []) hP hD [] (by decide) rfl
        have hKc := hK.sub (tys' := []) [] rfl
        have hFc := zz_free0 hS hA
        refine va_calli (va_runS (As := [.int p2, .int 1, .int 60]) (rest := []) ⟨hx, hb, hml, hown, hw⟩ (k_within l dC dI p2 1 60 H.size) ⟨callB_of 3 hw (zz_good tw_1) rfl rfl rfl (hw _ tw_2) (hw _ tw_3) (by decide +kernel) ⟨Nat.le_of_ble_eq_true rfl, Nat.le_of_ble_eq_true rfl⟩, (hw _ tw_4)⟩ ⟨zz_blind, zz_pre hPc hKc hDc hN⟩ rfl rfl hl.1 rfl (lv_room (Nat.le_of_ble_eq_true rfl)) dX7_field_32 ⟨Nat.le_of_ble_eq_true rfl, Nat.le_of_ble_eq_true rfl⟩) hS (fun q _ h => hFc q h) hFc (fun r_5 u_5 t H1 locs ht hvm e_5 hB hz1 hk1 hS => ?_)
        try dsimp only at e_5
        have hP := zz_keep hP hk1
        clear hk1 hB ht hvm
        generalize H1 = H at hP hS ⊢
        refine lv_if_eq (tgt := 62) hx hb dX7_field_35 (by decide) (fun c_6 => ?_) (fun c_6 => ?_)
        · have zc_6 := c_6
          rw [e_5, zz_in0, Int32.le_iff_toInt_le, Int32.le_iff_toInt_le] at zc_6
          try rw [show (1 : Int32).toInt = 1 from by decide] at zc_6
          try rw [show (60 : Int32).toInt = 60 from by decide] at zc_6
          refine lv_iconst (v := (-1)) hx hb dX7_field_62 (by decide) ?_
          obtain ⟨hP9, hD9⟩ := zz_part2 (cx := [(a 0, .inr (7, [.ref (a 1), .ref (a 10), .ref (a 23), .ref (a 24), .ref (a 26), .ref (a 29), .ref (a 34), .ref (a 43), .int (nI nh), .int (nI nf), .int clk, .int hi])), (a 1, .inl (cH, 8, .inr (.inr (.inr (.inr fH))))), (a 10, .inl (cF, 12, .inr (.inr (.inr (.inr fF)))))]) hP hD [0, 1, 2] (by decide) rfl
          have hK9 := hK.sub (tys' := [(cH, .object RX4), (cF, .object RX3)]) [0, 1] rfl
          exact W.iret (v := (-1)) hx hb hr (fun t ht hW => ⟨⟨(-1), (nf, V), rfl, (by first | exact Or.inl ⟨by omega, rfl, rfl, hR⟩ | exact Or.inr ⟨by omega, rfl, rfl, hR⟩), by rw [ht]; exact hP9, va_K.moved hW.alike hK9, hD9⟩, hS.F ht⟩) hS.2.2 dX7_field_63
        · have zc_6 := c_6
          rw [e_5, zz_in0, Int32.le_iff_toInt_le, Int32.le_iff_toInt_le] at zc_6
          try rw [show (1 : Int32).toInt = 1 from by decide] at zc_6
          try rw [show (60 : Int32).toInt = 60 from by decide] at zc_6
          refine lv_iload hx hb dX7_field_38 (lv_at hl 4 rfl) ?_
          refine lv_iconst (v := 0) hx hb dX7_field_40 (by decide) ?_
          refine lv_sipush (v := 400) hx hb dX7_field_41 (by decide) ?_
          obtain ⟨hPc, hDc⟩ := zz_sub2 (ws' := []) hP hD [] (by decide) rfl
          have hKc := hK.sub (tys' := []) [] rfl
          have hFc := zz_free0 hS hA
          refine va_calli (va_runS (As := [.int p3, .int 0, .int 400]) (rest := []) ⟨hx, hb, hml, hown, hw⟩ (k_within l dC dI p3 0 400 H.size) ⟨callB_of 3 hw (zz_good tw_1) rfl rfl rfl (hw _ tw_2) (hw _ tw_3) (by decide +kernel) ⟨Nat.le_of_ble_eq_true rfl, Nat.le_of_ble_eq_true rfl⟩, (hw _ tw_4)⟩ ⟨zz_blind, zz_pre hPc hKc hDc hN⟩ rfl rfl hl.1 rfl (lv_room (Nat.le_of_ble_eq_true rfl)) dX7_field_44 ⟨Nat.le_of_ble_eq_true rfl, Nat.le_of_ble_eq_true rfl⟩) hS (fun q _ h => hFc q h) hFc (fun r_7 u_7 t H1 locs ht hvm e_7 hB hz1 hk1 hS => ?_)
          try dsimp only at e_7
          have hP := zz_keep hP hk1
          clear hk1 hB ht hvm
          generalize H1 = H at hP hS ⊢
          refine lv_if_eq (tgt := 62) hx hb dX7_field_47 (by decide) (fun c_8 => ?_) (fun c_8 => ?_)
          · have zc_8 := c_8
            rw [e_7, zz_in0, Int32.le_iff_toInt_le, Int32.le_iff_toInt_le] at zc_8
            try rw [show (0 : Int32).toInt = 0 from by decide] at zc_8
            try rw [show (400 : Int32).toInt = 400 from by decide] at zc_8
            refine lv_iconst (v := (-1)) hx hb dX7_field_62 (by decide) ?_
            obtain ⟨hP9, hD9⟩ := zz_part2 (cx := [(a 0, .inr (7, [.ref (a 1), .ref (a 10), .ref (a 23), .ref (a 24), .ref (a 26), .ref (a 29), .ref (a 34), .ref (a 43), .int (nI nh), .int (nI nf), .int clk, .int hi])), (a 1, .inl (cH, 8, .inr (.inr (.inr (.inr fH))))), (a 10, .inl (cF, 12, .inr (.inr (.inr (.inr fF)))))]) hP hD [0, 1, 2] (by decide) rfl
            have hK9 := hK.sub (tys' := [(cH, .object RX4), (cF, .object RX3)]) [0, 1] rfl
            exact W.iret (v := (-1)) hx hb hr (fun t ht hW => ⟨⟨(-1), (nf, V), rfl, (by first | exact Or.inl ⟨by omega, rfl, rfl, hR⟩ | exact Or.inr ⟨by omega, rfl, rfl, hR⟩), by rw [ht]; exact hP9, va_K.moved hW.alike hK9, hD9⟩, hS.F ht⟩) hS.2.2 dX7_field_63
          · have zc_8 := c_8
            rw [e_7, zz_in0, Int32.le_iff_toInt_le, Int32.le_iff_toInt_le] at zc_8
            try rw [show (0 : Int32).toInt = 0 from by decide] at zc_8
            try rw [show (400 : Int32).toInt = 400 from by decide] at zc_8
            refine lv_iload hx hb dX7_field_50 (lv_at hl 5 rfl) ?_
            refine lv_iconst (v := 0) hx hb dX7_field_52 (by decide) ?_
            refine lv_sipush (v := 10000) hx hb dX7_field_53 (by decide) ?_
            obtain ⟨hPc, hDc⟩ := zz_sub2 (ws' := []) hP hD [] (by decide) rfl
            have hKc := hK.sub (tys' := []) [] rfl
            have hFc := zz_free0 hS hA
            refine va_calli (va_runS (As := [.int p4, .int 0, .int 10000]) (rest := []) ⟨hx, hb, hml, hown, hw⟩ (k_within l dC dI p4 0 10000 H.size) ⟨callB_of 3 hw (zz_good tw_1) rfl rfl rfl (hw _ tw_2) (hw _ tw_3) (by decide +kernel) ⟨Nat.le_of_ble_eq_true rfl, Nat.le_of_ble_eq_true rfl⟩, (hw _ tw_4)⟩ ⟨zz_blind, zz_pre hPc hKc hDc hN⟩ rfl rfl hl.1 rfl (lv_room (Nat.le_of_ble_eq_true rfl)) dX7_field_56 ⟨Nat.le_of_ble_eq_true rfl, Nat.le_of_ble_eq_true rfl⟩) hS (fun q _ h => hFc q h) hFc (fun r_9 u_9 t H1 locs ht hvm e_9 hB hz1 hk1 hS => ?_)
            try dsimp only at e_9
            have hP := zz_keep hP hk1
            clear hk1 hB ht hvm
            generalize H1 = H at hP hS ⊢
            refine lv_if_ne (tgt := 64) hx hb dX7_field_59 (by decide) (fun c_10 => ?_) (fun c_10 => ?_)
            · have zc_10 := c_10
              rw [e_9, zz_in0, Int32.le_iff_toInt_le, Int32.le_iff_toInt_le] at zc_10
              try rw [show (0 : Int32).toInt = 0 from by decide] at zc_10
              try rw [show (10000 : Int32).toInt = 10000 from by decide] at zc_10
              refine lv_aload_n hx hb dX7_field_64 rfl (lv_at hl 0 rfl) ?_
              refine va_get (D := (dC, dI)) (ci := 7) (v := .ref (a 10)) (C := RX7) (T := TX7) (N := 12) hx hb hw zz_inX7 hown hK hP 0 rfl rfl 1 (by decide) (hw _ tw_7) (fun _ h9 => h9) rfl dX7_field_65 ?_
              refine lv_aload_n hx hb dX7_field_68 rfl (lv_at hl 0 rfl) ?_
              refine va_get (D := (dC, dI)) (ci := 7) (v := .int (nI nf)) (C := RX7) (T := TX7) (N := 12) hx hb hw zz_inX7 hown hK hP 0 rfl rfl 9 (by decide) (hw _ tw_6) (fun _ h9 => h9) rfl dX7_field_69 ?_
              refine va_aldq hx hb hK hP 2 1 rfl rfl (vp_in_iff.mpr (by rw [zz_toInt nf (by omega)]; constructor <;> omega)) dX7_field_72 ?_
              refine zz_setv (.ref (a (11 + nf))) (by rw [zz_cl (by omega)]; exact congrArg va_rf (hfF nf (by omega))) ?_
              refine lv_astore (lv' := [(6, .ref (a (11 + nf))), (0, .ref (a 0)), (1, .int p0), (2, .int p1), (3, .int p2), (4, .int p3), (5, .int p4)]) hx hb dX7_field_73 hl (by decide) rfl (fun ls hl => ?_)
              refine lv_aload hx hb dX7_field_75 (lv_at hl 0 rfl) ?_
              refine lv_iload_n hx hb dX7_field_77 rfl (lv_at hl 2 rfl) ?_
              obtain ⟨kq_11, hq_11⟩ := zz_pg3 (X := [(a 0, .inr (7, [.ref (a 1), .ref (a 10), .ref (a 23), .ref (a 24), .ref (a 26), .ref (a 29), .ref (a 34), .ref (a 43), .int (nI nh), .int (nI nf), .int clk, .int hi])), (a 1, .inl (cH, 8, .inr (.inr (.inr (.inr fH))))), (a 10, .inl (cF, 12, .inr (.inr (.inr (.inr fF)))))]) (V := V) (hF nf (by omega)).1 (hF nf (by omega)).2
              have hDo := hD
              refine va_putN (D := (dC, dI)) (ci := 3) (v := .int p0) (ty := .int) (C := RX3) (T := TX3) (N := 7) hx hb hw zz_inX3 tyX3 tyX3_ok nmX3 hown hK hP hD hS kq_11 hq_11 rfl 0 (by decide) (hN.use zz_n11) (fun _ h9 => h9) rfl (by decide +kernel) rfl rfl (Nat.le_of_ble_eq_true rfl) dX7_field_78 (fun H locs hP hD hS => ?_)
              have hP : va_P (dC, dI) vwCl (List.set (α := Nat × va_E) (([(a 0, .inr (7, [.ref (a 1), .ref (a 10), .ref (a 23), .ref (a 24), .ref (a 26), .ref (a 29), .ref (a 34), .ref (a 43), .int (nI nh), .int (nI nf), .int clk, .int hi])), (a 1, .inl (cH, 8, .inr (.inr (.inr (.inr fH))))), (a 10, .inl (cF, 12, .inr (.inr (.inr (.inr fF)))))] : va_W) ++ va_pl L (zz_F K V)) kq_11 (a (11 + nf), .inr (3, [.int p0, .int (V (a (11 + nf)) 1), .int (V (a (11 + nf)) 2), .int (V (a (11 + nf)) 3), .int (V (a (11 + nf)) 4), .int (V (a (11 + nf)) 5), .int (V (a (11 + nf)) 6)]))) H := hP
              have hD : va_D A (List.set (α := Nat × va_E) (([(a 0, .inr (7, [.ref (a 1), .ref (a 10), .ref (a 23), .ref (a 24), .ref (a 26), .ref (a 29), .ref (a 34), .ref (a 43), .int (nI nh), .int (nI nf), .int clk, .int hi])), (a 1, .inl (cH, 8, .inr (.inr (.inr (.inr fH))))), (a 10, .inl (cF, 12, .inr (.inr (.inr (.inr fF)))))] : va_W) ++ va_pl L (zz_F K V)) kq_11 (a (11 + nf), .inr (3, [.int p0, .int (V (a (11 + nf)) 1), .int (V (a (11 + nf)) 2), .int (V (a (11 + nf)) 3), .int (V (a (11 + nf)) 4), .int (V (a (11 + nf)) 5), .int (V (a (11 + nf)) 6)]))) := hD
              rw [zz_ps3_0 hDo (hF nf (by omega)).1 (hF nf (by omega)).2 hq_11] at hP hD
              have hR : zz_RV a (zz_put V (a (11 + nf)) 0 p0) vh0 vh1 vh2 vh3 vh4 vh5 vh6 vh7 vh8 (upd vf0 nf p0) vf1 vf2 vf3 vf4 vf5 vf6 := zz_RVp3_0 hdj hR (by omega)
              obtain ⟨hP, hD⟩ := zz_ty (D := (dC, dI)) (cl := vwCl) (A := A) (H := H) (([(a 0, .inr (7, [.ref (a 1), .ref (a 10), .ref (a 23), .ref (a 24), .ref (a 26), .ref (a 29), .ref (a 34), .ref (a 43), .int (nI nh), .int (nI nf), .int clk, .int hi])), (a 1, .inl (cH, 8, .inr (.inr (.inr (.inr fH))))), (a 10, .inl (cF, 12, .inr (.inr (.inr (.inr fF)))))] : va_W) ++ va_pl L (zz_F K (zz_put V (a (11 + nf)) 0 p0))) hP hD rfl
              refine lv_aload hx hb dX7_field_81 (lv_at hl 0 rfl) ?_
              refine lv_iload_n hx hb dX7_field_83 rfl (lv_at hl 3 rfl) ?_
              obtain ⟨kq_12, hq_12⟩ := zz_pg3 (X := [(a 0, .inr (7, [.ref (a 1), .ref (a 10), .ref (a 23), .ref (a 24), .ref (a 26), .ref (a 29), .ref (a 34), .ref (a 43), .int (nI nh), .int (nI nf), .int clk, .int hi])), (a 1, .inl (cH, 8, .inr (.inr (.inr (.inr fH))))), (a 10, .inl (cF, 12, .inr (.inr (.inr (.inr fF)))))]) (V := (zz_put V (a (11 + nf)) 0 p0)) (hF nf (by omega)).1 (hF nf (by omega)).2
              have hDo := hD
              refine va_putN (D := (dC, dI)) (ci := 3) (v := .int p1) (ty := .int) (C := RX3) (T := TX3) (N := 7) hx hb hw zz_inX3 tyX3 tyX3_ok nmX3 hown hK hP hD hS kq_12 hq_12 rfl 1 (by decide) (hN.use zz_n12) (fun _ h9 => h9) rfl (by decide +kernel) rfl rfl (Nat.le_of_ble_eq_true rfl) dX7_field_84 (fun H locs hP hD hS => ?_)
              have hP : va_P (dC, dI) vwCl (List.set (α := Nat × va_E) (([(a 0, .inr (7, [.ref (a 1), .ref (a 10), .ref (a 23), .ref (a 24), .ref (a 26), .ref (a 29), .ref (a 34), .ref (a 43), .int (nI nh), .int (nI nf), .int clk, .int hi])), (a 1, .inl (cH, 8, .inr (.inr (.inr (.inr fH))))), (a 10, .inl (cF, 12, .inr (.inr (.inr (.inr fF)))))] : va_W) ++ va_pl L (zz_F K (zz_put V (a (11 + nf)) 0 p0))) kq_12 (a (11 + nf), .inr (3, [.int ((zz_put V (a (11 + nf)) 0 p0) (a (11 + nf)) 0), .int p1, .int ((zz_put V (a (11 + nf)) 0 p0) (a (11 + nf)) 2), .int ((zz_put V (a (11 + nf)) 0 p0) (a (11 + nf)) 3), .int ((zz_put V (a (11 + nf)) 0 p0) (a (11 + nf)) 4), .int ((zz_put V (a (11 + nf)) 0 p0) (a (11 + nf)) 5), .int ((zz_put V (a (11 + nf)) 0 p0) (a (11 + nf)) 6)]))) H := hP
              have hD : va_D A (List.set (α := Nat × va_E) (([(a 0, .inr (7, [.ref (a 1), .ref (a 10), .ref (a 23), .ref (a 24), .ref (a 26), .ref (a 29), .ref (a 34), .ref (a 43), .int (nI nh), .int (nI nf), .int clk, .int hi])), (a 1, .inl (cH, 8, .inr (.inr (.inr (.inr fH))))), (a 10, .inl (cF, 12, .inr (.inr (.inr (.inr fF)))))] : va_W) ++ va_pl L (zz_F K (zz_put V (a (11 + nf)) 0 p0))) kq_12 (a (11 + nf), .inr (3, [.int ((zz_put V (a (11 + nf)) 0 p0) (a (11 + nf)) 0), .int p1, .int ((zz_put V (a (11 + nf)) 0 p0) (a (11 + nf)) 2), .int ((zz_put V (a (11 + nf)) 0 p0) (a (11 + nf)) 3), .int ((zz_put V (a (11 + nf)) 0 p0) (a (11 + nf)) 4), .int ((zz_put V (a (11 + nf)) 0 p0) (a (11 + nf)) 5), .int ((zz_put V (a (11 + nf)) 0 p0) (a (11 + nf)) 6)]))) := hD
              rw [zz_ps3_1 hDo (hF nf (by omega)).1 (hF nf (by omega)).2 hq_12] at hP hD
              have hR : zz_RV a (zz_put (zz_put V (a (11 + nf)) 0 p0) (a (11 + nf)) 1 p1) vh0 vh1 vh2 vh3 vh4 vh5 vh6 vh7 vh8 (upd vf0 nf p0) (upd vf1 nf p1) vf2 vf3 vf4 vf5 vf6 := zz_RVp3_1 hdj hR (by omega)
              obtain ⟨hP, hD⟩ := zz_ty (D := (dC, dI)) (cl := vwCl) (A := A) (H := H) (([(a 0, .inr (7, [.ref (a 1), .ref (a 10), .ref (a 23), .ref (a 24), .ref (a 26), .ref (a 29), .ref (a 34), .ref (a 43), .int (nI nh), .int (nI nf), .int clk, .int hi])), (a 1, .inl (cH, 8, .inr (.inr (.inr (.inr fH))))), (a 10, .inl (cF, 12, .inr (.inr (.inr (.inr fF)))))] : va_W) ++ va_pl L (zz_F K (zz_put (zz_put V (a (11 + nf)) 0 p0) (a (11 + nf)) 1 p1))) hP hD rfl
              refine lv_aload hx hb dX7_field_87 (lv_at hl 0 rfl) ?_
              refine lv_iload_n hx hb dX7_field_89 rfl (lv_at hl 4 rfl) ?_
              obtain ⟨kq_13, hq_13⟩ := zz_pg3 (X := [(a 0, .inr (7, [.ref (a 1), .ref (a 10), .ref (a 23), .ref (a 24), .ref (a 26), .ref (a 29), .ref (a 34), .ref (a 43), .int (nI nh), .int (nI nf), .int clk, .int hi])), (a 1, .inl (cH, 8, .inr (.inr (.inr (.inr fH))))), (a 10, .inl (cF, 12, .inr (.inr (.inr (.inr fF)))))]) (V := (zz_put (zz_put V (a (11 + nf)) 0 p0) (a (11 + nf)) 1 p1)) (hF nf (by omega)).1 (hF nf (by omega)).2
              have hDo := hD
              refine va_putN (D := (dC, dI)) (ci := 3) (v := .int p2) (ty := .int) (C := RX3) (T := TX3) (N := 7) hx hb hw zz_inX3 tyX3 tyX3_ok nmX3 hown hK hP hD hS kq_13 hq_13 rfl 2 (by decide) (hN.use zz_n13) (fun _ h9 => h9) rfl (by decide +kernel) rfl rfl (Nat.le_of_ble_eq_true rfl) dX7_field_90 (fun H locs hP hD hS => ?_)
              have hP : va_P (dC, dI) vwCl (List.set (α := Nat × va_E) (([(a 0, .inr (7, [.ref (a 1), .ref (a 10), .ref (a 23), .ref (a 24), .ref (a 26), .ref (a 29), .ref (a 34), .ref (a 43), .int (nI nh), .int (nI nf), .int clk, .int hi])), (a 1, .inl (cH, 8, .inr (.inr (.inr (.inr fH))))), (a 10, .inl (cF, 12, .inr (.inr (.inr (.inr fF)))))] : va_W) ++ va_pl L (zz_F K (zz_put (zz_put V (a (11 + nf)) 0 p0) (a (11 + nf)) 1 p1))) kq_13 (a (11 + nf), .inr (3, [.int ((zz_put (zz_put V (a (11 + nf)) 0 p0) (a (11 + nf)) 1 p1) (a (11 + nf)) 0), .int ((zz_put (zz_put V (a (11 + nf)) 0 p0) (a (11 + nf)) 1 p1) (a (11 + nf)) 1), .int p2, .int ((zz_put (zz_put V (a (11 + nf)) 0 p0) (a (11 + nf)) 1 p1) (a (11 + nf)) 3), .int ((zz_put (zz_put V (a (11 + nf)) 0 p0) (a (11 + nf)) 1 p1) (a (11 + nf)) 4), .int ((zz_put (zz_put V (a (11 + nf)) 0 p0) (a (11 + nf)) 1 p1) (a (11 + nf)) 5), .int ((zz_put (zz_put V (a (11 + nf)) 0 p0) (a (11 + nf)) 1 p1) (a (11 + nf)) 6)]))) H := hP
              have hD : va_D A (List.set (α := Nat × va_E) (([(a 0, .inr (7, [.ref (a 1), .ref (a 10), .ref (a 23), .ref (a 24), .ref (a 26), .ref (a 29), .ref (a 34), .ref (a 43), .int (nI nh), .int (nI nf), .int clk, .int hi])), (a 1, .inl (cH, 8, .inr (.inr (.inr (.inr fH))))), (a 10, .inl (cF, 12, .inr (.inr (.inr (.inr fF)))))] : va_W) ++ va_pl L (zz_F K (zz_put (zz_put V (a (11 + nf)) 0 p0) (a (11 + nf)) 1 p1))) kq_13 (a (11 + nf), .inr (3, [.int ((zz_put (zz_put V (a (11 + nf)) 0 p0) (a (11 + nf)) 1 p1) (a (11 + nf)) 0), .int ((zz_put (zz_put V (a (11 + nf)) 0 p0) (a (11 + nf)) 1 p1) (a (11 + nf)) 1), .int p2, .int ((zz_put (zz_put V (a (11 + nf)) 0 p0) (a (11 + nf)) 1 p1) (a (11 + nf)) 3), .int ((zz_put (zz_put V (a (11 + nf)) 0 p0) (a (11 + nf)) 1 p1) (a (11 + nf)) 4), .int ((zz_put (zz_put V (a (11 + nf)) 0 p0) (a (11 + nf)) 1 p1) (a (11 + nf)) 5), .int ((zz_put (zz_put V (a (11 + nf)) 0 p0) (a (11 + nf)) 1 p1) (a (11 + nf)) 6)]))) := hD
              rw [zz_ps3_2 hDo (hF nf (by omega)).1 (hF nf (by omega)).2 hq_13] at hP hD
              have hR : zz_RV a (zz_put (zz_put (zz_put V (a (11 + nf)) 0 p0) (a (11 + nf)) 1 p1) (a (11 + nf)) 2 p2) vh0 vh1 vh2 vh3 vh4 vh5 vh6 vh7 vh8 (upd vf0 nf p0) (upd vf1 nf p1) (upd vf2 nf p2) vf3 vf4 vf5 vf6 := zz_RVp3_2 hdj hR (by omega)
              obtain ⟨hP, hD⟩ := zz_ty (D := (dC, dI)) (cl := vwCl) (A := A) (H := H) (([(a 0, .inr (7, [.ref (a 1), .ref (a 10), .ref (a 23), .ref (a 24), .ref (a 26), .ref (a 29), .ref (a 34), .ref (a 43), .int (nI nh), .int (nI nf), .int clk, .int hi])), (a 1, .inl (cH, 8, .inr (.inr (.inr (.inr fH))))), (a 10, .inl (cF, 12, .inr (.inr (.inr (.inr fF)))))] : va_W) ++ va_pl L (zz_F K (zz_put (zz_put (zz_put V (a (11 + nf)) 0 p0) (a (11 + nf)) 1 p1) (a (11 + nf)) 2 p2))) hP hD rfl
              refine lv_aload hx hb dX7_field_93 (lv_at hl 0 rfl) ?_
              refine lv_iload hx hb dX7_field_95 (lv_at hl 5 rfl) ?_
              obtain ⟨kq_14, hq_14⟩ := zz_pg3 (X := [(a 0, .inr (7, [.ref (a 1), .ref (a 10), .ref (a 23), .ref (a 24), .ref (a 26), .ref (a 29), .ref (a 34), .ref (a 43), .int (nI nh), .int (nI nf), .int clk, .int hi])), (a 1, .inl (cH, 8, .inr (.inr (.inr (.inr fH))))), (a 10, .inl (cF, 12, .inr (.inr (.inr (.inr fF)))))]) (V := (zz_put (zz_put (zz_put V (a (11 + nf)) 0 p0) (a (11 + nf)) 1 p1) (a (11 + nf)) 2 p2)) (hF nf (by omega)).1 (hF nf (by omega)).2
              have hDo := hD
              refine va_putN (D := (dC, dI)) (ci := 3) (v := .int p3) (ty := .int) (C := RX3) (T := TX3) (N := 7) hx hb hw zz_inX3 tyX3 tyX3_ok nmX3 hown hK hP hD hS kq_14 hq_14 rfl 3 (by decide) (hN.use zz_n16) (fun _ h9 => h9) rfl (by decide +kernel) rfl rfl (Nat.le_of_ble_eq_true rfl) dX7_field_97 (fun H locs hP hD hS => ?_)
              have hP : va_P (dC, dI) vwCl (List.set (α := Nat × va_E) (([(a 0, .inr (7, [.ref (a 1), .ref (a 10), .ref (a 23), .ref (a 24), .ref (a 26), .ref (a 29), .ref (a 34), .ref (a 43), .int (nI nh), .int (nI nf), .int clk, .int hi])), (a 1, .inl (cH, 8, .inr (.inr (.inr (.inr fH))))), (a 10, .inl (cF, 12, .inr (.inr (.inr (.inr fF)))))] : va_W) ++ va_pl L (zz_F K (zz_put (zz_put (zz_put V (a (11 + nf)) 0 p0) (a (11 + nf)) 1 p1) (a (11 + nf)) 2 p2))) kq_14 (a (11 + nf), .inr (3, [.int ((zz_put (zz_put (zz_put V (a (11 + nf)) 0 p0) (a (11 + nf)) 1 p1) (a (11 + nf)) 2 p2) (a (11 + nf)) 0), .int ((zz_put (zz_put (zz_put V (a (11 + nf)) 0 p0) (a (11 + nf)) 1 p1) (a (11 + nf)) 2 p2) (a (11 + nf)) 1), .int ((zz_put (zz_put (zz_put V (a (11 + nf)) 0 p0) (a (11 + nf)) 1 p1) (a (11 + nf)) 2 p2) (a (11 + nf)) 2), .int p3, .int ((zz_put (zz_put (zz_put V (a (11 + nf)) 0 p0) (a (11 + nf)) 1 p1) (a (11 + nf)) 2 p2) (a (11 + nf)) 4), .int ((zz_put (zz_put (zz_put V (a (11 + nf)) 0 p0) (a (11 + nf)) 1 p1) (a (11 + nf)) 2 p2) (a (11 + nf)) 5), .int ((zz_put (zz_put (zz_put V (a (11 + nf)) 0 p0) (a (11 + nf)) 1 p1) (a (11 + nf)) 2 p2) (a (11 + nf)) 6)]))) H := hP
              have hD : va_D A (List.set (α := Nat × va_E) (([(a 0, .inr (7, [.ref (a 1), .ref (a 10), .ref (a 23), .ref (a 24), .ref (a 26), .ref (a 29), .ref (a 34), .ref (a 43), .int (nI nh), .int (nI nf), .int clk, .int hi])), (a 1, .inl (cH, 8, .inr (.inr (.inr (.inr fH))))), (a 10, .inl (cF, 12, .inr (.inr (.inr (.inr fF)))))] : va_W) ++ va_pl L (zz_F K (zz_put (zz_put (zz_put V (a (11 + nf)) 0 p0) (a (11 + nf)) 1 p1) (a (11 + nf)) 2 p2))) kq_14 (a (11 + nf), .inr (3, [.int ((zz_put (zz_put (zz_put V (a (11 + nf)) 0 p0) (a (11 + nf)) 1 p1) (a (11 + nf)) 2 p2) (a (11 + nf)) 0), .int ((zz_put (zz_put (zz_put V (a (11 + nf)) 0 p0) (a (11 + nf)) 1 p1) (a (11 + nf)) 2 p2) (a (11 + nf)) 1), .int ((zz_put (zz_put (zz_put V (a (11 + nf)) 0 p0) (a (11 + nf)) 1 p1) (a (11 + nf)) 2 p2) (a (11 + nf)) 2), .int p3, .int ((zz_put (zz_put (zz_put V (a (11 + nf)) 0 p0) (a (11 + nf)) 1 p1) (a (11 + nf)) 2 p2) (a (11 + nf)) 4), .int ((zz_put (zz_put (zz_put V (a (11 + nf)) 0 p0) (a (11 + nf)) 1 p1) (a (11 + nf)) 2 p2) (a (11 + nf)) 5), .int ((zz_put (zz_put (zz_put V (a (11 + nf)) 0 p0) (a (11 + nf)) 1 p1) (a (11 + nf)) 2 p2) (a (11 + nf)) 6)]))) := hD
              rw [zz_ps3_3 hDo (hF nf (by omega)).1 (hF nf (by omega)).2 hq_14] at hP hD
              have hR : zz_RV a (zz_put (zz_put (zz_put (zz_put V (a (11 + nf)) 0 p0) (a (11 + nf)) 1 p1) (a (11 + nf)) 2 p2) (a (11 + nf)) 3 p3) vh0 vh1 vh2 vh3 vh4 vh5 vh6 vh7 vh8 (upd vf0 nf p0) (upd vf1 nf p1) (upd vf2 nf p2) (upd vf3 nf p3) vf4 vf5 vf6 := zz_RVp3_3 hdj hR (by omega)
              obtain ⟨hP, hD⟩ := zz_ty (D := (dC, dI)) (cl := vwCl) (A := A) (H := H) (([(a 0, .inr (7, [.ref (a 1), .ref (a 10), .ref (a 23), .ref (a 24), .ref (a 26), .ref (a 29), .ref (a 34), .ref (a 43), .int (nI nh), .int (nI nf), .int clk, .int hi])), (a 1, .inl (cH, 8, .inr (.inr (.inr (.inr fH))))), (a 10, .inl (cF, 12, .inr (.inr (.inr (.inr fF)))))] : va_W) ++ va_pl L (zz_F K (zz_put (zz_put (zz_put (zz_put V (a (11 + nf)) 0 p0) (a (11 + nf)) 1 p1) (a (11 + nf)) 2 p2) (a (11 + nf)) 3 p3))) hP hD rfl
              refine lv_aload hx hb dX7_field_100 (lv_at hl 0 rfl) ?_
              refine lv_iload hx hb dX7_field_102 (lv_at hl 6 rfl) ?_
              obtain ⟨kq_15, hq_15⟩ := zz_pg3 (X := [(a 0, .inr (7, [.ref (a 1), .ref (a 10), .ref (a 23), .ref (a 24), .ref (a 26), .ref (a 29), .ref (a 34), .ref (a 43), .int (nI nh), .int (nI nf), .int clk, .int hi])), (a 1, .inl (cH, 8, .inr (.inr (.inr (.inr fH))))), (a 10, .inl (cF, 12, .inr (.inr (.inr (.inr fF)))))]) (V := (zz_put (zz_put (zz_put (zz_put V (a (11 + nf)) 0 p0) (a (11 + nf)) 1 p1) (a (11 + nf)) 2 p2) (a (11 + nf)) 3 p3)) (hF nf (by omega)).1 (hF nf (by omega)).2
              have hDo := hD
              refine va_putN (D := (dC, dI)) (ci := 3) (v := .int p4) (ty := .int) (C := RX3) (T := TX3) (N := 7) hx hb hw zz_inX3 tyX3 tyX3_ok nmX3 hown hK hP hD hS kq_15 hq_15 rfl 4 (by decide) (hN.use zz_n17) (fun _ h9 => h9) rfl (by decide +kernel) rfl rfl (Nat.le_of_ble_eq_true rfl) dX7_field_104 (fun H locs hP hD hS => ?_)
              have hP : va_P (dC, dI) vwCl (List.set (α := Nat × va_E) (([(a 0, .inr (7, [.ref (a 1), .ref (a 10), .ref (a 23), .ref (a 24), .ref (a 26), .ref (a 29), .ref (a 34), .ref (a 43), .int (nI nh), .int (nI nf), .int clk, .int hi])), (a 1, .inl (cH, 8, .inr (.inr (.inr (.inr fH))))), (a 10, .inl (cF, 12, .inr (.inr (.inr (.inr fF)))))] : va_W) ++ va_pl L (zz_F K (zz_put (zz_put (zz_put (zz_put V (a (11 + nf)) 0 p0) (a (11 + nf)) 1 p1) (a (11 + nf)) 2 p2) (a (11 + nf)) 3 p3))) kq_15 (a (11 + nf), .inr (3, [.int ((zz_put (zz_put (zz_put (zz_put V (a (11 + nf)) 0 p0) (a (11 + nf)) 1 p1) (a (11 + nf)) 2 p2) (a (11 + nf)) 3 p3) (a (11 + nf)) 0), .int ((zz_put (zz_put (zz_put (zz_put V (a (11 + nf)) 0 p0) (a (11 + nf)) 1 p1) (a (11 + nf)) 2 p2) (a (11 + nf)) 3 p3) (a (11 + nf)) 1), .int ((zz_put (zz_put (zz_put (zz_put V (a (11 + nf)) 0 p0) (a (11 + nf)) 1 p1) (a (11 + nf)) 2 p2) (a (11 + nf)) 3 p3) (a (11 + nf)) 2), .int ((zz_put (zz_put (zz_put (zz_put V (a (11 + nf)) 0 p0) (a (11 + nf)) 1 p1) (a (11 + nf)) 2 p2) (a (11 + nf)) 3 p3) (a (11 + nf)) 3), .int p4, .int ((zz_put (zz_put (zz_put (zz_put V (a (11 + nf)) 0 p0) (a (11 + nf)) 1 p1) (a (11 + nf)) 2 p2) (a (11 + nf)) 3 p3) (a (11 + nf)) 5), .int ((zz_put (zz_put (zz_put (zz_put V (a (11 + nf)) 0 p0) (a (11 + nf)) 1 p1) (a (11 + nf)) 2 p2) (a (11 + nf)) 3 p3) (a (11 + nf)) 6)]))) H := hP
              have hD : va_D A (List.set (α := Nat × va_E) (([(a 0, .inr (7, [.ref (a 1), .ref (a 10), .ref (a 23), .ref (a 24), .ref (a 26), .ref (a 29), .ref (a 34), .ref (a 43), .int (nI nh), .int (nI nf), .int clk, .int hi])), (a 1, .inl (cH, 8, .inr (.inr (.inr (.inr fH))))), (a 10, .inl (cF, 12, .inr (.inr (.inr (.inr fF)))))] : va_W) ++ va_pl L (zz_F K (zz_put (zz_put (zz_put (zz_put V (a (11 + nf)) 0 p0) (a (11 + nf)) 1 p1) (a (11 + nf)) 2 p2) (a (11 + nf)) 3 p3))) kq_15 (a (11 + nf), .inr (3, [.int ((zz_put (zz_put (zz_put (zz_put V (a (11 + nf)) 0 p0) (a (11 + nf)) 1 p1) (a (11 + nf)) 2 p2) (a (11 + nf)) 3 p3) (a (11 + nf)) 0), .int ((zz_put (zz_put (zz_put (zz_put V (a (11 + nf)) 0 p0) (a (11 + nf)) 1 p1) (a (11 + nf)) 2 p2) (a (11 + nf)) 3 p3) (a (11 + nf)) 1), .int ((zz_put (zz_put (zz_put (zz_put V (a (11 + nf)) 0 p0) (a (11 + nf)) 1 p1) (a (11 + nf)) 2 p2) (a (11 + nf)) 3 p3) (a (11 + nf)) 2), .int ((zz_put (zz_put (zz_put (zz_put V (a (11 + nf)) 0 p0) (a (11 + nf)) 1 p1) (a (11 + nf)) 2 p2) (a (11 + nf)) 3 p3) (a (11 + nf)) 3), .int p4, .int ((zz_put (zz_put (zz_put (zz_put V (a (11 + nf)) 0 p0) (a (11 + nf)) 1 p1) (a (11 + nf)) 2 p2) (a (11 + nf)) 3 p3) (a (11 + nf)) 5), .int ((zz_put (zz_put (zz_put (zz_put V (a (11 + nf)) 0 p0) (a (11 + nf)) 1 p1) (a (11 + nf)) 2 p2) (a (11 + nf)) 3 p3) (a (11 + nf)) 6)]))) := hD
              rw [zz_ps3_4 hDo (hF nf (by omega)).1 (hF nf (by omega)).2 hq_15] at hP hD
              have hR : zz_RV a (zz_put (zz_put (zz_put (zz_put (zz_put V (a (11 + nf)) 0 p0) (a (11 + nf)) 1 p1) (a (11 + nf)) 2 p2) (a (11 + nf)) 3 p3) (a (11 + nf)) 4 p4) vh0 vh1 vh2 vh3 vh4 vh5 vh6 vh7 vh8 (upd vf0 nf p0) (upd vf1 nf p1) (upd vf2 nf p2) (upd vf3 nf p3) (upd vf4 nf p4) vf5 vf6 := zz_RVp3_4 hdj hR (by omega)
              obtain ⟨hP, hD⟩ := zz_ty (D := (dC, dI)) (cl := vwCl) (A := A) (H := H) (([(a 0, .inr (7, [.ref (a 1), .ref (a 10), .ref (a 23), .ref (a 24), .ref (a 26), .ref (a 29), .ref (a 34), .ref (a 43), .int (nI nh), .int (nI nf), .int clk, .int hi])), (a 1, .inl (cH, 8, .inr (.inr (.inr (.inr fH))))), (a 10, .inl (cF, 12, .inr (.inr (.inr (.inr fF)))))] : va_W) ++ va_pl L (zz_F K (zz_put (zz_put (zz_put (zz_put (zz_put V (a (11 + nf)) 0 p0) (a (11 + nf)) 1 p1) (a (11 + nf)) 2 p2) (a (11 + nf)) 3 p3) (a (11 + nf)) 4 p4))) hP hD rfl
              refine lv_aload_n hx hb dX7_field_107 rfl (lv_at hl 1 rfl) ?_
              refine lv_dup hx hb dX7_field_108 rfl ?_
              refine va_get (D := (dC, dI)) (ci := 7) (v := .int (nI nf)) (C := RX7) (T := TX7) (N := 12) hx hb hw zz_inX7 hown hK hP 0 rfl rfl 9 (by decide) (hw _ tw_6) (fun _ h9 => h9) rfl dX7_field_109 ?_
              refine lv_iconst (v := 1) hx hb dX7_field_112 (by decide) ?_
              refine lv_iadd hx hb dX7_field_113 ?_
              refine zz_seti (nI (nf + 1)) (nI_1 _) ?_
              refine va_put (D := (dC, dI)) (ci := 7) (v := .int (nI (nf + 1))) (ty := .int) (C := RX7) (T := TX7) (N := 12) hx hb hw zz_inX7 tyX7 tyX7_ok nmX7 hown hK hP hD hS 0 rfl rfl 9 (by decide) (hw _ tw_6) (fun _ h9 => h9) rfl (by decide +kernel) rfl rfl (Nat.le_of_ble_eq_true rfl) dX7_field_114 (fun H locs hP hD hS => ?_)
              obtain ⟨hP, hD⟩ := zz_ty (D := (dC, dI)) (cl := vwCl) (A := A) (H := H) (([(a 0, .inr (7, [.ref (a 1), .ref (a 10), .ref (a 23), .ref (a 24), .ref (a 26), .ref (a 29), .ref (a 34), .ref (a 43), .int (nI nh), .int (nI (nf + 1)), .int clk, .int hi])), (a 1, .inl (cH, 8, .inr (.inr (.inr (.inr fH))))), (a 10, .inl (cF, 12, .inr (.inr (.inr (.inr fF)))))] : va_W) ++ va_pl L (zz_F K (zz_put (zz_put (zz_put (zz_put (zz_put V (a (11 + nf)) 0 p0) (a (11 + nf)) 1 p1) (a (11 + nf)) 2 p2) (a (11 + nf)) 3 p3) (a (11 + nf)) 4 p4))) hP hD rfl
              refine lv_aload_n hx hb dX7_field_117 rfl (lv_at hl 1 rfl) ?_
              refine va_get (D := (dC, dI)) (ci := 7) (v := .int (nI (nf + 1))) (C := RX7) (T := TX7) (N := 12) hx hb hw zz_inX7 hown hK hP 0 rfl rfl 9 (by decide) (hw _ tw_6) (fun _ h9 => h9) rfl dX7_field_118 ?_
              refine lv_iconst (v := 1) hx hb dX7_field_121 (by decide) ?_
              refine lv_isub hx hb dX7_field_122 ?_
              refine zz_seti (nI nf) (nI_pred _) ?_
              obtain ⟨hP9, hD9⟩ := zz_part2 (cx := [(a 0, .inr (7, [.ref (a 1), .ref (a 10), .ref (a 23), .ref (a 24), .ref (a 26), .ref (a 29), .ref (a 34), .ref (a 43), .int (nI nh), .int (nI (nf + 1)), .int clk, .int hi])), (a 1, .inl (cH, 8, .inr (.inr (.inr (.inr fH))))), (a 10, .inl (cF, 12, .inr (.inr (.inr (.inr fF)))))]) hP hD [0, 1, 2] (by decide) rfl
              have hK9 := hK.sub (tys' := [(cH, .object RX4), (cF, .object RX3)]) [0, 1] rfl
              exact W.iret (v := (nI nf)) hx hb hr (fun t ht hW => ⟨⟨(nI nf), ((nf + 1), (zz_put (zz_put (zz_put (zz_put (zz_put V (a (11 + nf)) 0 p0) (a (11 + nf)) 1 p1) (a (11 + nf)) 2 p2) (a (11 + nf)) 3 p3) (a (11 + nf)) 4 p4)), rfl, (by first | exact Or.inl ⟨by omega, rfl, rfl, hR⟩ | exact Or.inr ⟨by omega, rfl, rfl, hR⟩), by rw [ht]; exact hP9, va_K.moved hW.alike hK9, hD9⟩, hS.F ht⟩) hS.2.2 dX7_field_123
            · have zc_10 := c_10
              rw [e_9, zz_in0, Int32.le_iff_toInt_le, Int32.le_iff_toInt_le] at zc_10
              try rw [show (0 : Int32).toInt = 0 from by decide] at zc_10
              try rw [show (10000 : Int32).toInt = 10000 from by decide] at zc_10
              refine lv_iconst (v := (-1)) hx hb dX7_field_62 (by decide) ?_
              obtain ⟨hP9, hD9⟩ := zz_part2 (cx := [(a 0, .inr (7, [.ref (a 1), .ref (a 10), .ref (a 23), .ref (a 24), .ref (a 26), .ref (a 29), .ref (a 34), .ref (a 43), .int (nI nh), .int (nI nf), .int clk, .int hi])), (a 1, .inl (cH, 8, .inr (.inr (.inr (.inr fH))))), (a 10, .inl (cF, 12, .inr (.inr (.inr (.inr fF)))))]) hP hD [0, 1, 2] (by decide) rfl
              have hK9 := hK.sub (tys' := [(cH, .object RX4), (cF, .object RX3)]) [0, 1] rfl
              exact W.iret (v := (-1)) hx hb hr (fun t ht hW => ⟨⟨(-1), (nf, V), rfl, (by first | exact Or.inl ⟨by omega, rfl, rfl, hR⟩ | exact Or.inr ⟨by omega, rfl, rfl, hR⟩), by rw [ht]; exact hP9, va_K.moved hW.alike hK9, hD9⟩, hS.F ht⟩) hS.2.2 dX7_field_63
    · have zc_2 := c_2
      rw [Int32.lt_iff_toInt_lt] at zc_2
      try rw [zz_toInt nf (by omega)] at zc_2
      try rw [show (12 : Int32).toInt = 12 from by decide] at zc_2
      refine lv_iconst (v := (-1)) hx hb dX7_field_17 (by decide) ?_
      obtain ⟨hP9, hD9⟩ := zz_part2 (cx := [(a 0, .inr (7, [.ref (a 1), .ref (a 10), .ref (a 23), .ref (a 24), .ref (a 26), .ref (a 29), .ref (a 34), .ref (a 43), .int (nI nh), .int (nI nf), .int clk, .int hi])), (a 1, .inl (cH, 8, .inr (.inr (.inr (.inr fH))))), (a 10, .inl (cF, 12, .inr (.inr (.inr (.inr fF)))))]) hP hD [0, 1, 2] (by decide) rfl
      have hK9 := hK.sub (tys' := [(cH, .object RX4), (cF, .object RX3)]) [0, 1] rfl
      exact W.iret (v := (-1)) hx hb hr (fun t ht hW => ⟨⟨(-1), (nf, V), rfl, (by first | exact Or.inl ⟨by omega, rfl, rfl, hR⟩ | exact Or.inr ⟨by omega, rfl, rfl, hR⟩), by rw [ht]; exact hP9, va_K.moved hW.alike hK9, hD9⟩, hS.F ht⟩) hS.2.2 dX7_field_18
set_option maxHeartbeats 4000000 in
set_option maxRecDepth 100000 in
theorem kx_loss (l : Launch) (dC : Nat → ClassId) (dI : Nat → Nat → Nat) (a : Nat → Nat) (nh : Nat) (nf : Nat) (clk : Int32) (hi : Int32) (cI : ClassId) (fl : Nat → Int32) (p0 : Int32) (p1 : Int32) (sz : Nat) : Met l yX7_loss (zz_w yX7_loss cX7_loss 3 (some .boolean)) ({ frames := 1, cells := 0, slots := 0, locals := 22 }) (va_Pc [.ref (a 0), .int p0, .int p1] (zz_B (dC, dI) sz [(a 0, .inr (7, [.ref (a 1), .ref (a 10), .ref (a 23), .ref (a 24), .ref (a 26), .ref (a 29), .ref (a 34), .ref (a 43), .int (nI nh), .int (nI nf), .int clk, .int hi])), (a 23, .inl (cI, 10, .inl fl))] [(cI, .int)])) (va_Qi (fun (r : Int32) (f2 : Nat → Int32) => (((0 ≤ p0.toInt ∧ p0.toInt ≤ 9) ∧ (0 ≤ p1.toInt ∧ p1.toInt ≤ 100)) ∧ r = 1 ∧ f2 = upd fl (Int32.toNatClampNeg p0) p1) ∨ (¬ ((0 ≤ p0.toInt ∧ p0.toInt ≤ 9) ∧ (0 ≤ p1.toInt ∧ p1.toInt ≤ 100)) ∧ r = 0 ∧ f2 = fl)) (fun (u0 : Nat → Int32) (t : State) => va_P (dC, dI) vwCl [(a 0, .inr (7, [.ref (a 1), .ref (a 10), .ref (a 23), .ref (a 24), .ref (a 26), .ref (a 29), .ref (a 34), .ref (a 43), .int (nI nh), .int (nI nf), .int clk, .int hi])), (a 23, .inl (cI, 10, .inl u0))] t.heap ∧ va_K (dC, dI) vwCl [(cI, .int)] t ∧ va_D (va_A [(a 0, .inr (7, [.ref (a 1), .ref (a 10), .ref (a 23), .ref (a 24), .ref (a 26), .ref (a 29), .ref (a 34), .ref (a 43), .int (nI nh), .int (nI nf), .int clk, .int hi])), (a 23, .inl (cI, 10, .inl fl))] sz) [(a 0, .inr (7, [.ref (a 1), .ref (a 10), .ref (a 23), .ref (a 24), .ref (a 26), .ref (a 29), .ref (a 34), .ref (a 43), .int (nI nh), .int (nI nf), .int clk, .int hi])), (a 23, .inl (cI, 10, .inl u0))]) (va_A [(a 0, .inr (7, [.ref (a 1), .ref (a 10), .ref (a 23), .ref (a 24), .ref (a 26), .ref (a 29), .ref (a 34), .ref (a 43), .int (nI nh), .int (nI nf), .int clk, .int hi])), (a 23, .inl (cI, 10, .inl fl))] sz)) 0 0 (va_A [(a 0, .inr (7, [.ref (a 1), .ref (a 10), .ref (a 23), .ref (a 24), .ref (a 26), .ref (a 29), .ref (a 34), .ref (a 43), .int (nI nh), .int (nI nf), .int clk, .int hi])), (a 23, .inl (cI, 10, .inl fl))] sz) := by
  refine Met.ofW (cc := cX7_loss) (maxL := 3) (ret := (some .boolean)) (by decide) rfl ?_
  intro p e s m args below meth c s₁ B hml hv
  obtain ⟨rfl, hsz, hP, hK, hD0, hN⟩ := hv
  have hx := B.exec
  have hb := B.bytes
  have hr := B.returns
  have hts := atoms_spec (ws := zz_w yX7_loss cX7_loss 3 (some .boolean)) B.pre
  have hw : ∀ w ∈ zz_all, w.before _ s = true := fun w h => hts w (List.mem_cons_of_mem _ h)
  have hown : s.vm.findClass RX7 = some m.cls := findClass_of_methodNamed B.named
  have hlocks := B.notSynchronized
  subst hsz
  have hD := hD0.self (sz := s.heap.size)
  generalize hAe : va_A [(a 0, .inr (7, [.ref (a 1), .ref (a 10), .ref (a 23), .ref (a 24), .ref (a 26), .ref (a 29), .ref (a 34), .ref (a 43), .int (nI nh), .int (nI nf), .int clk, .int hi])), (a 23, .inl (cI, 10, .inl fl))] s.heap.size = A at hD ⊢
  have hA : ∀ q : Nat, s.heap.size ≤ q → A q := fun q h => by rw [← hAe]; exact Or.inr h
  have hS : va_S A s.heap s.heap [] := va_S.rf
  have hP : va_P (dC, dI) vwCl [(a 0, .inr (7, [.ref (a 1), .ref (a 10), .ref (a 23), .ref (a 24), .ref (a 26), .ref (a 29), .ref (a 34), .ref (a 43), .int (nI nh), .int (nI nf), .int clk, .int hi])), (a 23, .inl (cI, 10, .inl fl))] s.heap := hP
  have hl := lv_entry ([.ref (a 0), .int p0, .int p1]) (n := 3) (Nat.le_of_ble_eq_true rfl)
  rw [lg_entry_eq]
  generalize (lg_sl ([.ref (a 0), .int p0, .int p1]) ++ List.replicate (3 - (lg_sl ([.ref (a 0), .int p0, .int p1])).length) Slot.unset).toArray = ls at hl ⊢
  have hl : lv_has ls 3 [(0, .ref (a 0)), (1, .int p0), (2, .int p1)] := hl
  refine lv_iload_n hx hb dX7_loss_0 rfl (lv_at hl 1 rfl) ?_
  refine lv_iconst (v := 0) hx hb dX7_loss_1 (by decide) ?_
  refine lv_bipush (v := 9) hx hb dX7_loss_2 (by decide) ?_
  obtain ⟨hPc, hDc⟩ := zz_sub2 (ws' := []) hP hD [] (by decide) rfl
  have hKc := hK.sub (tys' := []) [] rfl
  have hFc := zz_free0 hS hA
  refine va_calli (va_runS (As := [.int p0, .int 0, .int 9]) (rest := []) ⟨hx, hb, hml, hown, hw⟩ (k_within l dC dI p0 0 9 s.heap.size) ⟨callB_of 3 hw (zz_good tw_1) rfl rfl rfl (hw _ tw_2) (hw _ tw_3) (by decide +kernel) ⟨Nat.le_of_ble_eq_true rfl, Nat.le_of_ble_eq_true rfl⟩, (hw _ tw_4)⟩ ⟨zz_blind, zz_pre hPc hKc hDc hN⟩ rfl rfl hl.1 rfl (lv_room (Nat.le_of_ble_eq_true rfl)) dX7_loss_4 ⟨Nat.le_of_ble_eq_true rfl, Nat.le_of_ble_eq_true rfl⟩) hS (fun q _ h => hFc q h) hFc (fun r_1 u_1 t H1 locs ht hvm e_1 hB hz1 hk1 hS => ?_)
  try dsimp only at e_1
  have hP := zz_keep hP hk1
  clear hk1 hB ht hvm
  generalize H1 = H at hP hS ⊢
  refine lv_if_eq (tgt := 20) hx hb dX7_loss_7 (by decide) (fun c_2 => ?_) (fun c_2 => ?_)
  · have zc_2 := c_2
    rw [e_1, zz_in0, Int32.le_iff_toInt_le, Int32.le_iff_toInt_le] at zc_2
    try rw [show (0 : Int32).toInt = 0 from by decide] at zc_2
    try rw [show (9 : Int32).toInt = 9 from by decide] at zc_2
    refine lv_iconst (v := 0) hx hb dX7_loss_20 (by decide) ?_
    obtain ⟨hP9, hD9⟩ := zz_sub2 (ws' := [(a 0, .inr (7, [.ref (a 1), .ref (a 10), .ref (a 23), .ref (a 24), .ref (a 26), .ref (a 29), .ref (a 34), .ref (a 43), .int (nI nh), .int (nI nf), .int clk, .int hi])), (a 23, .inl (cI, 10, .inl fl))]) hP hD [0, 1] (by decide) rfl
    have hK9 := hK.sub (tys' := [(cI, .int)]) [0] rfl
    exact W.zret (v := 0) hx hb hr (rfl) (fun t ht hW => ⟨⟨0, (fl), rfl, (by first | exact Or.inl ⟨by omega, rfl, rfl⟩ | exact Or.inr ⟨by omega, rfl, rfl⟩), by rw [ht]; exact hP9, va_K.moved hW.alike hK9, hD9⟩, hS.F ht⟩) hS.2.2 dX7_loss_21
  · have zc_2 := c_2
    rw [e_1, zz_in0, Int32.le_iff_toInt_le, Int32.le_iff_toInt_le] at zc_2
    try rw [show (0 : Int32).toInt = 0 from by decide] at zc_2
    try rw [show (9 : Int32).toInt = 9 from by decide] at zc_2
    refine lv_iload_n hx hb dX7_loss_10 rfl (lv_at hl 2 rfl) ?_
    refine lv_iconst (v := 0) hx hb dX7_loss_11 (by decide) ?_
    refine lv_bipush (v := 100) hx hb dX7_loss_12 (by decide) ?_
    obtain ⟨hPc, hDc⟩ := zz_sub2 (ws' := []) hP hD [] (by decide) rfl
    have hKc := hK.sub (tys' := []) [] rfl
    have hFc := zz_free0 hS hA
    refine va_calli (va_runS (As := [.int p1, .int 0, .int 100]) (rest := []) ⟨hx, hb, hml, hown, hw⟩ (k_within l dC dI p1 0 100 H.size) ⟨callB_of 3 hw (zz_good tw_1) rfl rfl rfl (hw _ tw_2) (hw _ tw_3) (by decide +kernel) ⟨Nat.le_of_ble_eq_true rfl, Nat.le_of_ble_eq_true rfl⟩, (hw _ tw_4)⟩ ⟨zz_blind, zz_pre hPc hKc hDc hN⟩ rfl rfl hl.1 rfl (lv_room (Nat.le_of_ble_eq_true rfl)) dX7_loss_14 ⟨Nat.le_of_ble_eq_true rfl, Nat.le_of_ble_eq_true rfl⟩) hS (fun q _ h => hFc q h) hFc (fun r_3 u_3 t H1 locs ht hvm e_3 hB hz1 hk1 hS => ?_)
    try dsimp only at e_3
    have hP := zz_keep hP hk1
    clear hk1 hB ht hvm
    generalize H1 = H at hP hS ⊢
    refine lv_if_ne (tgt := 22) hx hb dX7_loss_17 (by decide) (fun c_4 => ?_) (fun c_4 => ?_)
    · have zc_4 := c_4
      rw [e_3, zz_in0, Int32.le_iff_toInt_le, Int32.le_iff_toInt_le] at zc_4
      try rw [show (0 : Int32).toInt = 0 from by decide] at zc_4
      try rw [show (100 : Int32).toInt = 100 from by decide] at zc_4
      refine lv_aload_n hx hb dX7_loss_22 rfl (lv_at hl 0 rfl) ?_
      refine va_get (D := (dC, dI)) (ci := 7) (v := .ref (a 23)) (C := RX7) (T := TX7) (N := 12) hx hb hw zz_inX7 hown hK hP 0 rfl rfl 2 (by decide) (hw _ tw_40) (fun _ h9 => h9) rfl dX7_loss_23 ?_
      refine lv_iload_n hx hb dX7_loss_26 rfl (lv_at hl 1 rfl) ?_
      refine lv_iload_n hx hb dX7_loss_27 rfl (lv_at hl 2 rfl) ?_
      refine va_iast hx hb hK hP hD hS 1 0 rfl rfl (vp_in_iff.mpr (by constructor <;> omega)) dX7_loss_28 (fun H locs hP hD hS => ?_)
      obtain ⟨hP, hD⟩ := zz_ty (D := (dC, dI)) (cl := vwCl) (A := A) (H := H) [(a 0, .inr (7, [.ref (a 1), .ref (a 10), .ref (a 23), .ref (a 24), .ref (a 26), .ref (a 29), .ref (a 34), .ref (a 43), .int (nI nh), .int (nI nf), .int clk, .int hi])), (a 23, .inl (cI, 10, .inl (upd fl (Int32.toNatClampNeg p0) p1)))] hP hD rfl
      refine lv_iconst (v := 1) hx hb dX7_loss_29 (by decide) ?_
      obtain ⟨hP9, hD9⟩ := zz_sub2 (ws' := [(a 0, .inr (7, [.ref (a 1), .ref (a 10), .ref (a 23), .ref (a 24), .ref (a 26), .ref (a 29), .ref (a 34), .ref (a 43), .int (nI nh), .int (nI nf), .int clk, .int hi])), (a 23, .inl (cI, 10, .inl (upd fl (Int32.toNatClampNeg p0) p1)))]) hP hD [0, 1] (by decide) rfl
      have hK9 := hK.sub (tys' := [(cI, .int)]) [0] rfl
      exact W.zret (v := 1) hx hb hr (rfl) (fun t ht hW => ⟨⟨1, ((upd fl (Int32.toNatClampNeg p0) p1)), rfl, (by first | exact Or.inl ⟨by omega, rfl, rfl⟩ | exact Or.inr ⟨by omega, rfl, rfl⟩), by rw [ht]; exact hP9, va_K.moved hW.alike hK9, hD9⟩, hS.F ht⟩) hS.2.2 dX7_loss_30
    · have zc_4 := c_4
      rw [e_3, zz_in0, Int32.le_iff_toInt_le, Int32.le_iff_toInt_le] at zc_4
      try rw [show (0 : Int32).toInt = 0 from by decide] at zc_4
      try rw [show (100 : Int32).toInt = 100 from by decide] at zc_4
      refine lv_iconst (v := 0) hx hb dX7_loss_20 (by decide) ?_
      obtain ⟨hP9, hD9⟩ := zz_sub2 (ws' := [(a 0, .inr (7, [.ref (a 1), .ref (a 10), .ref (a 23), .ref (a 24), .ref (a 26), .ref (a 29), .ref (a 34), .ref (a 43), .int (nI nh), .int (nI nf), .int clk, .int hi])), (a 23, .inl (cI, 10, .inl fl))]) hP hD [0, 1] (by decide) rfl
      have hK9 := hK.sub (tys' := [(cI, .int)]) [0] rfl
      exact W.zret (v := 0) hx hb hr (rfl) (fun t ht hW => ⟨⟨0, (fl), rfl, (by first | exact Or.inl ⟨by omega, rfl, rfl⟩ | exact Or.inr ⟨by omega, rfl, rfl⟩), by rw [ht]; exact hP9, va_K.moved hW.alike hK9, hD9⟩, hS.F ht⟩) hS.2.2 dX7_loss_21
set_option maxHeartbeats 4000000 in
set_option maxRecDepth 100000 in
theorem kx_even (l : Launch) (dC : Nat → ClassId) (dI : Nat → Nat → Nat) (a : Nat → Nat) (nh : Nat) (nf : Nat) (clk : Int32) (hi : Int32) (nd : Nat) (sz : Nat) : Met l yX7_even (zz_w yX7_even cX7_even 2 (some .int)) ({ frames := 0, cells := 0, slots := 0, locals := 0 }) (va_Pc [.ref (a 0)] (zz_B (dC, dI) sz [(a 0, .inr (7, [.ref (a 1), .ref (a 10), .ref (a 23), .ref (a 24), .ref (a 26), .ref (a 29), .ref (a 34), .ref (a 43), .int (nI nh), .int (nI nf), .int clk, .int hi])), (a 29, .inr (1, [.ref (a 30), .ref (a 31), .ref (a 32), .ref (a 33), .int (nI nd)]))] [])) (va_Qi (fun (r : Int32) (md : Nat) => r = nI nd ∧ md = 0) (fun (u0 : Nat) (t : State) => va_P (dC, dI) vwCl [(a 0, .inr (7, [.ref (a 1), .ref (a 10), .ref (a 23), .ref (a 24), .ref (a 26), .ref (a 29), .ref (a 34), .ref (a 43), .int (nI nh), .int (nI nf), .int clk, .int hi])), (a 29, .inr (1, [.ref (a 30), .ref (a 31), .ref (a 32), .ref (a 33), .int (nI u0)]))] t.heap ∧ va_K (dC, dI) vwCl [] t ∧ va_D (va_A [(a 0, .inr (7, [.ref (a 1), .ref (a 10), .ref (a 23), .ref (a 24), .ref (a 26), .ref (a 29), .ref (a 34), .ref (a 43), .int (nI nh), .int (nI nf), .int clk, .int hi])), (a 29, .inr (1, [.ref (a 30), .ref (a 31), .ref (a 32), .ref (a 33), .int (nI nd)]))] sz) [(a 0, .inr (7, [.ref (a 1), .ref (a 10), .ref (a 23), .ref (a 24), .ref (a 26), .ref (a 29), .ref (a 34), .ref (a 43), .int (nI nh), .int (nI nf), .int clk, .int hi])), (a 29, .inr (1, [.ref (a 30), .ref (a 31), .ref (a 32), .ref (a 33), .int (nI u0)]))]) (va_A [(a 0, .inr (7, [.ref (a 1), .ref (a 10), .ref (a 23), .ref (a 24), .ref (a 26), .ref (a 29), .ref (a 34), .ref (a 43), .int (nI nh), .int (nI nf), .int clk, .int hi])), (a 29, .inr (1, [.ref (a 30), .ref (a 31), .ref (a 32), .ref (a 33), .int (nI nd)]))] sz)) 0 0 (va_A [(a 0, .inr (7, [.ref (a 1), .ref (a 10), .ref (a 23), .ref (a 24), .ref (a 26), .ref (a 29), .ref (a 34), .ref (a 43), .int (nI nh), .int (nI nf), .int clk, .int hi])), (a 29, .inr (1, [.ref (a 30), .ref (a 31), .ref (a 32), .ref (a 33), .int (nI nd)]))] sz) := by
  refine Met.ofW (cc := cX7_even) (maxL := 2) (ret := (some .int)) (by decide) rfl ?_
  intro p e s m args below meth c s₁ B hml hv
  obtain ⟨rfl, hsz, hP, hK, hD0, hN⟩ := hv
  have hx := B.exec
  have hb := B.bytes
  have hr := B.returns
  have hts := atoms_spec (ws := zz_w yX7_even cX7_even 2 (some .int)) B.pre
  have hw : ∀ w ∈ zz_all, w.before _ s = true := fun w h => hts w (List.mem_cons_of_mem _ h)
  have hown : s.vm.findClass RX7 = some m.cls := findClass_of_methodNamed B.named
  have hlocks := B.notSynchronized
  subst hsz
  have hD := hD0.self (sz := s.heap.size)
  generalize hAe : va_A [(a 0, .inr (7, [.ref (a 1), .ref (a 10), .ref (a 23), .ref (a 24), .ref (a 26), .ref (a 29), .ref (a 34), .ref (a 43), .int (nI nh), .int (nI nf), .int clk, .int hi])), (a 29, .inr (1, [.ref (a 30), .ref (a 31), .ref (a 32), .ref (a 33), .int (nI nd)]))] s.heap.size = A at hD ⊢
  have hA : ∀ q : Nat, s.heap.size ≤ q → A q := fun q h => by rw [← hAe]; exact Or.inr h
  have hS : va_S A s.heap s.heap [] := va_S.rf
  have hP : va_P (dC, dI) vwCl [(a 0, .inr (7, [.ref (a 1), .ref (a 10), .ref (a 23), .ref (a 24), .ref (a 26), .ref (a 29), .ref (a 34), .ref (a 43), .int (nI nh), .int (nI nf), .int clk, .int hi])), (a 29, .inr (1, [.ref (a 30), .ref (a 31), .ref (a 32), .ref (a 33), .int (nI nd)]))] s.heap := hP
  have hl := lv_entry ([.ref (a 0)]) (n := 2) (Nat.le_of_ble_eq_true rfl)
  rw [lg_entry_eq]
  generalize (lg_sl ([.ref (a 0)]) ++ List.replicate (2 - (lg_sl ([.ref (a 0)])).length) Slot.unset).toArray = ls at hl ⊢
  have hl : lv_has ls 2 [(0, .ref (a 0))] := hl
  refine lv_aload_n hx hb dX7_even_0 rfl (lv_at hl 0 rfl) ?_
  refine va_get (D := (dC, dI)) (ci := 7) (v := .ref (a 29)) (C := RX7) (T := TX7) (N := 12) hx hb hw zz_inX7 hown hK hP 0 rfl rfl 5 (by decide) (hw _ tw_44) (fun _ h9 => h9) rfl dX7_even_1 ?_
  refine va_getN (D := (dC, dI)) (ci := 1) (v := .int (nI nd)) (C := RX1) (T := TX1) (N := 5) hx hb hw zz_inX1 hown hK hP 1 rfl rfl 4 (by decide) (hN.use zz_n37) (fun _ h9 => h9) rfl dX7_even_4 ?_
  refine lv_istore_n (lv' := [(1, .int (nI nd)), (0, .ref (a 0))]) hx hb dX7_even_7 rfl hl (by decide) rfl (fun ls hl => ?_)
  refine lv_aload_n hx hb dX7_even_8 rfl (lv_at hl 1 rfl) ?_
  refine va_get (D := (dC, dI)) (ci := 7) (v := .ref (a 29)) (C := RX7) (T := TX7) (N := 12) hx hb hw zz_inX7 hown hK hP 0 rfl rfl 5 (by decide) (hw _ tw_44) (fun _ h9 => h9) rfl dX7_even_9 ?_
  refine lv_iconst (v := 0) hx hb dX7_even_12 (by decide) ?_
  refine va_putN (D := (dC, dI)) (ci := 1) (v := .int 0) (ty := .int) (C := RX1) (T := TX1) (N := 5) hx hb hw zz_inX1 tyX1 tyX1_ok nmX1 hown hK hP hD hS 1 rfl rfl 4 (by decide) (hN.use zz_n37) (fun _ h9 => h9) rfl (by decide +kernel) rfl rfl (Nat.le_of_ble_eq_true rfl) dX7_even_13 (fun H locs hP hD hS => ?_)
  obtain ⟨hP, hD⟩ := zz_ty (D := (dC, dI)) (cl := vwCl) (A := A) (H := H) [(a 0, .inr (7, [.ref (a 1), .ref (a 10), .ref (a 23), .ref (a 24), .ref (a 26), .ref (a 29), .ref (a 34), .ref (a 43), .int (nI nh), .int (nI nf), .int clk, .int hi])), (a 29, .inr (1, [.ref (a 30), .ref (a 31), .ref (a 32), .ref (a 33), .int 0]))] hP hD rfl
  refine lv_iload_n hx hb dX7_even_16 rfl (lv_at hl 0 rfl) ?_
  obtain ⟨hP9, hD9⟩ := zz_sub2 (ws' := [(a 0, .inr (7, [.ref (a 1), .ref (a 10), .ref (a 23), .ref (a 24), .ref (a 26), .ref (a 29), .ref (a 34), .ref (a 43), .int (nI nh), .int (nI nf), .int clk, .int hi])), (a 29, .inr (1, [.ref (a 30), .ref (a 31), .ref (a 32), .ref (a 33), .int 0]))]) hP hD [0, 1] (by decide) rfl
  have hK9 := hK.sub (tys' := []) [] rfl
  exact W.iret (v := (nI nd)) hx hb hr (fun t ht hW => ⟨⟨(nI nd), (0), rfl, ⟨rfl, rfl⟩, by rw [ht]; exact hP9, va_K.moved hW.alike hK9, hD9⟩, hS.F ht⟩) hS.2.2 dX7_even_17
