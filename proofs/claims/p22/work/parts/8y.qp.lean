set_option maxHeartbeats 4000000 in
set_option maxRecDepth 100000 in
theorem kx_choose (l : Launch) (dC : Nat → ClassId) (dI : Nat → Nat → Nat) (a : Nat → Nat) (cI : ClassId) (np : Nat) (cc : Nat) (nt0 : Nat) (hd : Int32) (q0 : Nat → Int32) (q1 : Nat → Int32) (q2 : Nat → Int32) (q3 : Nat → Int32) (q4 : Nat → Int32) (q5 : Nat → Int32) (q6 : Nat → Int32) (q7 : Nat → Int32) (fl : Nat → Int32) (xn : Nat → Int32) (xr : Nat → Int32) (xv : Nat → Int32) (XR : Nat → Prop) (sz : Nat) (hnp : np ≤ 7) (hbn : zz_bnx q6) (hnt : nt0 ≤ 400) (hhd : 1 ≤ hd.toInt ∧ hd.toInt ≤ 99) (htk : zz_tk7 q0 q1 q2 q3 q4 xn xr xv nt0 np XR) (hxn : ∀ q : Nat, XR q → 1 ≤ (xn q).toInt ∧ (xn q).toInt ≤ 60) (hxr : ∀ q : Nat, XR q → 0 ≤ (xr q).toInt ∧ (xr q).toInt ≤ 400) (hxv : ∀ q : Nat, XR q → 0 ≤ (xv q).toInt ∧ (xv q).toInt ≤ 10000) (hlr : zz_rg fl 10 0 100) : Met l yX5_choose (zz_w yX5_choose cX5_choose 6 (some .int)) ({ frames := 3, cells := 0, slots := 0, locals := 67 }) (va_Pc [.ref (a 43), .ref (a 23)] (zz_B (dC, dI) sz [(a 43, .inr (5, [.ref (a 44), .ref (a 45), .ref (a 46), .ref (a 47), .ref (a 48), .ref (a 49), .ref (a 50), .ref (a 51), .int (nI cc), .int (nI np), .int (nI nt0), .int hd])), (a 44, .inl (cI, 7, .inl q0)), (a 45, .inl (cI, 7, .inl q1)), (a 46, .inl (cI, 7, .inl q2)), (a 47, .inl (cI, 7, .inl q3)), (a 48, .inl (cI, 7, .inl q4)), (a 49, .inl (cI, 128, .inl q5)), (a 50, .inl (cI, 128, .inl q6)), (a 51, .inl (cI, 7, .inl q7)), (a 23, .inl (cI, 10, .inl fl))] [(cI, .int)])) (va_Qi (fun (r : Int32) (u : Nat × (Nat → Int32) × (Nat → Int32) × (Nat → Int32)) => match u with | (c2, _, b2, o7) => c2 = np ∧ zz_bnx b2 ∧ zz_Bst fl xv xr xn nt0 hd.toInt.toNat np XR (fun _ => True) r o7) (fun (u : Nat × (Nat → Int32) × (Nat → Int32) × (Nat → Int32)) (t : State) => match u with | (u0, u1, u2, u3) => va_P (dC, dI) vwCl [(a 43, .inr (5, [.ref (a 44), .ref (a 45), .ref (a 46), .ref (a 47), .ref (a 48), .ref (a 49), .ref (a 50), .ref (a 51), .int (nI u0), .int (nI np), .int (nI nt0), .int hd])), (a 44, .inl (cI, 7, .inl q0)), (a 45, .inl (cI, 7, .inl q1)), (a 46, .inl (cI, 7, .inl q2)), (a 47, .inl (cI, 7, .inl q3)), (a 48, .inl (cI, 7, .inl q4)), (a 49, .inl (cI, 128, .inl u1)), (a 50, .inl (cI, 128, .inl u2)), (a 51, .inl (cI, 7, .inl u3)), (a 23, .inl (cI, 10, .inl fl))] t.heap ∧ va_K (dC, dI) vwCl [(cI, .int)] t ∧ va_D (va_A [(a 43, .inr (5, [.ref (a 44), .ref (a 45), .ref (a 46), .ref (a 47), .ref (a 48), .ref (a 49), .ref (a 50), .ref (a 51), .int (nI cc), .int (nI np), .int (nI nt0), .int hd])), (a 44, .inl (cI, 7, .inl q0)), (a 45, .inl (cI, 7, .inl q1)), (a 46, .inl (cI, 7, .inl q2)), (a 47, .inl (cI, 7, .inl q3)), (a 48, .inl (cI, 7, .inl q4)), (a 49, .inl (cI, 128, .inl q5)), (a 50, .inl (cI, 128, .inl q6)), (a 51, .inl (cI, 7, .inl q7)), (a 23, .inl (cI, 10, .inl fl))] sz) [(a 43, .inr (5, [.ref (a 44), .ref (a 45), .ref (a 46), .ref (a 47), .ref (a 48), .ref (a 49), .ref (a 50), .ref (a 51), .int (nI u0), .int (nI np), .int (nI nt0), .int hd])), (a 44, .inl (cI, 7, .inl q0)), (a 45, .inl (cI, 7, .inl q1)), (a 46, .inl (cI, 7, .inl q2)), (a 47, .inl (cI, 7, .inl q3)), (a 48, .inl (cI, 7, .inl q4)), (a 49, .inl (cI, 128, .inl u1)), (a 50, .inl (cI, 128, .inl u2)), (a 51, .inl (cI, 7, .inl u3)), (a 23, .inl (cI, 10, .inl fl))]) (va_A [(a 43, .inr (5, [.ref (a 44), .ref (a 45), .ref (a 46), .ref (a 47), .ref (a 48), .ref (a 49), .ref (a 50), .ref (a 51), .int (nI cc), .int (nI np), .int (nI nt0), .int hd])), (a 44, .inl (cI, 7, .inl q0)), (a 45, .inl (cI, 7, .inl q1)), (a 46, .inl (cI, 7, .inl q2)), (a 47, .inl (cI, 7, .inl q3)), (a 48, .inl (cI, 7, .inl q4)), (a 49, .inl (cI, 128, .inl q5)), (a 50, .inl (cI, 128, .inl q6)), (a 51, .inl (cI, 7, .inl q7)), (a 23, .inl (cI, 10, .inl fl))] sz)) 0 0 (va_A [(a 43, .inr (5, [.ref (a 44), .ref (a 45), .ref (a 46), .ref (a 47), .ref (a 48), .ref (a 49), .ref (a 50), .ref (a 51), .int (nI cc), .int (nI np), .int (nI nt0), .int hd])), (a 44, .inl (cI, 7, .inl q0)), (a 45, .inl (cI, 7, .inl q1)), (a 46, .inl (cI, 7, .inl q2)), (a 47, .inl (cI, 7, .inl q3)), (a 48, .inl (cI, 7, .inl q4)), (a 49, .inl (cI, 128, .inl q5)), (a 50, .inl (cI, 128, .inl q6)), (a 51, .inl (cI, 7, .inl q7)), (a 23, .inl (cI, 10, .inl fl))] sz) := by
  refine Met.ofW (cc := cX5_choose) (maxL := 6) (ret := (some .int)) (by decide) rfl ?_
  intro p e s m args below meth c s₁ B hml hv
  obtain ⟨rfl, hsz, hP, hK, hD0, hN⟩ := hv
  have hx := B.exec
  have hb := B.bytes
  have hr := B.returns
  have hts := atoms_spec (ws := zz_w yX5_choose cX5_choose 6 (some .int)) B.pre
  have hw : ∀ w ∈ zz_all, w.before _ s = true := fun w h => hts w (List.mem_cons_of_mem _ h)
  have hown : s.vm.findClass RX5 = some m.cls := findClass_of_methodNamed B.named
  have hlocks := B.notSynchronized
  subst hsz
  have hD := hD0.self (sz := s.heap.size)
  generalize hAe : va_A [(a 43, .inr (5, [.ref (a 44), .ref (a 45), .ref (a 46), .ref (a 47), .ref (a 48), .ref (a 49), .ref (a 50), .ref (a 51), .int (nI cc), .int (nI np), .int (nI nt0), .int hd])), (a 44, .inl (cI, 7, .inl q0)), (a 45, .inl (cI, 7, .inl q1)), (a 46, .inl (cI, 7, .inl q2)), (a 47, .inl (cI, 7, .inl q3)), (a 48, .inl (cI, 7, .inl q4)), (a 49, .inl (cI, 128, .inl q5)), (a 50, .inl (cI, 128, .inl q6)), (a 51, .inl (cI, 7, .inl q7)), (a 23, .inl (cI, 10, .inl fl))] s.heap.size = A at hD ⊢
  have hA : ∀ q : Nat, s.heap.size ≤ q → A q := fun q h => by rw [← hAe]; exact Or.inr h
  have hS : va_S A s.heap s.heap [] := va_S.rf
  have hP : va_P (dC, dI) vwCl [(a 43, .inr (5, [.ref (a 44), .ref (a 45), .ref (a 46), .ref (a 47), .ref (a 48), .ref (a 49), .ref (a 50), .ref (a 51), .int (nI cc), .int (nI np), .int (nI nt0), .int hd])), (a 44, .inl (cI, 7, .inl q0)), (a 45, .inl (cI, 7, .inl q1)), (a 46, .inl (cI, 7, .inl q2)), (a 47, .inl (cI, 7, .inl q3)), (a 48, .inl (cI, 7, .inl q4)), (a 49, .inl (cI, 128, .inl q5)), (a 50, .inl (cI, 128, .inl q6)), (a 51, .inl (cI, 7, .inl q7)), (a 23, .inl (cI, 10, .inl fl))] s.heap := hP
  have hl := lv_entry ([.ref (a 43), .ref (a 23)]) (n := 6) (Nat.le_of_ble_eq_true rfl)
  rw [lg_entry_eq]
  generalize (lg_sl ([.ref (a 43), .ref (a 23)]) ++ List.replicate (6 - (lg_sl ([.ref (a 43), .ref (a 23)])).length) Slot.unset).toArray = ls at hl ⊢
  have hl : lv_has ls 6 [(0, .ref (a 43)), (1, .ref (a 23))] := hl
  refine lv_iconst (v := 1) hx hb dX5_choose_0 (by decide) ?_
  refine lv_aload_n hx hb dX5_choose_1 rfl (lv_at hl 0 rfl) ?_
  refine va_get (D := (dC, dI)) (ci := 5) (v := .int (nI np)) (C := RX5) (T := TX5) (N := 12) hx hb hw zz_inX5 hown hK hP 0 rfl rfl 9 (by decide) (hw _ tw_142) (fun _ h9 => h9) rfl dX5_choose_2 ?_
  refine lv_ishl hx hb dX5_choose_5 ?_
  refine lv_iconst (v := 1) hx hb dX5_choose_6 (by decide) ?_
  refine lv_isub hx hb dX5_choose_7 ?_
  refine zz_seti (nI (2 ^ np - 1)) (zz_allX hnp) ?_
  have hal := zz_alm7 hnp
  refine lv_istore_n (lv' := [(2, .int (nI (2 ^ np - 1))), (0, .ref (a 43)), (1, .ref (a 23))]) hx hb dX5_choose_8 rfl hl (by decide) rfl (fun ls hl => ?_)
  refine lv_aload_n hx hb dX5_choose_9 rfl (lv_at hl 1 rfl) ?_
  refine va_get (D := (dC, dI)) (ci := 5) (v := .ref (a 49)) (C := RX5) (T := TX5) (N := 12) hx hb hw zz_inX5 hown hK hP 0 rfl rfl 5 (by decide) (hw _ tw_156) (fun _ h9 => h9) rfl dX5_choose_10 ?_
  refine lv_iload_n hx hb dX5_choose_13 rfl (lv_at hl 0 rfl) ?_
  refine lv_iconst (v := 0) hx hb dX5_choose_14 (by decide) ?_
  refine va_iast hx hb hK hP hD hS 6 0 rfl rfl (vp_in_iff.mpr (by rw [zz_toInt (2 ^ np - 1) (by omega)]; constructor <;> omega)) dX5_choose_15 (fun H locs hP hD hS => ?_)
  obtain ⟨hP, hD⟩ := zz_ty (D := (dC, dI)) (cl := vwCl) (A := A) (H := H) [(a 43, .inr (5, [.ref (a 44), .ref (a 45), .ref (a 46), .ref (a 47), .ref (a 48), .ref (a 49), .ref (a 50), .ref (a 51), .int (nI cc), .int (nI np), .int (nI nt0), .int hd])), (a 44, .inl (cI, 7, .inl q0)), (a 45, .inl (cI, 7, .inl q1)), (a 46, .inl (cI, 7, .inl q2)), (a 47, .inl (cI, 7, .inl q3)), (a 48, .inl (cI, 7, .inl q4)), (a 49, .inl (cI, 128, .inl (upd q5 (Int32.toNatClampNeg (nI (2 ^ np - 1))) 0))), (a 50, .inl (cI, 128, .inl q6)), (a 51, .inl (cI, 7, .inl q7)), (a 23, .inl (cI, 10, .inl fl))] hP hD rfl
  refine lv_iload_n hx hb dX5_choose_16 rfl (lv_at hl 0 rfl) ?_
  refine lv_iconst (v := 1) hx hb dX5_choose_17 (by decide) ?_
  refine lv_isub hx hb dX5_choose_18 ?_
  refine lv_istore_n (lv' := [(3, .int ((nI (2 ^ np - 1)) - 1)), (2, .int (nI (2 ^ np - 1))), (0, .ref (a 43)), (1, .ref (a 23))]) hx hb dX5_choose_19 rfl hl (by decide) rfl (fun ls hl => ?_)
  refine zz_loopS (fun (u : (Nat) × (Nat → Int32) × (Nat → Int32)) => match u with | (wv, g5, g6) => [(a 43, .inr (5, [.ref (a 44), .ref (a 45), .ref (a 46), .ref (a 47), .ref (a 48), .ref (a 49), .ref (a 50), .ref (a 51), .int (nI cc), .int (nI np), .int (nI nt0), .int hd])), (a 44, .inl (cI, 7, .inl q0)), (a 45, .inl (cI, 7, .inl q1)), (a 46, .inl (cI, 7, .inl q2)), (a 47, .inl (cI, 7, .inl q3)), (a 48, .inl (cI, 7, .inl q4)), (a 49, .inl (cI, 128, .inl g5)), (a 50, .inl (cI, 128, .inl g6)), (a 51, .inl (cI, 7, .inl q7)), (a 23, .inl (cI, 10, .inl fl))]) (fun (u : (Nat) × (Nat → Int32) × (Nat → Int32)) => match u with | (wv, g5, g6) => [(0, .ref (a 43)), (1, .ref (a 23)), (2, .int (nI (2 ^ np - 1))), (3, .int ((nI wv) - 1))]) (fun (u : (Nat) × (Nat → Int32) × (Nat → Int32)) => match u with | (wv, g5, g6) => wv ≤ 2 ^ np - 1 ∧ zz_bnx g6 ∧ zz_DPs (zz_P q0) (zz_ck (zz_P q0) (zz_lsf fl xv xr) (zz_stf nt0 xr) (zz_ndf xn) hd.toInt.toNat nt0 np) g5 g6 np wv) (fun (u : (Nat) × (Nat → Int32) × (Nat → Int32)) => match u with | (wv, g5, g6) => wv) (fun u hI H locs ls hP hD hS hl ih_20 => ?_) ((2 ^ np - 1), (upd q5 (Int32.toNatClampNeg (nI (2 ^ np - 1))) 0), q6) ⟨by omega, hbn, zz_DPs_0 hnp⟩ _ _ _ (hP.sub [0, 1, 2, 3, 4, 5, 6, 7, 8, 9] rfl) (hD.sub [0, 1, 2, 3, 4, 5, 6, 7, 8, 9] (by decide) rfl) hS (lv_sub hl [2, 3, 1, 0] rfl)
  obtain ⟨wv, g5, g6⟩ := u
  obtain ⟨hP, hD⟩ := zz_ty (D := (dC, dI)) (cl := vwCl) (A := A) (H := H) [(a 43, .inr (5, [.ref (a 44), .ref (a 45), .ref (a 46), .ref (a 47), .ref (a 48), .ref (a 49), .ref (a 50), .ref (a 51), .int (nI cc), .int (nI np), .int (nI nt0), .int hd])), (a 44, .inl (cI, 7, .inl q0)), (a 45, .inl (cI, 7, .inl q1)), (a 46, .inl (cI, 7, .inl q2)), (a 47, .inl (cI, 7, .inl q3)), (a 48, .inl (cI, 7, .inl q4)), (a 49, .inl (cI, 128, .inl g5)), (a 50, .inl (cI, 128, .inl g6)), (a 51, .inl (cI, 7, .inl q7)), (a 23, .inl (cI, 10, .inl fl))] hP hD rfl
  have hl : lv_has ls 6 [(0, .ref (a 43)), (1, .ref (a 23)), (2, .int (nI (2 ^ np - 1))), (3, .int ((nI wv) - 1))] := hl
  have hI : wv ≤ 2 ^ np - 1 ∧ zz_bnx g6 ∧ zz_DPs (zz_P q0) (zz_ck (zz_P q0) (zz_lsf fl xv xr) (zz_stf nt0 xr) (zz_ndf xn) hd.toInt.toNat nt0 np) g5 g6 np wv := hI
  obtain ⟨iw, ib, iD⟩ := hI
  refine lv_iload_n hx hb dX5_choose_20 rfl (lv_at hl 3 rfl) ?_
  refine lv_if_lt (tgt := 36) hx hb dX5_choose_21 (by decide) (fun c_1 => ?_) (fun c_1 => ?_)
  · have zc_1 := c_1
    rw [Int32.lt_iff_toInt_lt] at zc_1
    try rw [zz_pred (c := wv) (by omega)] at zc_1
    try rw [show (0 : Int32).toInt = 0 from by decide] at zc_1
    have hD0 : zz_DPs (zz_P q0) (zz_ck (zz_P q0) (zz_lsf fl xv xr) (zz_stf nt0 xr) (zz_ndf xn) hd.toInt.toNat nt0 np) g5 g6 np 0 := by have h9 : wv = 0 := (by omega); rw [h9] at iD; exact iD
    refine lv_aload_n hx hb dX5_choose_36 rfl (lv_at hl 0 rfl) ?_
    refine lv_aload_n hx hb dX5_choose_37 rfl (lv_at hl 0 rfl) ?_
    refine va_get (D := (dC, dI)) (ci := 5) (v := .int (nI np)) (C := RX5) (T := TX5) (N := 12) hx hb hw zz_inX5 hown hK hP 0 rfl rfl 9 (by decide) (hw _ tw_142) (fun _ h9 => h9) rfl dX5_choose_38 ?_
    refine va_put (D := (dC, dI)) (ci := 5) (v := .int (nI np)) (ty := .int) (C := RX5) (T := TX5) (N := 12) hx hb hw zz_inX5 tyX5 tyX5_ok nmX5 hown hK hP hD hS 0 rfl rfl 8 (by decide) (hw _ tw_162) (fun _ h9 => h9) rfl (by decide +kernel) rfl rfl (Nat.le_of_ble_eq_true rfl) dX5_choose_41 (fun H locs hP hD hS => ?_)
    obtain ⟨hP, hD⟩ := zz_ty (D := (dC, dI)) (cl := vwCl) (A := A) (H := H) [(a 43, .inr (5, [.ref (a 44), .ref (a 45), .ref (a 46), .ref (a 47), .ref (a 48), .ref (a 49), .ref (a 50), .ref (a 51), .int (nI np), .int (nI np), .int (nI nt0), .int hd])), (a 44, .inl (cI, 7, .inl q0)), (a 45, .inl (cI, 7, .inl q1)), (a 46, .inl (cI, 7, .inl q2)), (a 47, .inl (cI, 7, .inl q3)), (a 48, .inl (cI, 7, .inl q4)), (a 49, .inl (cI, 128, .inl g5)), (a 50, .inl (cI, 128, .inl g6)), (a 51, .inl (cI, 7, .inl q7)), (a 23, .inl (cI, 10, .inl fl))] hP hD rfl
    refine lv_iconst (v := 0) hx hb dX5_choose_44 (by decide) ?_
    refine lv_istore_n (lv' := [(3, .int 0), (0, .ref (a 43)), (1, .ref (a 23)), (2, .int (nI (2 ^ np - 1)))]) hx hb dX5_choose_45 rfl hl (by decide) rfl (fun ls hl => ?_)
    refine lv_iconst (v := 0) hx hb dX5_choose_46 (by decide) ?_
    refine lv_istore (lv' := [(4, .int 0), (3, .int 0), (0, .ref (a 43)), (1, .ref (a 23)), (2, .int (nI (2 ^ np - 1)))]) hx hb dX5_choose_47 hl (by decide) rfl (fun ls hl => ?_)
    refine zz_loopS (fun (u : (Nat) × (Nat) × (Nat → Int32)) => match u with | (i, r3, g7) => [(a 43, .inr (5, [.ref (a 44), .ref (a 45), .ref (a 46), .ref (a 47), .ref (a 48), .ref (a 49), .ref (a 50), .ref (a 51), .int (nI np), .int (nI np), .int (nI nt0), .int hd])), (a 44, .inl (cI, 7, .inl q0)), (a 45, .inl (cI, 7, .inl q1)), (a 46, .inl (cI, 7, .inl q2)), (a 47, .inl (cI, 7, .inl q3)), (a 48, .inl (cI, 7, .inl q4)), (a 49, .inl (cI, 128, .inl g5)), (a 50, .inl (cI, 128, .inl g6)), (a 51, .inl (cI, 7, .inl g7)), (a 23, .inl (cI, 10, .inl fl))]) (fun (u : (Nat) × (Nat) × (Nat → Int32)) => match u with | (i, r3, g7) => [(0, .ref (a 43)), (1, .ref (a 23)), (2, .int (nI (2 ^ np - 1))), (3, .int (nI r3)), (4, .int (nI i))]) (fun (u : (Nat) × (Nat) × (Nat → Int32)) => match u with | (i, r3, g7) => i ≤ np ∧ r3 < 128 ∧ zz_ch g6 q0 g7 np i r3) (fun (u : (Nat) × (Nat) × (Nat → Int32)) => match u with | (i, r3, g7) => np - i) (fun u hI H locs ls hP hD hS hl ih_49 => ?_) (0, 0, q7) ⟨by omega, by omega, zz_ch_0⟩ _ _ _ (hP.sub [0, 1, 2, 3, 4, 5, 6, 7, 8, 9] rfl) (hD.sub [0, 1, 2, 3, 4, 5, 6, 7, 8, 9] (by decide) rfl) hS (lv_sub hl [2, 3, 4, 1, 0] rfl)
    obtain ⟨i, r3, g7⟩ := u
    obtain ⟨hP, hD⟩ := zz_ty (D := (dC, dI)) (cl := vwCl) (A := A) (H := H) [(a 43, .inr (5, [.ref (a 44), .ref (a 45), .ref (a 46), .ref (a 47), .ref (a 48), .ref (a 49), .ref (a 50), .ref (a 51), .int (nI np), .int (nI np), .int (nI nt0), .int hd])), (a 44, .inl (cI, 7, .inl q0)), (a 45, .inl (cI, 7, .inl q1)), (a 46, .inl (cI, 7, .inl q2)), (a 47, .inl (cI, 7, .inl q3)), (a 48, .inl (cI, 7, .inl q4)), (a 49, .inl (cI, 128, .inl g5)), (a 50, .inl (cI, 128, .inl g6)), (a 51, .inl (cI, 7, .inl g7)), (a 23, .inl (cI, 10, .inl fl))] hP hD rfl
    have hl : lv_has ls 6 [(0, .ref (a 43)), (1, .ref (a 23)), (2, .int (nI (2 ^ np - 1))), (3, .int (nI r3)), (4, .int (nI i))] := hl
    have hI : i ≤ np ∧ r3 < 128 ∧ zz_ch g6 q0 g7 np i r3 := hI
    obtain ⟨ii, ir, ic7⟩ := hI
    refine lv_iload hx hb dX5_choose_49 (lv_at hl 4 rfl) ?_
    refine lv_aload_n hx hb dX5_choose_51 rfl (lv_at hl 0 rfl) ?_
    refine va_get (D := (dC, dI)) (ci := 5) (v := .int (nI np)) (C := RX5) (T := TX5) (N := 12) hx hb hw zz_inX5 hown hK hP 0 rfl rfl 9 (by decide) (hw _ tw_142) (fun _ h9 => h9) rfl dX5_choose_52 ?_
    refine lv_icmp_ge (tgt := 93) hx hb dX5_choose_55 (by decide) (fun c_2 => ?_) (fun c_2 => ?_)
    · have zc_2 := c_2
      rw [Int32.le_iff_toInt_le] at zc_2
      try rw [zz_toInt i (by omega)] at zc_2
      try rw [zz_toInt np (by omega)] at zc_2
      refine lv_aload_n hx hb dX5_choose_93 rfl (lv_at hl 0 rfl) ?_
      refine va_get (D := (dC, dI)) (ci := 5) (v := .ref (a 49)) (C := RX5) (T := TX5) (N := 12) hx hb hw zz_inX5 hown hK hP 0 rfl rfl 5 (by decide) (hw _ tw_156) (fun _ h9 => h9) rfl dX5_choose_94 ?_
      refine lv_iconst (v := 0) hx hb dX5_choose_97 (by decide) ?_
      refine va_iald hx hb hK hP 6 0 rfl rfl (zz_vin (by decide)) dX5_choose_98 ?_
      obtain ⟨hP9, hD9⟩ := zz_sub2 (ws' := [(a 43, .inr (5, [.ref (a 44), .ref (a 45), .ref (a 46), .ref (a 47), .ref (a 48), .ref (a 49), .ref (a 50), .ref (a 51), .int (nI np), .int (nI np), .int (nI nt0), .int hd])), (a 44, .inl (cI, 7, .inl q0)), (a 45, .inl (cI, 7, .inl q1)), (a 46, .inl (cI, 7, .inl q2)), (a 47, .inl (cI, 7, .inl q3)), (a 48, .inl (cI, 7, .inl q4)), (a 49, .inl (cI, 128, .inl g5)), (a 50, .inl (cI, 128, .inl g6)), (a 51, .inl (cI, 7, .inl g7)), (a 23, .inl (cI, 10, .inl fl))]) hP hD [0, 1, 2, 3, 4, 5, 6, 7, 8, 9] (by decide) rfl
      have hK9 := hK.sub (tys' := [(cI, .int)]) [0] rfl
      exact W.iret (v := (g5 (Int32.toNatClampNeg 0))) hx hb hr (fun t ht hW => ⟨⟨(g5 (Int32.toNatClampNeg 0)), (np, g5, g6, g7), rfl, ⟨rfl, ib, (by first | exact zz_opt hnp htk hD0 (by have h9 : i = np := (by omega); rw [h9] at ic7; exact ic7) | (rw [show Int32.toNatClampNeg 0 = 0 from by decide]; exact zz_opt hnp htk hD0 (by have h9 : i = np := (by omega); rw [h9] at ic7; exact ic7)))⟩, by rw [ht]; exact hP9, va_K.moved hW.alike hK9, hD9⟩, hS.F ht⟩) hS.2.2 dX5_choose_99
    · have zc_2 := c_2
      rw [Int32.le_iff_toInt_le] at zc_2
      try rw [zz_toInt i (by omega)] at zc_2
      try rw [zz_toInt np (by omega)] at zc_2
      refine lv_aload_n hx hb dX5_choose_58 rfl (lv_at hl 0 rfl) ?_
      refine va_get (D := (dC, dI)) (ci := 5) (v := .ref (a 50)) (C := RX5) (T := TX5) (N := 12) hx hb hw zz_inX5 hown hK hP 0 rfl rfl 6 (by decide) (hw _ tw_157) (fun _ h9 => h9) rfl dX5_choose_59 ?_
      refine lv_iload_n hx hb dX5_choose_62 rfl (lv_at hl 3 rfl) ?_
      refine va_iald hx hb hK hP 7 0 rfl rfl (vp_in_iff.mpr (by rw [zz_toInt r3 (by omega)]; constructor <;> omega)) dX5_choose_63 ?_
      refine zz_seti (g6 r3) (congrArg g6 (zz_cl (by omega))) ?_
      obtain ⟨kb, hkb, ekb⟩ := ib r3
      refine zz_seti (nI kb) ekb ?_
      have hpk7 := zz_bp7 hkb
      have hok := zz_orl (r := r3) (by omega) hkb
      refine lv_istore (lv' := [(5, .int (nI kb)), (0, .ref (a 43)), (1, .ref (a 23)), (2, .int (nI (2 ^ np - 1))), (3, .int (nI r3)), (4, .int (nI i))]) hx hb dX5_choose_64 hl (by decide) rfl (fun ls hl => ?_)
      refine lv_aload_n hx hb dX5_choose_66 rfl (lv_at hl 1 rfl) ?_
      refine va_get (D := (dC, dI)) (ci := 5) (v := .ref (a 51)) (C := RX5) (T := TX5) (N := 12) hx hb hw zz_inX5 hown hK hP 0 rfl rfl 7 (by decide) (hw _ tw_163) (fun _ h9 => h9) rfl dX5_choose_67 ?_
      refine lv_iload hx hb dX5_choose_70 (lv_at hl 5 rfl) ?_
      refine lv_aload_n hx hb dX5_choose_72 rfl (lv_at hl 1 rfl) ?_
      refine va_get (D := (dC, dI)) (ci := 5) (v := .ref (a 44)) (C := RX5) (T := TX5) (N := 12) hx hb hw zz_inX5 hown hK hP 0 rfl rfl 0 (by decide) (hw _ tw_146) (fun _ h9 => h9) rfl dX5_choose_73 ?_
      refine lv_iload hx hb dX5_choose_76 (lv_at hl 0 rfl) ?_
      refine va_iald hx hb hK hP 1 0 rfl rfl (vp_in_iff.mpr (by rw [zz_toInt kb (by omega)]; constructor <;> omega)) dX5_choose_78 ?_
      refine zz_seti (q0 kb) (congrArg q0 (zz_cl (by omega))) ?_
      refine va_iast hx hb hK hP hD hS 8 0 rfl rfl (vp_in_iff.mpr (by rw [zz_toInt i (by omega)]; constructor <;> omega)) dX5_choose_79 (fun H locs hP hD hS => ?_)
      obtain ⟨hP, hD⟩ := zz_ty (D := (dC, dI)) (cl := vwCl) (A := A) (H := H) [(a 43, .inr (5, [.ref (a 44), .ref (a 45), .ref (a 46), .ref (a 47), .ref (a 48), .ref (a 49), .ref (a 50), .ref (a 51), .int (nI np), .int (nI np), .int (nI nt0), .int hd])), (a 44, .inl (cI, 7, .inl q0)), (a 45, .inl (cI, 7, .inl q1)), (a 46, .inl (cI, 7, .inl q2)), (a 47, .inl (cI, 7, .inl q3)), (a 48, .inl (cI, 7, .inl q4)), (a 49, .inl (cI, 128, .inl g5)), (a 50, .inl (cI, 128, .inl g6)), (a 51, .inl (cI, 7, .inl (upd g7 (Int32.toNatClampNeg (nI i)) (q0 kb)))), (a 23, .inl (cI, 10, .inl fl))] hP hD rfl
      refine lv_iload_n hx hb dX5_choose_80 rfl (lv_at hl 4 rfl) ?_
      refine lv_iconst (v := 1) hx hb dX5_choose_81 (by decide) ?_
      refine lv_iload hx hb dX5_choose_82 (lv_at hl 0 rfl) ?_
      refine lv_ishl hx hb dX5_choose_84 ?_
      refine zz_seti (nI (2 ^ kb)) (zz_shl (by omega)) ?_
      refine lv_ior hx hb dX5_choose_85 ?_
      refine zz_seti (nI (r3 ||| 2 ^ kb)) (zz_orN7 (by omega) hkb) ?_
      refine lv_istore_n (lv' := [(3, .int (nI (r3 ||| 2 ^ kb))), (5, .int (nI kb)), (0, .ref (a 43)), (1, .ref (a 23)), (2, .int (nI (2 ^ np - 1))), (4, .int (nI i))]) hx hb dX5_choose_86 rfl hl (by decide) rfl (fun ls hl => ?_)
      refine lv_iinc (v := (nI (i + 1))) (lv' := [(4, .int (nI (i + 1))), (3, .int (nI (r3 ||| 2 ^ kb))), (5, .int (nI kb)), (0, .ref (a 43)), (1, .ref (a 23)), (2, .int (nI (2 ^ np - 1)))]) hx hb dX5_choose_87 hl (k := 5) rfl (nI_1 _) (by decide) rfl (fun ls hl => ?_)
      refine lv_goto (tgt := 49) hx hb dX5_choose_90 (by decide) ?_
      exact ih_49 ((i + 1), (r3 ||| 2 ^ kb), (upd g7 (Int32.toNatClampNeg (nI i)) (q0 kb))) ⟨by omega, by omega, zz_ch_s hnp ic7 (by omega) hD0 ekb hkb⟩ (show np - (i + 1) < np - i from by omega) _ _ _ (hP.sub [0, 1, 2, 3, 4, 5, 6, 7, 8, 9] rfl) (hD.sub [0, 1, 2, 3, 4, 5, 6, 7, 8, 9] (by decide) rfl) hS (lv_sub hl [3, 4, 5, 1, 0] rfl)
  · have zc_1 := c_1
    rw [Int32.lt_iff_toInt_lt] at zc_1
    try rw [zz_pred (c := wv) (by omega)] at zc_1
    try rw [show (0 : Int32).toInt = 0 from by decide] at zc_1
    refine lv_aload_n hx hb dX5_choose_24 rfl (lv_at hl 0 rfl) ?_
    refine lv_iload_n hx hb dX5_choose_25 rfl (lv_at hl 3 rfl) ?_
    refine zz_seti (nI (wv - 1)) (zz_predN (by omega)) ?_
    refine lv_aload_n hx hb dX5_choose_26 rfl (lv_at hl 1 rfl) ?_
    obtain ⟨hPc, hDc⟩ := zz_sub2 (ws' := [(a 43, .inr (5, [.ref (a 44), .ref (a 45), .ref (a 46), .ref (a 47), .ref (a 48), .ref (a 49), .ref (a 50), .ref (a 51), .int (nI cc), .int (nI np), .int (nI nt0), .int hd])), (a 44, .inl (cI, 7, .inl q0)), (a 45, .inl (cI, 7, .inl q1)), (a 46, .inl (cI, 7, .inl q2)), (a 47, .inl (cI, 7, .inl q3)), (a 48, .inl (cI, 7, .inl q4)), (a 49, .inl (cI, 128, .inl g5)), (a 50, .inl (cI, 128, .inl g6)), (a 23, .inl (cI, 10, .inl fl))]) hP hD [0, 1, 2, 3, 4, 5, 6, 7, 9] (by decide) rfl
    have hKc := hK.sub (tys' := [(cI, .int)]) [0] rfl
    have hFc := zz_free1 hDc hS hA
    refine va_callv (va_runV (As := [.int (nI (wv - 1)), .ref (a 23)]) (rest := []) ⟨hx, hb, hml, hown, hw⟩ (kx_chooseNext l dC dI a cI np cc nt0 hd q0 q1 q2 q3 q4 g5 g6 fl xn xr xv XR (wv - 1) H.size (by omega) (by omega) ib (by omega) (by rw [show wv - 1 + 1 = wv by omega]; exact iD) hnt hhd htk hxn hxr hxv hlr) ⟨callB_of 2 hw (zz_good tw_164) rfl rfl rfl (hw _ tw_152) (hw _ tw_165) (by decide +kernel) ⟨Nat.le_of_ble_eq_true rfl, Nat.le_of_ble_eq_true rfl⟩, (hw _ tw_166), (hw _ tw_167)⟩ ⟨zz_blind, va_recv hKc hPc (ci := 5) (q0 := 0) rfl rfl, zz_pre hPc hKc hDc hN⟩ rfl rfl hl.1 rfl (lv_room (Nat.le_of_ble_eq_true rfl)) dX5_choose_27 ⟨Nat.le_of_ble_eq_true rfl, Nat.le_of_ble_eq_true rfl⟩) hS (fun q _ h => hFc q h) hFc (fun u_3 t H1 locs ht hvm e_3 hB hz1 hk1 hS => ?_)
    try dsimp only at e_3
    obtain ⟨g5n, g6n⟩ := u_3
    obtain ⟨hP1, hK1, hD1⟩ := hB
    rw [ht] at hP1
    have hK1 := va_K.moved hvm.symm hK1
    try dsimp only at e_3
    obtain ⟨hP, hD⟩ := va_join (wr := [(a 51, .inl (cI, 7, .inl q7))]) (w1 := [(a 43, .inr (5, [.ref (a 44), .ref (a 45), .ref (a 46), .ref (a 47), .ref (a 48), .ref (a 49), .ref (a 50), .ref (a 51), .int (nI cc), .int (nI np), .int (nI nt0), .int hd])), (a 44, .inl (cI, 7, .inl q0)), (a 45, .inl (cI, 7, .inl q1)), (a 46, .inl (cI, 7, .inl q2)), (a 47, .inl (cI, 7, .inl q3)), (a 48, .inl (cI, 7, .inl q4)), (a 49, .inl (cI, 128, .inl g5n)), (a 50, .inl (cI, 128, .inl g6n)), (a 23, .inl (cI, 10, .inl fl))]) hP hD [0, 1, 2, 3, 4, 5, 6, 7, 9] [8] rfl rfl (by decide) (by decide) hk1 hFc hP1 hD1
    clear hk1 ht hvm
    generalize H1 = H at hP hS ⊢
    obtain ⟨hP, hD⟩ := zz_ty (D := (dC, dI)) (cl := vwCl) (A := A) (H := H) [(a 51, .inl (cI, 7, .inl q7)), (a 43, .inr (5, [.ref (a 44), .ref (a 45), .ref (a 46), .ref (a 47), .ref (a 48), .ref (a 49), .ref (a 50), .ref (a 51), .int (nI cc), .int (nI np), .int (nI nt0), .int hd])), (a 44, .inl (cI, 7, .inl q0)), (a 45, .inl (cI, 7, .inl q1)), (a 46, .inl (cI, 7, .inl q2)), (a 47, .inl (cI, 7, .inl q3)), (a 48, .inl (cI, 7, .inl q4)), (a 49, .inl (cI, 128, .inl g5n)), (a 50, .inl (cI, 128, .inl g6n)), (a 23, .inl (cI, 10, .inl fl))] hP hD rfl
    refine lv_iinc (v := (nI (wv - 1)) - 1) (lv' := [(3, .int ((nI (wv - 1)) - 1)), (0, .ref (a 43)), (1, .ref (a 23)), (2, .int (nI (2 ^ np - 1)))]) hx hb dX5_choose_30 hl (k := 3) rfl (zz_iw (by omega)) (by decide) rfl (fun ls hl => ?_)
    refine lv_goto (tgt := 20) hx hb dX5_choose_33 (by decide) ?_
    exact ih_20 ((wv - 1), g5n, g6n) ⟨by omega, e_3.1, e_3.2⟩ (show (wv - 1) < wv from by omega) _ _ _ (hP.sub [1, 2, 3, 4, 5, 6, 7, 8, 0, 9] rfl) (hD.sub [1, 2, 3, 4, 5, 6, 7, 8, 0, 9] (by decide) rfl) hS (lv_sub hl [1, 2, 3, 0] rfl)
