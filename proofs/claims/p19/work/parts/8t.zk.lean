set_option maxHeartbeats 4000000 in
set_option maxRecDepth 100000 in
theorem mx_firstB (l : Launch) (dC : Nat → ClassId) (dI : Nat → Nat → Nat) (b : Nat → Nat) (gg : Nat → Int32) (mt : Nat) (mc : Nat) (mh : Nat) (mf : Nat) (md : Nat) (pn : Nat) (cI : ClassId) (nz : Nat → Int32) (sx : Nat) (sz : Nat) (hmh : mh ≤ 8) (hsx : sx < 256) : Met l yX8_first (zz_w yX8_first cX8_first 5 (some .int)) ({ frames := 0, cells := 0, slots := 0, locals := 0 }) (va_Pc [.ref (b 0), .int (nI sx), .int 1] (zz_B (dC, dI) sz [(b 0, .inr (8, [.ref (b 1), .int (nI mt), .int (gg 2), .int (gg 3), .int (gg 4), .int (gg 5), .int (gg 6), .int (gg 7), .int (gg 8), .int (gg 9), .ref (b 11), .ref (b 12), .ref (b 13), .int (nI mc), .int (nI mh), .ref (b 16), .ref (b 17), .ref (b 18), .ref (b 19), .ref (b 20), .ref (b 21), .ref (b 22), .ref (b 23), .ref (b 24), .int (nI mf), .ref (b 26), .ref (b 27), .ref (b 28), .ref (b 29), .ref (b 30), .ref (b 31), .ref (b 32), .int (gg 32), .int (nI md), .ref (b 35), .ref (b 36), .ref (b 37), .ref (b 38), .ref (b 39), .ref (b 40), .int (nI pn), .ref (b 42), .ref (b 43), .ref (b 44), .int (gg 44), .ref (b 46), .ref (b 47), .int (gg 47), .ref (b 49)])), (b 39, .inl (cI, 8, .inl nz))] [(cI, .int)])) (va_Qi (fun (r : Int32) (_ : Unit) => zz_f3 (zz_pb nz sx) r 0 mh) (fun _ _ => True) (va_A [] sz)) 0 0 (va_A [] sz) := by
  refine Met.ofW (cc := cX8_first) (maxL := 5) (ret := (some .int)) (by decide) rfl ?_
  intro p e s m args below meth c s₁ B hml hv
  obtain ⟨rfl, hsz, hP, hK, hD0, hN⟩ := hv
  have hx := B.exec
  have hb := B.bytes
  have hr := B.returns
  have hts := atoms_spec (ws := zz_w yX8_first cX8_first 5 (some .int)) B.pre
  have hw : ∀ w ∈ zz_all, w.before _ s = true := fun w h => hts w (List.mem_cons_of_mem _ h)
  have hown : s.vm.findClass RX8 = some m.cls := findClass_of_methodNamed B.named
  have hlocks := B.notSynchronized
  subst hsz
  have hD := hD0
  generalize hAe : va_A [] s.heap.size = A
  have hA : ∀ q : Nat, s.heap.size ≤ q → A q := fun q h => by rw [← hAe]; exact Or.inr h
  have hS : va_S A s.heap s.heap [] := va_S.rf
  have hP : va_P (dC, dI) vwCl [(b 0, .inr (8, [.ref (b 1), .int (nI mt), .int (gg 2), .int (gg 3), .int (gg 4), .int (gg 5), .int (gg 6), .int (gg 7), .int (gg 8), .int (gg 9), .ref (b 11), .ref (b 12), .ref (b 13), .int (nI mc), .int (nI mh), .ref (b 16), .ref (b 17), .ref (b 18), .ref (b 19), .ref (b 20), .ref (b 21), .ref (b 22), .ref (b 23), .ref (b 24), .int (nI mf), .ref (b 26), .ref (b 27), .ref (b 28), .ref (b 29), .ref (b 30), .ref (b 31), .ref (b 32), .int (gg 32), .int (nI md), .ref (b 35), .ref (b 36), .ref (b 37), .ref (b 38), .ref (b 39), .ref (b 40), .int (nI pn), .ref (b 42), .ref (b 43), .ref (b 44), .int (gg 44), .ref (b 46), .ref (b 47), .int (gg 47), .ref (b 49)])), (b 39, .inl (cI, 8, .inl nz))] s.heap := hP
  have hl := lv_entry ([.ref (b 0), .int (nI sx), .int 1]) (n := 5) (Nat.le_of_ble_eq_true rfl)
  rw [lg_entry_eq]
  generalize (lg_sl ([.ref (b 0), .int (nI sx), .int 1]) ++ List.replicate (5 - (lg_sl ([.ref (b 0), .int (nI sx), .int 1])).length) Slot.unset).toArray = ls at hl ⊢
  have hl : lv_has ls 5 [(0, .ref (b 0)), (1, .int (nI sx)), (2, .int 1)] := hl
  refine lv_iconst (v := (-1)) hx hb dX8_first_0 (by decide) ?_
  refine lv_istore_n (lv' := [(3, .int (-1)), (0, .ref (b 0)), (1, .int (nI sx)), (2, .int 1)]) hx hb dX8_first_1 rfl hl (by decide) rfl (fun ls hl => ?_)
  refine lv_aload_n hx hb dX8_first_2 rfl (lv_at hl 1 rfl) ?_
  refine va_get (D := (dC, dI)) (ci := 8) (v := .int (nI mh)) (C := RX8) (T := TX8) (N := 49) hx hb hw zz_inX8 hown hK hP 0 rfl rfl 14 (by decide) (hw _ tw_182) (fun _ h9 => h9) rfl dX8_first_3 ?_
  refine lv_iconst (v := 1) hx hb dX8_first_6 (by decide) ?_
  refine lv_isub hx hb dX8_first_7 ?_
  refine lv_istore (lv' := [(4, .int ((nI mh) - 1)), (3, .int (-1)), (0, .ref (b 0)), (1, .int (nI sx)), (2, .int 1)]) hx hb dX8_first_8 hl (by decide) rfl (fun ls hl => ?_)
  refine zz_loopS (fun (u : (Nat) × (Int32)) => match u with | (wv, y) => [(b 0, .inr (8, [.ref (b 1), .int (nI mt), .int (gg 2), .int (gg 3), .int (gg 4), .int (gg 5), .int (gg 6), .int (gg 7), .int (gg 8), .int (gg 9), .ref (b 11), .ref (b 12), .ref (b 13), .int (nI mc), .int (nI mh), .ref (b 16), .ref (b 17), .ref (b 18), .ref (b 19), .ref (b 20), .ref (b 21), .ref (b 22), .ref (b 23), .ref (b 24), .int (nI mf), .ref (b 26), .ref (b 27), .ref (b 28), .ref (b 29), .ref (b 30), .ref (b 31), .ref (b 32), .int (gg 32), .int (nI md), .ref (b 35), .ref (b 36), .ref (b 37), .ref (b 38), .ref (b 39), .ref (b 40), .int (nI pn), .ref (b 42), .ref (b 43), .ref (b 44), .int (gg 44), .ref (b 46), .ref (b 47), .int (gg 47), .ref (b 49)])), (b 39, .inl (cI, 8, .inl nz))]) (fun (u : (Nat) × (Int32)) => match u with | (wv, y) => [(0, .ref (b 0)), (1, .int (nI sx)), (2, .int 1), (3, .int y), (4, .int ((nI wv) - 1))]) (fun (u : (Nat) × (Int32)) => match u with | (wv, y) => wv ≤ mh ∧ zz_f3 (zz_pb nz sx) y wv mh) (fun (u : (Nat) × (Int32)) => match u with | (wv, y) => wv) (fun u hI H locs ls hP hD hS hl ih_10 => ?_) (mh, (-1)) ⟨by omega, zz_f3_0⟩ _ _ _ (hP.sub [0, 1] rfl) (hD.sub [0, 1] (by decide) rfl) hS (lv_sub hl [2, 3, 4, 1, 0] rfl)
  obtain ⟨wv, y⟩ := u
  obtain ⟨hP, hD⟩ := zz_ty (D := (dC, dI)) (cl := vwCl) (A := (fun _ => True)) (H := H) [(b 0, .inr (8, [.ref (b 1), .int (nI mt), .int (gg 2), .int (gg 3), .int (gg 4), .int (gg 5), .int (gg 6), .int (gg 7), .int (gg 8), .int (gg 9), .ref (b 11), .ref (b 12), .ref (b 13), .int (nI mc), .int (nI mh), .ref (b 16), .ref (b 17), .ref (b 18), .ref (b 19), .ref (b 20), .ref (b 21), .ref (b 22), .ref (b 23), .ref (b 24), .int (nI mf), .ref (b 26), .ref (b 27), .ref (b 28), .ref (b 29), .ref (b 30), .ref (b 31), .ref (b 32), .int (gg 32), .int (nI md), .ref (b 35), .ref (b 36), .ref (b 37), .ref (b 38), .ref (b 39), .ref (b 40), .int (nI pn), .ref (b 42), .ref (b 43), .ref (b 44), .int (gg 44), .ref (b 46), .ref (b 47), .int (gg 47), .ref (b 49)])), (b 39, .inl (cI, 8, .inl nz))] hP hD rfl
  have hl : lv_has ls 5 [(0, .ref (b 0)), (1, .int (nI sx)), (2, .int 1), (3, .int y), (4, .int ((nI wv) - 1))] := hl
  have hI : wv ≤ mh ∧ zz_f3 (zz_pb nz sx) y wv mh := hI
  obtain ⟨iw, iy⟩ := hI
  refine lv_iload hx hb dX8_first_10 (lv_at hl 4 rfl) ?_
  refine lv_if_lt (tgt := 65) hx hb dX8_first_12 (by decide) (fun c_1 => ?_) (fun c_1 => ?_)
  · have zc_1 := c_1
    rw [Int32.lt_iff_toInt_lt] at zc_1
    try rw [zz_pred (c := wv) (by omega)] at zc_1
    try rw [show (0 : Int32).toInt = 0 from by decide] at zc_1
    refine lv_iload_n hx hb dX8_first_65 rfl (lv_at hl 3 rfl) ?_
    exact W.iret (v := y) hx hb hr (fun t ht hW => ⟨⟨y, (), rfl, (by rw [show wv = 0 from by omega] at iy; exact iy), trivial⟩, hS.F ht⟩) hS.2.2 dX8_first_66
  · have zc_1 := c_1
    rw [Int32.lt_iff_toInt_lt] at zc_1
    try rw [zz_pred (c := wv) (by omega)] at zc_1
    try rw [show (0 : Int32).toInt = 0 from by decide] at zc_1
    refine lv_iload_n hx hb dX8_first_15 rfl (lv_at hl 1 rfl) ?_
    refine lv_iload hx hb dX8_first_16 (lv_at hl 4 rfl) ?_
    refine zz_seti (nI (wv - 1)) (zz_predN (by omega)) ?_
    refine lv_ishr hx hb dX8_first_18 ?_
    refine lv_iconst (v := 1) hx hb dX8_first_19 (by decide) ?_
    refine lv_iand hx hb dX8_first_20 ?_
    rcases zz_bitc sx (by omega) (wv - 1) (by omega) with ⟨hb_2, eb_2⟩ | ⟨hb_2, eb_2⟩
    · refine zz_seti 1 eb_2 ?_
      refine lv_iconst (v := 1) hx hb dX8_first_21 (by decide) ?_
      refine lv_icmp_ne (tgt := 57) hx hb dX8_first_22 (by decide) (fun c_9 => absurd c_9 (by decide)) (fun _ => ?_)
      refine lv_iload_n hx hb dX8_first_25 rfl (lv_at hl 2 rfl) ?_
      refine lv_if_eq (tgt := 42) hx hb dX8_first_26 (by decide) (fun c_9 => absurd c_9 (by decide)) (fun _ => ?_)
      refine lv_aload_n hx hb dX8_first_29 rfl (lv_at hl 0 rfl) ?_
      refine va_get (D := (dC, dI)) (ci := 8) (v := .ref (b 39)) (C := RX8) (T := TX8) (N := 49) hx hb hw zz_inX8 hown hK hP 0 rfl rfl 38 (by decide) (hw _ tw_415) (fun _ h9 => h9) rfl dX8_first_30 ?_
      refine lv_iload hx hb dX8_first_33 (lv_at hl 4 rfl) ?_
      refine zz_seti (nI (wv - 1)) (zz_predN (by omega)) ?_
      refine va_iald hx hb hK hP 1 0 rfl rfl (vp_in_iff.mpr (by rw [zz_toInt (wv - 1) (by omega)]; constructor <;> omega)) dX8_first_35 ?_
      refine zz_seti (nz (wv - 1)) (congrArg nz (zz_cl (by omega))) ?_
      refine lv_if_ge (tgt := 57) hx hb dX8_first_36 (by decide) (fun c_3 => ?_) (fun c_3 => ?_)
      · have zc_3 := c_3
        rw [Int32.le_iff_toInt_le] at zc_3
        try rw [show (0 : Int32).toInt = 0 from by decide] at zc_3
        refine lv_iload_n hx hb dX8_first_57 rfl (lv_at hl 3 rfl) ?_
        refine lv_istore_n (lv' := [(3, .int y), (0, .ref (b 0)), (1, .int (nI sx)), (2, .int 1), (4, .int ((nI wv) - 1))]) hx hb dX8_first_58 rfl hl (by decide) rfl (fun ls hl => ?_)
        refine lv_iinc (v := (nI (wv - 1)) - 1) (lv' := [(4, .int ((nI (wv - 1)) - 1)), (3, .int y), (0, .ref (b 0)), (1, .int (nI sx)), (2, .int 1)]) hx hb dX8_first_59 hl (k := 4) rfl (zz_iw (by omega)) (by decide) rfl (fun ls hl => ?_)
        refine lv_goto (tgt := 10) hx hb dX8_first_62 (by decide) ?_
        exact ih_10 ((wv - 1), y) ⟨by omega, zz_f3_no iy (by omega) (fun h9 => by first | exact absurd h9.1 (by rw [hb_2]; decide) | exact absurd h9.2 (by omega))⟩ (show (wv - 1) < wv from by omega) _ _ _ (hP.sub [0, 1] rfl) (hD.sub [0, 1] (by decide) rfl) hS (lv_sub hl [2, 3, 4, 1, 0] rfl)
      · have zc_3 := c_3
        rw [Int32.le_iff_toInt_le] at zc_3
        try rw [show (0 : Int32).toInt = 0 from by decide] at zc_3
        refine lv_goto (tgt := 52) hx hb dX8_first_39 (by decide) ?_
        refine lv_iload hx hb dX8_first_52 (lv_at hl 4 rfl) ?_
        refine zz_seti (nI (wv - 1)) (zz_predN (by omega)) ?_
        refine lv_goto (tgt := 58) hx hb dX8_first_54 (by decide) ?_
        refine lv_istore_n (lv' := [(3, .int (nI (wv - 1))), (0, .ref (b 0)), (1, .int (nI sx)), (2, .int 1), (4, .int ((nI wv) - 1))]) hx hb dX8_first_58 rfl hl (by decide) rfl (fun ls hl => ?_)
        refine lv_iinc (v := (nI (wv - 1)) - 1) (lv' := [(4, .int ((nI (wv - 1)) - 1)), (3, .int (nI (wv - 1))), (0, .ref (b 0)), (1, .int (nI sx)), (2, .int 1)]) hx hb dX8_first_59 hl (k := 4) rfl (zz_iw (by omega)) (by decide) rfl (fun ls hl => ?_)
        refine lv_goto (tgt := 10) hx hb dX8_first_62 (by decide) ?_
        exact ih_10 ((wv - 1), (nI (wv - 1))) ⟨by omega, zz_f3_yes (by omega) (by omega) ⟨hb_2, by omega⟩⟩ (show (wv - 1) < wv from by omega) _ _ _ (hP.sub [0, 1] rfl) (hD.sub [0, 1] (by decide) rfl) hS (lv_sub hl [2, 3, 4, 1, 0] rfl)
    · refine zz_seti 0 eb_2 ?_
      refine lv_iconst (v := 1) hx hb dX8_first_21 (by decide) ?_
      refine lv_icmp_ne (tgt := 57) hx hb dX8_first_22 (by decide) (fun _ => ?_) (fun c_9 => absurd c_9 (by decide))
      refine lv_iload_n hx hb dX8_first_57 rfl (lv_at hl 3 rfl) ?_
      refine lv_istore_n (lv' := [(3, .int y), (0, .ref (b 0)), (1, .int (nI sx)), (2, .int 1), (4, .int ((nI wv) - 1))]) hx hb dX8_first_58 rfl hl (by decide) rfl (fun ls hl => ?_)
      refine lv_iinc (v := (nI (wv - 1)) - 1) (lv' := [(4, .int ((nI (wv - 1)) - 1)), (3, .int y), (0, .ref (b 0)), (1, .int (nI sx)), (2, .int 1)]) hx hb dX8_first_59 hl (k := 4) rfl (zz_iw (by omega)) (by decide) rfl (fun ls hl => ?_)
      refine lv_goto (tgt := 10) hx hb dX8_first_62 (by decide) ?_
      exact ih_10 ((wv - 1), y) ⟨by omega, zz_f3_no iy (by omega) (fun h9 => by first | exact absurd h9.1 (by rw [hb_2]; decide) | exact absurd h9.2 (by omega))⟩ (show (wv - 1) < wv from by omega) _ _ _ (hP.sub [0, 1] rfl) (hD.sub [0, 1] (by decide) rfl) hS (lv_sub hl [2, 3, 4, 1, 0] rfl)
set_option maxHeartbeats 4000000 in
set_option maxRecDepth 100000 in
theorem mx_firstA (l : Launch) (dC : Nat → ClassId) (dI : Nat → Nat → Nat) (b : Nat → Nat) (gg : Nat → Int32) (mt : Nat) (mc : Nat) (mh : Nat) (mf : Nat) (md : Nat) (pn : Nat) (cI : ClassId) (nz : Nat → Int32) (sx : Nat) (sz : Nat) (hmh : mh ≤ 8) (hsx : sx < 256) : Met l yX8_first (zz_w yX8_first cX8_first 5 (some .int)) ({ frames := 0, cells := 0, slots := 0, locals := 0 }) (va_Pc [.ref (b 0), .int (nI sx), .int 0] (zz_B (dC, dI) sz [(b 0, .inr (8, [.ref (b 1), .int (nI mt), .int (gg 2), .int (gg 3), .int (gg 4), .int (gg 5), .int (gg 6), .int (gg 7), .int (gg 8), .int (gg 9), .ref (b 11), .ref (b 12), .ref (b 13), .int (nI mc), .int (nI mh), .ref (b 16), .ref (b 17), .ref (b 18), .ref (b 19), .ref (b 20), .ref (b 21), .ref (b 22), .ref (b 23), .ref (b 24), .int (nI mf), .ref (b 26), .ref (b 27), .ref (b 28), .ref (b 29), .ref (b 30), .ref (b 31), .ref (b 32), .int (gg 32), .int (nI md), .ref (b 35), .ref (b 36), .ref (b 37), .ref (b 38), .ref (b 39), .ref (b 40), .int (nI pn), .ref (b 42), .ref (b 43), .ref (b 44), .int (gg 44), .ref (b 46), .ref (b 47), .int (gg 47), .ref (b 49)])), (b 39, .inl (cI, 8, .inl nz))] [(cI, .int)])) (va_Qi (fun (r : Int32) (_ : Unit) => zz_f3 (zz_pa nz sx) r 0 mh) (fun _ _ => True) (va_A [] sz)) 0 0 (va_A [] sz) := by
  refine Met.ofW (cc := cX8_first) (maxL := 5) (ret := (some .int)) (by decide) rfl ?_
  intro p e s m args below meth c s₁ B hml hv
  obtain ⟨rfl, hsz, hP, hK, hD0, hN⟩ := hv
  have hx := B.exec
  have hb := B.bytes
  have hr := B.returns
  have hts := atoms_spec (ws := zz_w yX8_first cX8_first 5 (some .int)) B.pre
  have hw : ∀ w ∈ zz_all, w.before _ s = true := fun w h => hts w (List.mem_cons_of_mem _ h)
  have hown : s.vm.findClass RX8 = some m.cls := findClass_of_methodNamed B.named
  have hlocks := B.notSynchronized
  subst hsz
  have hD := hD0
  generalize hAe : va_A [] s.heap.size = A
  have hA : ∀ q : Nat, s.heap.size ≤ q → A q := fun q h => by rw [← hAe]; exact Or.inr h
  have hS : va_S A s.heap s.heap [] := va_S.rf
  have hP : va_P (dC, dI) vwCl [(b 0, .inr (8, [.ref (b 1), .int (nI mt), .int (gg 2), .int (gg 3), .int (gg 4), .int (gg 5), .int (gg 6), .int (gg 7), .int (gg 8), .int (gg 9), .ref (b 11), .ref (b 12), .ref (b 13), .int (nI mc), .int (nI mh), .ref (b 16), .ref (b 17), .ref (b 18), .ref (b 19), .ref (b 20), .ref (b 21), .ref (b 22), .ref (b 23), .ref (b 24), .int (nI mf), .ref (b 26), .ref (b 27), .ref (b 28), .ref (b 29), .ref (b 30), .ref (b 31), .ref (b 32), .int (gg 32), .int (nI md), .ref (b 35), .ref (b 36), .ref (b 37), .ref (b 38), .ref (b 39), .ref (b 40), .int (nI pn), .ref (b 42), .ref (b 43), .ref (b 44), .int (gg 44), .ref (b 46), .ref (b 47), .int (gg 47), .ref (b 49)])), (b 39, .inl (cI, 8, .inl nz))] s.heap := hP
  have hl := lv_entry ([.ref (b 0), .int (nI sx), .int 0]) (n := 5) (Nat.le_of_ble_eq_true rfl)
  rw [lg_entry_eq]
  generalize (lg_sl ([.ref (b 0), .int (nI sx), .int 0]) ++ List.replicate (5 - (lg_sl ([.ref (b 0), .int (nI sx), .int 0])).length) Slot.unset).toArray = ls at hl ⊢
  have hl : lv_has ls 5 [(0, .ref (b 0)), (1, .int (nI sx)), (2, .int 0)] := hl
  refine lv_iconst (v := (-1)) hx hb dX8_first_0 (by decide) ?_
  refine lv_istore_n (lv' := [(3, .int (-1)), (0, .ref (b 0)), (1, .int (nI sx)), (2, .int 0)]) hx hb dX8_first_1 rfl hl (by decide) rfl (fun ls hl => ?_)
  refine lv_aload_n hx hb dX8_first_2 rfl (lv_at hl 1 rfl) ?_
  refine va_get (D := (dC, dI)) (ci := 8) (v := .int (nI mh)) (C := RX8) (T := TX8) (N := 49) hx hb hw zz_inX8 hown hK hP 0 rfl rfl 14 (by decide) (hw _ tw_182) (fun _ h9 => h9) rfl dX8_first_3 ?_
  refine lv_iconst (v := 1) hx hb dX8_first_6 (by decide) ?_
  refine lv_isub hx hb dX8_first_7 ?_
  refine lv_istore (lv' := [(4, .int ((nI mh) - 1)), (3, .int (-1)), (0, .ref (b 0)), (1, .int (nI sx)), (2, .int 0)]) hx hb dX8_first_8 hl (by decide) rfl (fun ls hl => ?_)
  refine zz_loopS (fun (u : (Nat) × (Int32)) => match u with | (wv, y) => [(b 0, .inr (8, [.ref (b 1), .int (nI mt), .int (gg 2), .int (gg 3), .int (gg 4), .int (gg 5), .int (gg 6), .int (gg 7), .int (gg 8), .int (gg 9), .ref (b 11), .ref (b 12), .ref (b 13), .int (nI mc), .int (nI mh), .ref (b 16), .ref (b 17), .ref (b 18), .ref (b 19), .ref (b 20), .ref (b 21), .ref (b 22), .ref (b 23), .ref (b 24), .int (nI mf), .ref (b 26), .ref (b 27), .ref (b 28), .ref (b 29), .ref (b 30), .ref (b 31), .ref (b 32), .int (gg 32), .int (nI md), .ref (b 35), .ref (b 36), .ref (b 37), .ref (b 38), .ref (b 39), .ref (b 40), .int (nI pn), .ref (b 42), .ref (b 43), .ref (b 44), .int (gg 44), .ref (b 46), .ref (b 47), .int (gg 47), .ref (b 49)])), (b 39, .inl (cI, 8, .inl nz))]) (fun (u : (Nat) × (Int32)) => match u with | (wv, y) => [(0, .ref (b 0)), (1, .int (nI sx)), (2, .int 0), (3, .int y), (4, .int ((nI wv) - 1))]) (fun (u : (Nat) × (Int32)) => match u with | (wv, y) => wv ≤ mh ∧ zz_f3 (zz_pa nz sx) y wv mh) (fun (u : (Nat) × (Int32)) => match u with | (wv, y) => wv) (fun u hI H locs ls hP hD hS hl ih_10 => ?_) (mh, (-1)) ⟨by omega, zz_f3_0⟩ _ _ _ (hP.sub [0, 1] rfl) (hD.sub [0, 1] (by decide) rfl) hS (lv_sub hl [2, 3, 4, 1, 0] rfl)
  obtain ⟨wv, y⟩ := u
  obtain ⟨hP, hD⟩ := zz_ty (D := (dC, dI)) (cl := vwCl) (A := (fun _ => True)) (H := H) [(b 0, .inr (8, [.ref (b 1), .int (nI mt), .int (gg 2), .int (gg 3), .int (gg 4), .int (gg 5), .int (gg 6), .int (gg 7), .int (gg 8), .int (gg 9), .ref (b 11), .ref (b 12), .ref (b 13), .int (nI mc), .int (nI mh), .ref (b 16), .ref (b 17), .ref (b 18), .ref (b 19), .ref (b 20), .ref (b 21), .ref (b 22), .ref (b 23), .ref (b 24), .int (nI mf), .ref (b 26), .ref (b 27), .ref (b 28), .ref (b 29), .ref (b 30), .ref (b 31), .ref (b 32), .int (gg 32), .int (nI md), .ref (b 35), .ref (b 36), .ref (b 37), .ref (b 38), .ref (b 39), .ref (b 40), .int (nI pn), .ref (b 42), .ref (b 43), .ref (b 44), .int (gg 44), .ref (b 46), .ref (b 47), .int (gg 47), .ref (b 49)])), (b 39, .inl (cI, 8, .inl nz))] hP hD rfl
  have hl : lv_has ls 5 [(0, .ref (b 0)), (1, .int (nI sx)), (2, .int 0), (3, .int y), (4, .int ((nI wv) - 1))] := hl
  have hI : wv ≤ mh ∧ zz_f3 (zz_pa nz sx) y wv mh := hI
  obtain ⟨iw, iy⟩ := hI
  refine lv_iload hx hb dX8_first_10 (lv_at hl 4 rfl) ?_
  refine lv_if_lt (tgt := 65) hx hb dX8_first_12 (by decide) (fun c_1 => ?_) (fun c_1 => ?_)
  · have zc_1 := c_1
    rw [Int32.lt_iff_toInt_lt] at zc_1
    try rw [zz_pred (c := wv) (by omega)] at zc_1
    try rw [show (0 : Int32).toInt = 0 from by decide] at zc_1
    refine lv_iload_n hx hb dX8_first_65 rfl (lv_at hl 3 rfl) ?_
    exact W.iret (v := y) hx hb hr (fun t ht hW => ⟨⟨y, (), rfl, (by rw [show wv = 0 from by omega] at iy; exact iy), trivial⟩, hS.F ht⟩) hS.2.2 dX8_first_66
  · have zc_1 := c_1
    rw [Int32.lt_iff_toInt_lt] at zc_1
    try rw [zz_pred (c := wv) (by omega)] at zc_1
    try rw [show (0 : Int32).toInt = 0 from by decide] at zc_1
    refine lv_iload_n hx hb dX8_first_15 rfl (lv_at hl 1 rfl) ?_
    refine lv_iload hx hb dX8_first_16 (lv_at hl 4 rfl) ?_
    refine zz_seti (nI (wv - 1)) (zz_predN (by omega)) ?_
    refine lv_ishr hx hb dX8_first_18 ?_
    refine lv_iconst (v := 1) hx hb dX8_first_19 (by decide) ?_
    refine lv_iand hx hb dX8_first_20 ?_
    rcases zz_bitc sx (by omega) (wv - 1) (by omega) with ⟨hb_2, eb_2⟩ | ⟨hb_2, eb_2⟩
    · refine zz_seti 1 eb_2 ?_
      refine lv_iconst (v := 1) hx hb dX8_first_21 (by decide) ?_
      refine lv_icmp_ne (tgt := 57) hx hb dX8_first_22 (by decide) (fun c_9 => absurd c_9 (by decide)) (fun _ => ?_)
      refine lv_iload_n hx hb dX8_first_25 rfl (lv_at hl 2 rfl) ?_
      refine lv_if_eq (tgt := 42) hx hb dX8_first_26 (by decide) (fun _ => ?_) (fun c_9 => absurd c_9 (by decide))
      refine lv_aload_n hx hb dX8_first_42 rfl (lv_at hl 0 rfl) ?_
      refine va_get (D := (dC, dI)) (ci := 8) (v := .ref (b 39)) (C := RX8) (T := TX8) (N := 49) hx hb hw zz_inX8 hown hK hP 0 rfl rfl 38 (by decide) (hw _ tw_415) (fun _ h9 => h9) rfl dX8_first_43 ?_
      refine lv_iload hx hb dX8_first_46 (lv_at hl 4 rfl) ?_
      refine zz_seti (nI (wv - 1)) (zz_predN (by omega)) ?_
      refine va_iald hx hb hK hP 1 0 rfl rfl (vp_in_iff.mpr (by rw [zz_toInt (wv - 1) (by omega)]; constructor <;> omega)) dX8_first_48 ?_
      refine zz_seti (nz (wv - 1)) (congrArg nz (zz_cl (by omega))) ?_
      refine lv_if_le (tgt := 57) hx hb dX8_first_49 (by decide) (fun c_3 => ?_) (fun c_3 => ?_)
      · have zc_3 := c_3
        rw [Int32.le_iff_toInt_le] at zc_3
        try rw [show (0 : Int32).toInt = 0 from by decide] at zc_3
        refine lv_iload_n hx hb dX8_first_57 rfl (lv_at hl 3 rfl) ?_
        refine lv_istore_n (lv' := [(3, .int y), (0, .ref (b 0)), (1, .int (nI sx)), (2, .int 0), (4, .int ((nI wv) - 1))]) hx hb dX8_first_58 rfl hl (by decide) rfl (fun ls hl => ?_)
        refine lv_iinc (v := (nI (wv - 1)) - 1) (lv' := [(4, .int ((nI (wv - 1)) - 1)), (3, .int y), (0, .ref (b 0)), (1, .int (nI sx)), (2, .int 0)]) hx hb dX8_first_59 hl (k := 4) rfl (zz_iw (by omega)) (by decide) rfl (fun ls hl => ?_)
        refine lv_goto (tgt := 10) hx hb dX8_first_62 (by decide) ?_
        exact ih_10 ((wv - 1), y) ⟨by omega, zz_f3_no iy (by omega) (fun h9 => by first | exact absurd h9.1 (by rw [hb_2]; decide) | exact absurd h9.2 (by omega))⟩ (show (wv - 1) < wv from by omega) _ _ _ (hP.sub [0, 1] rfl) (hD.sub [0, 1] (by decide) rfl) hS (lv_sub hl [2, 3, 4, 1, 0] rfl)
      · have zc_3 := c_3
        rw [Int32.le_iff_toInt_le] at zc_3
        try rw [show (0 : Int32).toInt = 0 from by decide] at zc_3
        refine lv_iload hx hb dX8_first_52 (lv_at hl 4 rfl) ?_
        refine zz_seti (nI (wv - 1)) (zz_predN (by omega)) ?_
        refine lv_goto (tgt := 58) hx hb dX8_first_54 (by decide) ?_
        refine lv_istore_n (lv' := [(3, .int (nI (wv - 1))), (0, .ref (b 0)), (1, .int (nI sx)), (2, .int 0), (4, .int ((nI wv) - 1))]) hx hb dX8_first_58 rfl hl (by decide) rfl (fun ls hl => ?_)
        refine lv_iinc (v := (nI (wv - 1)) - 1) (lv' := [(4, .int ((nI (wv - 1)) - 1)), (3, .int (nI (wv - 1))), (0, .ref (b 0)), (1, .int (nI sx)), (2, .int 0)]) hx hb dX8_first_59 hl (k := 4) rfl (zz_iw (by omega)) (by decide) rfl (fun ls hl => ?_)
        refine lv_goto (tgt := 10) hx hb dX8_first_62 (by decide) ?_
        exact ih_10 ((wv - 1), (nI (wv - 1))) ⟨by omega, zz_f3_yes (by omega) (by omega) ⟨hb_2, by omega⟩⟩ (show (wv - 1) < wv from by omega) _ _ _ (hP.sub [0, 1] rfl) (hD.sub [0, 1] (by decide) rfl) hS (lv_sub hl [2, 3, 4, 1, 0] rfl)
    · refine zz_seti 0 eb_2 ?_
      refine lv_iconst (v := 1) hx hb dX8_first_21 (by decide) ?_
      refine lv_icmp_ne (tgt := 57) hx hb dX8_first_22 (by decide) (fun _ => ?_) (fun c_9 => absurd c_9 (by decide))
      refine lv_iload_n hx hb dX8_first_57 rfl (lv_at hl 3 rfl) ?_
      refine lv_istore_n (lv' := [(3, .int y), (0, .ref (b 0)), (1, .int (nI sx)), (2, .int 0), (4, .int ((nI wv) - 1))]) hx hb dX8_first_58 rfl hl (by decide) rfl (fun ls hl => ?_)
      refine lv_iinc (v := (nI (wv - 1)) - 1) (lv' := [(4, .int ((nI (wv - 1)) - 1)), (3, .int y), (0, .ref (b 0)), (1, .int (nI sx)), (2, .int 0)]) hx hb dX8_first_59 hl (k := 4) rfl (zz_iw (by omega)) (by decide) rfl (fun ls hl => ?_)
      refine lv_goto (tgt := 10) hx hb dX8_first_62 (by decide) ?_
      exact ih_10 ((wv - 1), y) ⟨by omega, zz_f3_no iy (by omega) (fun h9 => by first | exact absurd h9.1 (by rw [hb_2]; decide) | exact absurd h9.2 (by omega))⟩ (show (wv - 1) < wv from by omega) _ _ _ (hP.sub [0, 1] rfl) (hD.sub [0, 1] (by decide) rfl) hS (lv_sub hl [2, 3, 4, 1, 0] rfl)
set_option maxHeartbeats 4000000 in
set_option maxRecDepth 100000 in
theorem mx_parts (l : Launch) (dC : Nat → ClassId) (dI : Nat → Nat → Nat) (b : Nat → Nat) (gg : Nat → Int32) (mt : Nat) (mc : Nat) (mh : Nat) (mf : Nat) (md : Nat) (pn : Nat) (cI : ClassId) (nz : Nat → Int32) (gr : Nat → Int32) (sx : Nat) (sz : Nat) (hmh : mh ≤ 8) (hsx : sx < 256) : Met l yX8_parts (zz_w yX8_parts cX8_parts 5 none) ({ frames := 1, cells := 0, slots := 0, locals := 23 }) (va_Pc [.ref (b 0), .int (nI sx)] (zz_B (dC, dI) sz [(b 0, .inr (8, [.ref (b 1), .int (nI mt), .int (gg 2), .int (gg 3), .int (gg 4), .int (gg 5), .int (gg 6), .int (gg 7), .int (gg 8), .int (gg 9), .ref (b 11), .ref (b 12), .ref (b 13), .int (nI mc), .int (nI mh), .ref (b 16), .ref (b 17), .ref (b 18), .ref (b 19), .ref (b 20), .ref (b 21), .ref (b 22), .ref (b 23), .ref (b 24), .int (nI mf), .ref (b 26), .ref (b 27), .ref (b 28), .ref (b 29), .ref (b 30), .ref (b 31), .ref (b 32), .int (gg 32), .int (nI md), .ref (b 35), .ref (b 36), .ref (b 37), .ref (b 38), .ref (b 39), .ref (b 40), .int (nI pn), .ref (b 42), .ref (b 43), .ref (b 44), .int (gg 44), .ref (b 46), .ref (b 47), .int (gg 47), .ref (b 49)])), (b 39, .inl (cI, 8, .inl nz)), (b 40, .inl (cI, 256, .inl gr))] [(cI, .int)])) (va_Qv (fun (g2 : Nat → Int32) => zz_gp3 nz g2 mh sx (sx + 1)) (fun (u0 : Nat → Int32) (t : State) => va_P (dC, dI) vwCl [(b 0, .inr (8, [.ref (b 1), .int (nI mt), .int (gg 2), .int (gg 3), .int (gg 4), .int (gg 5), .int (gg 6), .int (gg 7), .int (gg 8), .int (gg 9), .ref (b 11), .ref (b 12), .ref (b 13), .int (nI mc), .int (nI mh), .ref (b 16), .ref (b 17), .ref (b 18), .ref (b 19), .ref (b 20), .ref (b 21), .ref (b 22), .ref (b 23), .ref (b 24), .int (nI mf), .ref (b 26), .ref (b 27), .ref (b 28), .ref (b 29), .ref (b 30), .ref (b 31), .ref (b 32), .int (gg 32), .int (nI md), .ref (b 35), .ref (b 36), .ref (b 37), .ref (b 38), .ref (b 39), .ref (b 40), .int (nI pn), .ref (b 42), .ref (b 43), .ref (b 44), .int (gg 44), .ref (b 46), .ref (b 47), .int (gg 47), .ref (b 49)])), (b 39, .inl (cI, 8, .inl nz)), (b 40, .inl (cI, 256, .inl u0))] t.heap ∧ va_K (dC, dI) vwCl [(cI, .int)] t ∧ va_D (va_A [(b 0, .inr (8, [.ref (b 1), .int (nI mt), .int (gg 2), .int (gg 3), .int (gg 4), .int (gg 5), .int (gg 6), .int (gg 7), .int (gg 8), .int (gg 9), .ref (b 11), .ref (b 12), .ref (b 13), .int (nI mc), .int (nI mh), .ref (b 16), .ref (b 17), .ref (b 18), .ref (b 19), .ref (b 20), .ref (b 21), .ref (b 22), .ref (b 23), .ref (b 24), .int (nI mf), .ref (b 26), .ref (b 27), .ref (b 28), .ref (b 29), .ref (b 30), .ref (b 31), .ref (b 32), .int (gg 32), .int (nI md), .ref (b 35), .ref (b 36), .ref (b 37), .ref (b 38), .ref (b 39), .ref (b 40), .int (nI pn), .ref (b 42), .ref (b 43), .ref (b 44), .int (gg 44), .ref (b 46), .ref (b 47), .int (gg 47), .ref (b 49)])), (b 39, .inl (cI, 8, .inl nz)), (b 40, .inl (cI, 256, .inl gr))] sz) [(b 0, .inr (8, [.ref (b 1), .int (nI mt), .int (gg 2), .int (gg 3), .int (gg 4), .int (gg 5), .int (gg 6), .int (gg 7), .int (gg 8), .int (gg 9), .ref (b 11), .ref (b 12), .ref (b 13), .int (nI mc), .int (nI mh), .ref (b 16), .ref (b 17), .ref (b 18), .ref (b 19), .ref (b 20), .ref (b 21), .ref (b 22), .ref (b 23), .ref (b 24), .int (nI mf), .ref (b 26), .ref (b 27), .ref (b 28), .ref (b 29), .ref (b 30), .ref (b 31), .ref (b 32), .int (gg 32), .int (nI md), .ref (b 35), .ref (b 36), .ref (b 37), .ref (b 38), .ref (b 39), .ref (b 40), .int (nI pn), .ref (b 42), .ref (b 43), .ref (b 44), .int (gg 44), .ref (b 46), .ref (b 47), .int (gg 47), .ref (b 49)])), (b 39, .inl (cI, 8, .inl nz)), (b 40, .inl (cI, 256, .inl u0))]) (va_A [(b 0, .inr (8, [.ref (b 1), .int (nI mt), .int (gg 2), .int (gg 3), .int (gg 4), .int (gg 5), .int (gg 6), .int (gg 7), .int (gg 8), .int (gg 9), .ref (b 11), .ref (b 12), .ref (b 13), .int (nI mc), .int (nI mh), .ref (b 16), .ref (b 17), .ref (b 18), .ref (b 19), .ref (b 20), .ref (b 21), .ref (b 22), .ref (b 23), .ref (b 24), .int (nI mf), .ref (b 26), .ref (b 27), .ref (b 28), .ref (b 29), .ref (b 30), .ref (b 31), .ref (b 32), .int (gg 32), .int (nI md), .ref (b 35), .ref (b 36), .ref (b 37), .ref (b 38), .ref (b 39), .ref (b 40), .int (nI pn), .ref (b 42), .ref (b 43), .ref (b 44), .int (gg 44), .ref (b 46), .ref (b 47), .int (gg 47), .ref (b 49)])), (b 39, .inl (cI, 8, .inl nz)), (b 40, .inl (cI, 256, .inl gr))] sz)) 0 0 (va_A [(b 0, .inr (8, [.ref (b 1), .int (nI mt), .int (gg 2), .int (gg 3), .int (gg 4), .int (gg 5), .int (gg 6), .int (gg 7), .int (gg 8), .int (gg 9), .ref (b 11), .ref (b 12), .ref (b 13), .int (nI mc), .int (nI mh), .ref (b 16), .ref (b 17), .ref (b 18), .ref (b 19), .ref (b 20), .ref (b 21), .ref (b 22), .ref (b 23), .ref (b 24), .int (nI mf), .ref (b 26), .ref (b 27), .ref (b 28), .ref (b 29), .ref (b 30), .ref (b 31), .ref (b 32), .int (gg 32), .int (nI md), .ref (b 35), .ref (b 36), .ref (b 37), .ref (b 38), .ref (b 39), .ref (b 40), .int (nI pn), .ref (b 42), .ref (b 43), .ref (b 44), .int (gg 44), .ref (b 46), .ref (b 47), .int (gg 47), .ref (b 49)])), (b 39, .inl (cI, 8, .inl nz)), (b 40, .inl (cI, 256, .inl gr))] sz) := by
  refine Met.ofW (cc := cX8_parts) (maxL := 5) (ret := none) (by decide) rfl ?_
  intro p e s m args below meth c s₁ B hml hv
  obtain ⟨rfl, hsz, hP, hK, hD0, hN⟩ := hv
  have hx := B.exec
  have hb := B.bytes
  have hr := B.returns
  have hts := atoms_spec (ws := zz_w yX8_parts cX8_parts 5 none) B.pre
  have hw : ∀ w ∈ zz_all, w.before _ s = true := fun w h => hts w (List.mem_cons_of_mem _ h)
  have hown : s.vm.findClass RX8 = some m.cls := findClass_of_methodNamed B.named
  have hlocks := B.notSynchronized
  subst hsz
  have hD := hD0.self (sz := s.heap.size)
  generalize hAe : va_A [(b 0, .inr (8, [.ref (b 1), .int (nI mt), .int (gg 2), .int (gg 3), .int (gg 4), .int (gg 5), .int (gg 6), .int (gg 7), .int (gg 8), .int (gg 9), .ref (b 11), .ref (b 12), .ref (b 13), .int (nI mc), .int (nI mh), .ref (b 16), .ref (b 17), .ref (b 18), .ref (b 19), .ref (b 20), .ref (b 21), .ref (b 22), .ref (b 23), .ref (b 24), .int (nI mf), .ref (b 26), .ref (b 27), .ref (b 28), .ref (b 29), .ref (b 30), .ref (b 31), .ref (b 32), .int (gg 32), .int (nI md), .ref (b 35), .ref (b 36), .ref (b 37), .ref (b 38), .ref (b 39), .ref (b 40), .int (nI pn), .ref (b 42), .ref (b 43), .ref (b 44), .int (gg 44), .ref (b 46), .ref (b 47), .int (gg 47), .ref (b 49)])), (b 39, .inl (cI, 8, .inl nz)), (b 40, .inl (cI, 256, .inl gr))] s.heap.size = A at hD ⊢
  have hA : ∀ q : Nat, s.heap.size ≤ q → A q := fun q h => by rw [← hAe]; exact Or.inr h
  have hS : va_S A s.heap s.heap [] := va_S.rf
  have hP : va_P (dC, dI) vwCl [(b 0, .inr (8, [.ref (b 1), .int (nI mt), .int (gg 2), .int (gg 3), .int (gg 4), .int (gg 5), .int (gg 6), .int (gg 7), .int (gg 8), .int (gg 9), .ref (b 11), .ref (b 12), .ref (b 13), .int (nI mc), .int (nI mh), .ref (b 16), .ref (b 17), .ref (b 18), .ref (b 19), .ref (b 20), .ref (b 21), .ref (b 22), .ref (b 23), .ref (b 24), .int (nI mf), .ref (b 26), .ref (b 27), .ref (b 28), .ref (b 29), .ref (b 30), .ref (b 31), .ref (b 32), .int (gg 32), .int (nI md), .ref (b 35), .ref (b 36), .ref (b 37), .ref (b 38), .ref (b 39), .ref (b 40), .int (nI pn), .ref (b 42), .ref (b 43), .ref (b 44), .int (gg 44), .ref (b 46), .ref (b 47), .int (gg 47), .ref (b 49)])), (b 39, .inl (cI, 8, .inl nz)), (b 40, .inl (cI, 256, .inl gr))] s.heap := hP
  have hl := lv_entry ([.ref (b 0), .int (nI sx)]) (n := 5) (Nat.le_of_ble_eq_true rfl)
  rw [lg_entry_eq]
  generalize (lg_sl ([.ref (b 0), .int (nI sx)]) ++ List.replicate (5 - (lg_sl ([.ref (b 0), .int (nI sx)])).length) Slot.unset).toArray = ls at hl ⊢
  have hl : lv_has ls 5 [(0, .ref (b 0)), (1, .int (nI sx))] := hl
  refine lv_aload_n hx hb dX8_parts_0 rfl (lv_at hl 0 rfl) ?_
  refine va_get (D := (dC, dI)) (ci := 8) (v := .ref (b 40)) (C := RX8) (T := TX8) (N := 49) hx hb hw zz_inX8 hown hK hP 0 rfl rfl 39 (by decide) (hw _ tw_416) (fun _ h9 => h9) rfl dX8_parts_1 ?_
  refine lv_iconst (v := 0) hx hb dX8_parts_4 (by decide) ?_
  refine lv_iconst (v := 0) hx hb dX8_parts_5 (by decide) ?_
  refine va_iast hx hb hK hP hD hS 2 0 rfl rfl (zz_vin (by decide)) dX8_parts_6 (fun H locs hP hD hS => ?_)
  obtain ⟨hP, hD⟩ := zz_ty (D := (dC, dI)) (cl := vwCl) (A := A) (H := H) [(b 0, .inr (8, [.ref (b 1), .int (nI mt), .int (gg 2), .int (gg 3), .int (gg 4), .int (gg 5), .int (gg 6), .int (gg 7), .int (gg 8), .int (gg 9), .ref (b 11), .ref (b 12), .ref (b 13), .int (nI mc), .int (nI mh), .ref (b 16), .ref (b 17), .ref (b 18), .ref (b 19), .ref (b 20), .ref (b 21), .ref (b 22), .ref (b 23), .ref (b 24), .int (nI mf), .ref (b 26), .ref (b 27), .ref (b 28), .ref (b 29), .ref (b 30), .ref (b 31), .ref (b 32), .int (gg 32), .int (nI md), .ref (b 35), .ref (b 36), .ref (b 37), .ref (b 38), .ref (b 39), .ref (b 40), .int (nI pn), .ref (b 42), .ref (b 43), .ref (b 44), .int (gg 44), .ref (b 46), .ref (b 47), .int (gg 47), .ref (b 49)])), (b 39, .inl (cI, 8, .inl nz)), (b 40, .inl (cI, 256, .inl (upd gr (Int32.toNatClampNeg 0) 0)))] hP hD rfl
  refine lv_iconst (v := 1) hx hb dX8_parts_7 (by decide) ?_
  refine lv_istore_n (lv' := [(2, .int 1), (0, .ref (b 0)), (1, .int (nI sx))]) hx hb dX8_parts_8 rfl hl (by decide) rfl (fun ls hl => ?_)
  refine zz_loopS (fun (u : (Nat) × (Nat → Int32)) => match u with | (xs, gx) => [(b 0, .inr (8, [.ref (b 1), .int (nI mt), .int (gg 2), .int (gg 3), .int (gg 4), .int (gg 5), .int (gg 6), .int (gg 7), .int (gg 8), .int (gg 9), .ref (b 11), .ref (b 12), .ref (b 13), .int (nI mc), .int (nI mh), .ref (b 16), .ref (b 17), .ref (b 18), .ref (b 19), .ref (b 20), .ref (b 21), .ref (b 22), .ref (b 23), .ref (b 24), .int (nI mf), .ref (b 26), .ref (b 27), .ref (b 28), .ref (b 29), .ref (b 30), .ref (b 31), .ref (b 32), .int (gg 32), .int (nI md), .ref (b 35), .ref (b 36), .ref (b 37), .ref (b 38), .ref (b 39), .ref (b 40), .int (nI pn), .ref (b 42), .ref (b 43), .ref (b 44), .int (gg 44), .ref (b 46), .ref (b 47), .int (gg 47), .ref (b 49)])), (b 39, .inl (cI, 8, .inl nz)), (b 40, .inl (cI, 256, .inl gx))]) (fun (u : (Nat) × (Nat → Int32)) => match u with | (xs, gx) => [(0, .ref (b 0)), (1, .int (nI sx)), (2, .int (nI xs))]) (fun (u : (Nat) × (Nat → Int32)) => match u with | (xs, gx) => 1 ≤ xs ∧ xs ≤ sx + 1 ∧ zz_gp3 nz gx mh sx xs) (fun (u : (Nat) × (Nat → Int32)) => match u with | (xs, gx) => sx + 1 - xs) (fun u hI H locs ls hP hD hS hl ih_9 => ?_) (1, (upd gr (Int32.toNatClampNeg 0) 0)) ⟨by omega, by omega, zz_gp3_1⟩ _ _ _ (hP.sub [0, 1, 2] rfl) (hD.sub [0, 1, 2] (by decide) rfl) hS (lv_sub hl [1, 2, 0] rfl)
  obtain ⟨xs, gx⟩ := u
  obtain ⟨hP, hD⟩ := zz_ty (D := (dC, dI)) (cl := vwCl) (A := A) (H := H) [(b 0, .inr (8, [.ref (b 1), .int (nI mt), .int (gg 2), .int (gg 3), .int (gg 4), .int (gg 5), .int (gg 6), .int (gg 7), .int (gg 8), .int (gg 9), .ref (b 11), .ref (b 12), .ref (b 13), .int (nI mc), .int (nI mh), .ref (b 16), .ref (b 17), .ref (b 18), .ref (b 19), .ref (b 20), .ref (b 21), .ref (b 22), .ref (b 23), .ref (b 24), .int (nI mf), .ref (b 26), .ref (b 27), .ref (b 28), .ref (b 29), .ref (b 30), .ref (b 31), .ref (b 32), .int (gg 32), .int (nI md), .ref (b 35), .ref (b 36), .ref (b 37), .ref (b 38), .ref (b 39), .ref (b 40), .int (nI pn), .ref (b 42), .ref (b 43), .ref (b 44), .int (gg 44), .ref (b 46), .ref (b 47), .int (gg 47), .ref (b 49)])), (b 39, .inl (cI, 8, .inl nz)), (b 40, .inl (cI, 256, .inl gx))] hP hD rfl
  have hl : lv_has ls 5 [(0, .ref (b 0)), (1, .int (nI sx)), (2, .int (nI xs))] := hl
  have hI : 1 ≤ xs ∧ xs ≤ sx + 1 ∧ zz_gp3 nz gx mh sx xs := hI
  obtain ⟨ix1, ix2, ig⟩ := hI
  refine lv_iload_n hx hb dX8_parts_9 rfl (lv_at hl 2 rfl) ?_
  refine lv_iload_n hx hb dX8_parts_10 rfl (lv_at hl 1 rfl) ?_
  refine lv_icmp_gt (tgt := 125) hx hb dX8_parts_11 (by decide) (fun c_1 => ?_) (fun c_1 => ?_)
  · have zc_1 := c_1
    rw [Int32.lt_iff_toInt_lt] at zc_1
    try rw [zz_toInt xs (by omega)] at zc_1
    try rw [zz_toInt sx (by omega)] at zc_1
    obtain ⟨hP9, hD9⟩ := zz_sub2 (ws' := [(b 0, .inr (8, [.ref (b 1), .int (nI mt), .int (gg 2), .int (gg 3), .int (gg 4), .int (gg 5), .int (gg 6), .int (gg 7), .int (gg 8), .int (gg 9), .ref (b 11), .ref (b 12), .ref (b 13), .int (nI mc), .int (nI mh), .ref (b 16), .ref (b 17), .ref (b 18), .ref (b 19), .ref (b 20), .ref (b 21), .ref (b 22), .ref (b 23), .ref (b 24), .int (nI mf), .ref (b 26), .ref (b 27), .ref (b 28), .ref (b 29), .ref (b 30), .ref (b 31), .ref (b 32), .int (gg 32), .int (nI md), .ref (b 35), .ref (b 36), .ref (b 37), .ref (b 38), .ref (b 39), .ref (b 40), .int (nI pn), .ref (b 42), .ref (b 43), .ref (b 44), .int (gg 44), .ref (b 46), .ref (b 47), .int (gg 47), .ref (b 49)])), (b 39, .inl (cI, 8, .inl nz)), (b 40, .inl (cI, 256, .inl gx))]) hP hD [0, 1, 2] (by decide) rfl
    have hK9 := hK.sub (tys' := [(cI, .int)]) [0] rfl
    exact W.vret hx hb hr (fun t ht hW => ⟨⟨(gx), rfl, (by rw [show sx + 1 = xs from by omega]; exact ig), by rw [ht]; exact hP9, va_K.moved hW.alike hK9, hD9⟩, hS.F ht⟩) hS.2.2 dX8_parts_125
  · have zc_1 := c_1
    rw [Int32.lt_iff_toInt_lt] at zc_1
    try rw [zz_toInt xs (by omega)] at zc_1
    try rw [zz_toInt sx (by omega)] at zc_1
    refine lv_aload_n hx hb dX8_parts_14 rfl (lv_at hl 0 rfl) ?_
    refine va_get (D := (dC, dI)) (ci := 8) (v := .ref (b 40)) (C := RX8) (T := TX8) (N := 49) hx hb hw zz_inX8 hown hK hP 0 rfl rfl 39 (by decide) (hw _ tw_416) (fun _ h9 => h9) rfl dX8_parts_15 ?_
    refine lv_iload_n hx hb dX8_parts_18 rfl (lv_at hl 2 rfl) ?_
    refine lv_iconst (v := (-1)) hx hb dX8_parts_19 (by decide) ?_
    refine va_iast hx hb hK hP hD hS 2 0 rfl rfl (vp_in_iff.mpr (by rw [zz_toInt xs (by omega)]; constructor <;> omega)) dX8_parts_20 (fun H locs hP hD hS => ?_)
    obtain ⟨hP, hD⟩ := zz_ty (D := (dC, dI)) (cl := vwCl) (A := A) (H := H) [(b 0, .inr (8, [.ref (b 1), .int (nI mt), .int (gg 2), .int (gg 3), .int (gg 4), .int (gg 5), .int (gg 6), .int (gg 7), .int (gg 8), .int (gg 9), .ref (b 11), .ref (b 12), .ref (b 13), .int (nI mc), .int (nI mh), .ref (b 16), .ref (b 17), .ref (b 18), .ref (b 19), .ref (b 20), .ref (b 21), .ref (b 22), .ref (b 23), .ref (b 24), .int (nI mf), .ref (b 26), .ref (b 27), .ref (b 28), .ref (b 29), .ref (b 30), .ref (b 31), .ref (b 32), .int (gg 32), .int (nI md), .ref (b 35), .ref (b 36), .ref (b 37), .ref (b 38), .ref (b 39), .ref (b 40), .int (nI pn), .ref (b 42), .ref (b 43), .ref (b 44), .int (gg 44), .ref (b 46), .ref (b 47), .int (gg 47), .ref (b 49)])), (b 39, .inl (cI, 8, .inl nz)), (b 40, .inl (cI, 256, .inl (upd gx (Int32.toNatClampNeg (nI xs)) (-1))))] hP hD rfl
    obtain ⟨g1, eg1⟩ : ∃ z : Nat → Int32, z = (upd gx (Int32.toNatClampNeg (nI xs)) (-1)) := ⟨_, rfl⟩
    have hP : va_P (dC, dI) vwCl [(b 0, .inr (8, [.ref (b 1), .int (nI mt), .int (gg 2), .int (gg 3), .int (gg 4), .int (gg 5), .int (gg 6), .int (gg 7), .int (gg 8), .int (gg 9), .ref (b 11), .ref (b 12), .ref (b 13), .int (nI mc), .int (nI mh), .ref (b 16), .ref (b 17), .ref (b 18), .ref (b 19), .ref (b 20), .ref (b 21), .ref (b 22), .ref (b 23), .ref (b 24), .int (nI mf), .ref (b 26), .ref (b 27), .ref (b 28), .ref (b 29), .ref (b 30), .ref (b 31), .ref (b 32), .int (gg 32), .int (nI md), .ref (b 35), .ref (b 36), .ref (b 37), .ref (b 38), .ref (b 39), .ref (b 40), .int (nI pn), .ref (b 42), .ref (b 43), .ref (b 44), .int (gg 44), .ref (b 46), .ref (b 47), .int (gg 47), .ref (b 49)])), (b 39, .inl (cI, 8, .inl nz)), (b 40, .inl (cI, 256, .inl g1))] H := by rw [eg1]; exact hP
    have hD : va_D A [(b 0, .inr (8, [.ref (b 1), .int (nI mt), .int (gg 2), .int (gg 3), .int (gg 4), .int (gg 5), .int (gg 6), .int (gg 7), .int (gg 8), .int (gg 9), .ref (b 11), .ref (b 12), .ref (b 13), .int (nI mc), .int (nI mh), .ref (b 16), .ref (b 17), .ref (b 18), .ref (b 19), .ref (b 20), .ref (b 21), .ref (b 22), .ref (b 23), .ref (b 24), .int (nI mf), .ref (b 26), .ref (b 27), .ref (b 28), .ref (b 29), .ref (b 30), .ref (b 31), .ref (b 32), .int (gg 32), .int (nI md), .ref (b 35), .ref (b 36), .ref (b 37), .ref (b 38), .ref (b 39), .ref (b 40), .int (nI pn), .ref (b 42), .ref (b 43), .ref (b 44), .int (gg 44), .ref (b 46), .ref (b 47), .int (gg 47), .ref (b 49)])), (b 39, .inl (cI, 8, .inl nz)), (b 40, .inl (cI, 256, .inl g1))] := by rw [eg1]; exact hD
    rw [zz_cl (by omega)] at eg1
    have hg1 : zz_gp3 nz g1 mh sx xs := by rw [eg1]; exact zz_gp3_upd ig (by omega)
    have hi1 : zz_gj nz g1 mh xs 1 := by rw [eg1]; exact zz_gj_0
    refine lv_iconst (v := 1) hx hb dX8_parts_21 (by decide) ?_
    refine lv_istore_n (lv' := [(3, .int 1), (0, .ref (b 0)), (1, .int (nI sx)), (2, .int (nI xs))]) hx hb dX8_parts_22 rfl hl (by decide) rfl (fun ls hl => ?_)
    refine zz_loopS (fun (u : (Nat) × (Nat → Int32)) => match u with | (pt, gi) => [(b 0, .inr (8, [.ref (b 1), .int (nI mt), .int (gg 2), .int (gg 3), .int (gg 4), .int (gg 5), .int (gg 6), .int (gg 7), .int (gg 8), .int (gg 9), .ref (b 11), .ref (b 12), .ref (b 13), .int (nI mc), .int (nI mh), .ref (b 16), .ref (b 17), .ref (b 18), .ref (b 19), .ref (b 20), .ref (b 21), .ref (b 22), .ref (b 23), .ref (b 24), .int (nI mf), .ref (b 26), .ref (b 27), .ref (b 28), .ref (b 29), .ref (b 30), .ref (b 31), .ref (b 32), .int (gg 32), .int (nI md), .ref (b 35), .ref (b 36), .ref (b 37), .ref (b 38), .ref (b 39), .ref (b 40), .int (nI pn), .ref (b 42), .ref (b 43), .ref (b 44), .int (gg 44), .ref (b 46), .ref (b 47), .int (gg 47), .ref (b 49)])), (b 39, .inl (cI, 8, .inl nz)), (b 40, .inl (cI, 256, .inl gi))]) (fun (u : (Nat) × (Nat → Int32)) => match u with | (pt, gi) => [(0, .ref (b 0)), (1, .int (nI sx)), (2, .int (nI xs)), (3, .int (nI pt))]) (fun (u : (Nat) × (Nat → Int32)) => match u with | (pt, gi) => 1 ≤ pt ∧ pt ≤ xs + 1 ∧ zz_gp3 nz gi mh sx xs ∧ zz_gj nz gi mh xs pt) (fun (u : (Nat) × (Nat → Int32)) => match u with | (pt, gi) => xs + 1 - pt) (fun u hI H locs ls hP hD hS hl ih_23 => ?_) (1, g1) ⟨by omega, by omega, hg1, hi1⟩ _ _ _ (hP.sub [0, 1, 2] rfl) (hD.sub [0, 1, 2] (by decide) rfl) hS (lv_sub hl [1, 2, 3, 0] rfl)
    obtain ⟨pt, gi⟩ := u
    obtain ⟨hP, hD⟩ := zz_ty (D := (dC, dI)) (cl := vwCl) (A := A) (H := H) [(b 0, .inr (8, [.ref (b 1), .int (nI mt), .int (gg 2), .int (gg 3), .int (gg 4), .int (gg 5), .int (gg 6), .int (gg 7), .int (gg 8), .int (gg 9), .ref (b 11), .ref (b 12), .ref (b 13), .int (nI mc), .int (nI mh), .ref (b 16), .ref (b 17), .ref (b 18), .ref (b 19), .ref (b 20), .ref (b 21), .ref (b 22), .ref (b 23), .ref (b 24), .int (nI mf), .ref (b 26), .ref (b 27), .ref (b 28), .ref (b 29), .ref (b 30), .ref (b 31), .ref (b 32), .int (gg 32), .int (nI md), .ref (b 35), .ref (b 36), .ref (b 37), .ref (b 38), .ref (b 39), .ref (b 40), .int (nI pn), .ref (b 42), .ref (b 43), .ref (b 44), .int (gg 44), .ref (b 46), .ref (b 47), .int (gg 47), .ref (b 49)])), (b 39, .inl (cI, 8, .inl nz)), (b 40, .inl (cI, 256, .inl gi))] hP hD rfl
    have hl : lv_has ls 5 [(0, .ref (b 0)), (1, .int (nI sx)), (2, .int (nI xs)), (3, .int (nI pt))] := hl
    have hI : 1 ≤ pt ∧ pt ≤ xs + 1 ∧ zz_gp3 nz gi mh sx xs ∧ zz_gj nz gi mh xs pt := hI
    obtain ⟨ip1, ip2, ig2, ii2⟩ := hI
    refine lv_iload_n hx hb dX8_parts_23 rfl (lv_at hl 3 rfl) ?_
    refine lv_iload_n hx hb dX8_parts_24 rfl (lv_at hl 2 rfl) ?_
    refine lv_icmp_gt (tgt := 119) hx hb dX8_parts_25 (by decide) (fun c_2 => ?_) (fun c_2 => ?_)
    · have zc_2 := c_2
      rw [Int32.lt_iff_toInt_lt] at zc_2
      try rw [zz_toInt pt (by omega)] at zc_2
      try rw [zz_toInt xs (by omega)] at zc_2
      refine lv_iinc (v := (nI (xs + 1))) (lv' := [(2, .int (nI (xs + 1))), (0, .ref (b 0)), (1, .int (nI sx)), (3, .int (nI pt))]) hx hb dX8_parts_119 hl (k := 2) rfl (nI_1 _) (by decide) rfl (fun ls hl => ?_)
      refine lv_goto (tgt := 9) hx hb dX8_parts_122 (by decide) ?_
      exact ih_9 ((xs + 1), gi) ⟨by omega, by omega, zz_gp3_next ig2 (by omega) ii2 (Or.inl (by omega))⟩ (show sx + 1 - (xs + 1) < sx + 1 - xs from by omega) _ _ _ (hP.sub [0, 1, 2] rfl) (hD.sub [0, 1, 2] (by decide) rfl) hS (lv_sub hl [1, 2, 0] rfl)
    · have zc_2 := c_2
      rw [Int32.lt_iff_toInt_lt] at zc_2
      try rw [zz_toInt pt (by omega)] at zc_2
      try rw [zz_toInt xs (by omega)] at zc_2
      refine lv_iload_n hx hb dX8_parts_28 rfl (lv_at hl 2 rfl) ?_
      refine lv_iload_n hx hb dX8_parts_29 rfl (lv_at hl 1 rfl) ?_
      refine lv_iand hx hb dX8_parts_30 ?_
      refine zz_seti (nI (xs &&& sx)) (zz_andN (by omega) (by omega)) ?_
      have hand_3 := Nat.and_le_left (n := xs) (m := sx)
      refine lv_iload_n hx hb dX8_parts_31 rfl (lv_at hl 2 rfl) ?_
      refine lv_icmp_ne (tgt := 119) hx hb dX8_parts_32 (by decide) (fun c_4 => ?_) (fun c_4 => ?_)
      · have zc_4 := c_4
        rw [← Int32.toInt_inj] at zc_4
        try rw [zz_toInt (xs &&& sx) (by omega)] at zc_4
        try rw [zz_toInt xs (by omega)] at zc_4
        refine lv_iinc (v := (nI (xs + 1))) (lv' := [(2, .int (nI (xs + 1))), (0, .ref (b 0)), (1, .int (nI sx)), (3, .int (nI pt))]) hx hb dX8_parts_119 hl (k := 2) rfl (nI_1 _) (by decide) rfl (fun ls hl => ?_)
        refine lv_goto (tgt := 9) hx hb dX8_parts_122 (by decide) ?_
        exact ih_9 ((xs + 1), gi) ⟨by omega, by omega, zz_gp3_next ig2 (by omega) ii2 (Or.inr (by omega))⟩ (show sx + 1 - (xs + 1) < sx + 1 - xs from by omega) _ _ _ (hP.sub [0, 1, 2] rfl) (hD.sub [0, 1, 2] (by decide) rfl) hS (lv_sub hl [1, 2, 0] rfl)
      · have zc_4 := c_4
        rw [← Int32.toInt_inj] at zc_4
        try rw [zz_toInt (xs &&& sx) (by omega)] at zc_4
        try rw [zz_toInt xs (by omega)] at zc_4
        refine lv_iload_n hx hb dX8_parts_35 rfl (lv_at hl 3 rfl) ?_
        refine lv_iload_n hx hb dX8_parts_36 rfl (lv_at hl 2 rfl) ?_
        refine lv_iand hx hb dX8_parts_37 ?_
        refine zz_seti (nI (pt &&& xs)) (zz_andN (by omega) (by omega)) ?_
        have hand_5 := Nat.and_le_left (n := pt) (m := xs)
        refine lv_iload_n hx hb dX8_parts_38 rfl (lv_at hl 3 rfl) ?_
        refine lv_icmp_ne (tgt := 113) hx hb dX8_parts_39 (by decide) (fun c_6 => ?_) (fun c_6 => ?_)
        · have zc_6 := c_6
          rw [← Int32.toInt_inj] at zc_6
          try rw [zz_toInt (pt &&& xs) (by omega)] at zc_6
          try rw [zz_toInt pt (by omega)] at zc_6
          refine lv_iinc (v := (nI (pt + 1))) (lv' := [(3, .int (nI (pt + 1))), (0, .ref (b 0)), (1, .int (nI sx)), (2, .int (nI xs))]) hx hb dX8_parts_113 hl (k := 3) rfl (nI_1 _) (by decide) rfl (fun ls hl => ?_)
          refine lv_goto (tgt := 23) hx hb dX8_parts_116 (by decide) ?_
          exact ih_23 ((pt + 1), gi) ⟨by omega, by omega, ig2, zz_gj_no ii2 (fun h9 => absurd h9.2.2.1 (by omega))⟩ (show xs + 1 - (pt + 1) < xs + 1 - pt from by omega) _ _ _ (hP.sub [0, 1, 2] rfl) (hD.sub [0, 1, 2] (by decide) rfl) hS (lv_sub hl [1, 2, 3, 0] rfl)
        · have zc_6 := c_6
          rw [← Int32.toInt_inj] at zc_6
          try rw [zz_toInt (pt &&& xs) (by omega)] at zc_6
          try rw [zz_toInt pt (by omega)] at zc_6
          refine lv_iload_n hx hb dX8_parts_42 rfl (lv_at hl 3 rfl) ?_
          refine lv_iload_n hx hb dX8_parts_43 rfl (lv_at hl 2 rfl) ?_
          obtain ⟨hPc, hDc⟩ := zz_sub2 (ws' := []) hP hD [] (by decide) rfl
          have hKc := hK.sub (tys' := []) [] rfl
          have hFc := zz_free0 hS hA
          refine va_calli (va_runS (As := [.int (nI xs)]) (rest := [.int (nI pt)]) ⟨hx, hb, hml, hown, hw⟩ (m_least l dC dI xs H.size (by omega) (by omega)) ⟨callB_of 1 hw (zz_good tw_417) rfl rfl rfl (hw _ tw_184) (hw _ tw_418) (by decide +kernel) ⟨Nat.le_of_ble_eq_true rfl, Nat.le_of_ble_eq_true rfl⟩, (hw _ tw_419)⟩ ⟨zz_blind, zz_pre hPc hKc hDc hN⟩ rfl rfl hl.1 rfl (lv_room (Nat.le_of_ble_eq_true rfl)) dX8_parts_44 ⟨Nat.le_of_ble_eq_true rfl, Nat.le_of_ble_eq_true rfl⟩) hS (fun q _ h => hFc q h) hFc (fun r_7 u_7 t H1 locs ht hvm e_7 hB hz1 hk1 hS => ?_)
          try dsimp only at e_7
          have hP := zz_keep hP hk1
          clear hk1 hB ht hvm
          generalize H1 = H at hP hS ⊢
          refine zz_seti (nI (zz_ls xs)) e_7 ?_
          refine lv_ishr hx hb dX8_parts_47 ?_
          refine lv_iconst (v := 1) hx hb dX8_parts_48 (by decide) ?_
          refine lv_iand hx hb dX8_parts_49 ?_
          rcases zz_bitc pt (by omega) (zz_ls xs) (zz_ls_in xs (by omega) (by omega)).2 with ⟨hb_8, eb_8⟩ | ⟨hb_8, eb_8⟩
          · refine zz_seti 1 eb_8 ?_
            refine lv_iconst (v := 1) hx hb dX8_parts_50 (by decide) ?_
            refine lv_icmp_ne (tgt := 113) hx hb dX8_parts_51 (by decide) (fun c_9 => absurd c_9 (by decide)) (fun _ => ?_)
            refine lv_aload_n hx hb dX8_parts_54 rfl (lv_at hl 0 rfl) ?_
            refine lv_iload_n hx hb dX8_parts_55 rfl (lv_at hl 3 rfl) ?_
            obtain ⟨hPc, hDc⟩ := zz_sub2 (ws' := [(b 0, .inr (8, [.ref (b 1), .int (nI mt), .int (gg 2), .int (gg 3), .int (gg 4), .int (gg 5), .int (gg 6), .int (gg 7), .int (gg 8), .int (gg 9), .ref (b 11), .ref (b 12), .ref (b 13), .int (nI mc), .int (nI mh), .ref (b 16), .ref (b 17), .ref (b 18), .ref (b 19), .ref (b 20), .ref (b 21), .ref (b 22), .ref (b 23), .ref (b 24), .int (nI mf), .ref (b 26), .ref (b 27), .ref (b 28), .ref (b 29), .ref (b 30), .ref (b 31), .ref (b 32), .int (gg 32), .int (nI md), .ref (b 35), .ref (b 36), .ref (b 37), .ref (b 38), .ref (b 39), .ref (b 40), .int (nI pn), .ref (b 42), .ref (b 43), .ref (b 44), .int (gg 44), .ref (b 46), .ref (b 47), .int (gg 47), .ref (b 49)])), (b 39, .inl (cI, 8, .inl nz))]) hP hD [0, 1] (by decide) rfl
            have hKc := hK.sub (tys' := [(cI, .int)]) [0] rfl
            have hFc := zz_free0 hS hA
            refine va_calli (va_runV (As := [.int (nI pt)]) (rest := []) ⟨hx, hb, hml, hown, hw⟩ (m_sumOf l dC dI b gg mt mc mh mf md pn cI nz pt H.size (by omega) (by omega)) ⟨callB_of 1 hw (zz_good tw_420) rfl rfl rfl (hw _ tw_184) (hw _ tw_421) (by decide +kernel) ⟨Nat.le_of_ble_eq_true rfl, Nat.le_of_ble_eq_true rfl⟩, (hw _ tw_422), (hw _ tw_423)⟩ ⟨zz_blind, va_recv hKc hPc (ci := 8) (q0 := 0) rfl rfl, zz_pre hPc hKc hDc hN⟩ rfl rfl hl.1 rfl (lv_room (Nat.le_of_ble_eq_true rfl)) dX8_parts_56 ⟨Nat.le_of_ble_eq_true rfl, Nat.le_of_ble_eq_true rfl⟩) hS (fun q _ h => hFc q h) hFc (fun r_9 u_9 t H1 locs ht hvm e_9 hB hz1 hk1 hS => ?_)
            try dsimp only at e_9
            have hP := zz_keep hP hk1
            clear hk1 hB ht hvm
            generalize H1 = H at hP hS ⊢
            refine lv_if_ne (tgt := 113) hx hb dX8_parts_59 (by decide) (fun c_10 => ?_) (fun c_10 => ?_)
            · have zc_10 := c_10
              rw [← Int32.toInt_inj] at zc_10
              try rw [show (0 : Int32).toInt = 0 from by decide] at zc_10
              refine lv_iinc (v := (nI (pt + 1))) (lv' := [(3, .int (nI (pt + 1))), (0, .ref (b 0)), (1, .int (nI sx)), (2, .int (nI xs))]) hx hb dX8_parts_113 hl (k := 3) rfl (nI_1 _) (by decide) rfl (fun ls hl => ?_)
              refine lv_goto (tgt := 23) hx hb dX8_parts_116 (by decide) ?_
              exact ih_23 ((pt + 1), gi) ⟨by omega, by omega, ig2, zz_gj_no ii2 (fun h9 => absurd h9.2.2.2.2.1 (fun z => c_10 (e_9.trans z)))⟩ (show xs + 1 - (pt + 1) < xs + 1 - pt from by omega) _ _ _ (hP.sub [0, 1, 2] rfl) (hD.sub [0, 1, 2] (by decide) rfl) hS (lv_sub hl [1, 2, 3, 0] rfl)
            · have zc_10 := c_10
              rw [← Int32.toInt_inj] at zc_10
              try rw [show (0 : Int32).toInt = 0 from by decide] at zc_10
              refine lv_aload_n hx hb dX8_parts_62 rfl (lv_at hl 0 rfl) ?_
              refine va_get (D := (dC, dI)) (ci := 8) (v := .ref (b 40)) (C := RX8) (T := TX8) (N := 49) hx hb hw zz_inX8 hown hK hP 0 rfl rfl 39 (by decide) (hw _ tw_416) (fun _ h9 => h9) rfl dX8_parts_63 ?_
              refine lv_iload_n hx hb dX8_parts_66 rfl (lv_at hl 2 rfl) ?_
              refine lv_iload_n hx hb dX8_parts_67 rfl (lv_at hl 3 rfl) ?_
              refine lv_isub hx hb dX8_parts_68 ?_
              refine zz_seti (nI (xs - pt)) (pk_sub (by omega)) ?_
              refine va_iald hx hb hK hP 2 0 rfl rfl (vp_in_iff.mpr (by rw [zz_toInt (xs - pt) (by omega)]; constructor <;> omega)) dX8_parts_69 ?_
              refine zz_seti (gi (xs - pt)) (congrArg gi (zz_cl (by omega))) ?_
              refine lv_if_lt (tgt := 113) hx hb dX8_parts_70 (by decide) (fun c_11 => ?_) (fun c_11 => ?_)
              · have zc_11 := c_11
                rw [Int32.lt_iff_toInt_lt] at zc_11
                try rw [show (0 : Int32).toInt = 0 from by decide] at zc_11
                refine lv_iinc (v := (nI (pt + 1))) (lv' := [(3, .int (nI (pt + 1))), (0, .ref (b 0)), (1, .int (nI sx)), (2, .int (nI xs))]) hx hb dX8_parts_113 hl (k := 3) rfl (nI_1 _) (by decide) rfl (fun ls hl => ?_)
                refine lv_goto (tgt := 23) hx hb dX8_parts_116 (by decide) ?_
                exact ih_23 ((pt + 1), gi) ⟨by omega, by omega, ig2, zz_gj_no ii2 (fun h9 => absurd h9.2.2.2.2.2 (by omega))⟩ (show xs + 1 - (pt + 1) < xs + 1 - pt from by omega) _ _ _ (hP.sub [0, 1, 2] rfl) (hD.sub [0, 1, 2] (by decide) rfl) hS (lv_sub hl [1, 2, 3, 0] rfl)
              · have zc_11 := c_11
                rw [Int32.lt_iff_toInt_lt] at zc_11
                try rw [show (0 : Int32).toInt = 0 from by decide] at zc_11
                refine lv_aload_n hx hb dX8_parts_73 rfl (lv_at hl 0 rfl) ?_
                refine va_get (D := (dC, dI)) (ci := 8) (v := .ref (b 40)) (C := RX8) (T := TX8) (N := 49) hx hb hw zz_inX8 hown hK hP 0 rfl rfl 39 (by decide) (hw _ tw_416) (fun _ h9 => h9) rfl dX8_parts_74 ?_
                refine lv_iload_n hx hb dX8_parts_77 rfl (lv_at hl 2 rfl) ?_
                refine lv_iload_n hx hb dX8_parts_78 rfl (lv_at hl 3 rfl) ?_
                refine lv_isub hx hb dX8_parts_79 ?_
                refine zz_seti (nI (xs - pt)) (pk_sub (by omega)) ?_
                refine va_iald hx hb hK hP 2 0 rfl rfl (vp_in_iff.mpr (by rw [zz_toInt (xs - pt) (by omega)]; constructor <;> omega)) dX8_parts_80 ?_
                refine zz_seti (gi (xs - pt)) (congrArg gi (zz_cl (by omega))) ?_
                refine lv_iconst (v := 1) hx hb dX8_parts_81 (by decide) ?_
                refine lv_iadd hx hb dX8_parts_82 ?_
                refine lv_istore (lv' := [(4, .int ((gi (xs - pt)) + 1)), (0, .ref (b 0)), (1, .int (nI sx)), (2, .int (nI xs)), (3, .int (nI pt))]) hx hb dX8_parts_83 hl (by decide) rfl (fun ls hl => ?_)
                refine lv_aload_n hx hb dX8_parts_85 rfl (lv_at hl 1 rfl) ?_
                refine va_get (D := (dC, dI)) (ci := 8) (v := .ref (b 40)) (C := RX8) (T := TX8) (N := 49) hx hb hw zz_inX8 hown hK hP 0 rfl rfl 39 (by decide) (hw _ tw_416) (fun _ h9 => h9) rfl dX8_parts_86 ?_
                refine lv_iload_n hx hb dX8_parts_89 rfl (lv_at hl 3 rfl) ?_
                refine lv_iload hx hb dX8_parts_90 (lv_at hl 0 rfl) ?_
                refine lv_aload_n hx hb dX8_parts_92 rfl (lv_at hl 1 rfl) ?_
                refine va_get (D := (dC, dI)) (ci := 8) (v := .ref (b 40)) (C := RX8) (T := TX8) (N := 49) hx hb hw zz_inX8 hown hK hP 0 rfl rfl 39 (by decide) (hw _ tw_416) (fun _ h9 => h9) rfl dX8_parts_93 ?_
                refine lv_iload_n hx hb dX8_parts_96 rfl (lv_at hl 3 rfl) ?_
                refine va_iald hx hb hK hP 2 0 rfl rfl (vp_in_iff.mpr (by rw [zz_toInt xs (by omega)]; constructor <;> omega)) dX8_parts_97 ?_
                refine zz_seti (gi xs) (congrArg gi (zz_cl (by omega))) ?_
                refine lv_icmp_le (tgt := 106) hx hb dX8_parts_98 (by decide) (fun c_12 => ?_) (fun c_12 => ?_)
                · have zc_12 := c_12
                  rw [Int32.le_iff_toInt_le] at zc_12
                  refine lv_aload_n hx hb dX8_parts_106 rfl (lv_at hl 1 rfl) ?_
                  refine va_get (D := (dC, dI)) (ci := 8) (v := .ref (b 40)) (C := RX8) (T := TX8) (N := 49) hx hb hw zz_inX8 hown hK hP 0 rfl rfl 39 (by decide) (hw _ tw_416) (fun _ h9 => h9) rfl dX8_parts_107 ?_
                  refine lv_iload_n hx hb dX8_parts_110 rfl (lv_at hl 3 rfl) ?_
                  refine va_iald hx hb hK hP 2 0 rfl rfl (vp_in_iff.mpr (by rw [zz_toInt xs (by omega)]; constructor <;> omega)) dX8_parts_111 ?_
                  refine zz_seti (gi xs) (congrArg gi (zz_cl (by omega))) ?_
                  refine va_iast hx hb hK hP hD hS 2 0 rfl rfl (vp_in_iff.mpr (by rw [zz_toInt xs (by omega)]; constructor <;> omega)) dX8_parts_112 (fun H locs hP hD hS => ?_)
                  obtain ⟨hP, hD⟩ := zz_ty (D := (dC, dI)) (cl := vwCl) (A := A) (H := H) [(b 0, .inr (8, [.ref (b 1), .int (nI mt), .int (gg 2), .int (gg 3), .int (gg 4), .int (gg 5), .int (gg 6), .int (gg 7), .int (gg 8), .int (gg 9), .ref (b 11), .ref (b 12), .ref (b 13), .int (nI mc), .int (nI mh), .ref (b 16), .ref (b 17), .ref (b 18), .ref (b 19), .ref (b 20), .ref (b 21), .ref (b 22), .ref (b 23), .ref (b 24), .int (nI mf), .ref (b 26), .ref (b 27), .ref (b 28), .ref (b 29), .ref (b 30), .ref (b 31), .ref (b 32), .int (gg 32), .int (nI md), .ref (b 35), .ref (b 36), .ref (b 37), .ref (b 38), .ref (b 39), .ref (b 40), .int (nI pn), .ref (b 42), .ref (b 43), .ref (b 44), .int (gg 44), .ref (b 46), .ref (b 47), .int (gg 47), .ref (b 49)])), (b 39, .inl (cI, 8, .inl nz)), (b 40, .inl (cI, 256, .inl (upd gi (Int32.toNatClampNeg (nI xs)) (gi xs))))] hP hD rfl
                  refine lv_iinc (v := (nI (pt + 1))) (lv' := [(3, .int (nI (pt + 1))), (4, .int ((gi (xs - pt)) + 1)), (0, .ref (b 0)), (1, .int (nI sx)), (2, .int (nI xs))]) hx hb dX8_parts_113 hl (k := 4) rfl (nI_1 _) (by decide) rfl (fun ls hl => ?_)
                  refine lv_goto (tgt := 23) hx hb dX8_parts_116 (by decide) ?_
                  exact ih_23 ((pt + 1), (upd gi (Int32.toNatClampNeg (nI xs)) (gi xs))) ⟨by omega, by omega, zz_gp3_updC ig2 (by omega) (by omega), zz_gj_keepC ii2 (by omega) ⟨by omega, by omega, by omega, hb_8, e_9.symm.trans c_10, by omega⟩ (ig2.1.2.1 _ (by omega)).2 (by omega) (by omega)⟩ (show xs + 1 - (pt + 1) < xs + 1 - pt from by omega) _ _ _ (hP.sub [0, 1, 2] rfl) (hD.sub [0, 1, 2] (by decide) rfl) hS (lv_sub hl [2, 3, 4, 0] rfl)
                · have zc_12 := c_12
                  rw [Int32.le_iff_toInt_le] at zc_12
                  refine lv_iload hx hb dX8_parts_101 (lv_at hl 0 rfl) ?_
                  refine lv_goto (tgt := 112) hx hb dX8_parts_103 (by decide) ?_
                  refine va_iast hx hb hK hP hD hS 2 0 rfl rfl (vp_in_iff.mpr (by rw [zz_toInt xs (by omega)]; constructor <;> omega)) dX8_parts_112 (fun H locs hP hD hS => ?_)
                  obtain ⟨hP, hD⟩ := zz_ty (D := (dC, dI)) (cl := vwCl) (A := A) (H := H) [(b 0, .inr (8, [.ref (b 1), .int (nI mt), .int (gg 2), .int (gg 3), .int (gg 4), .int (gg 5), .int (gg 6), .int (gg 7), .int (gg 8), .int (gg 9), .ref (b 11), .ref (b 12), .ref (b 13), .int (nI mc), .int (nI mh), .ref (b 16), .ref (b 17), .ref (b 18), .ref (b 19), .ref (b 20), .ref (b 21), .ref (b 22), .ref (b 23), .ref (b 24), .int (nI mf), .ref (b 26), .ref (b 27), .ref (b 28), .ref (b 29), .ref (b 30), .ref (b 31), .ref (b 32), .int (gg 32), .int (nI md), .ref (b 35), .ref (b 36), .ref (b 37), .ref (b 38), .ref (b 39), .ref (b 40), .int (nI pn), .ref (b 42), .ref (b 43), .ref (b 44), .int (gg 44), .ref (b 46), .ref (b 47), .int (gg 47), .ref (b 49)])), (b 39, .inl (cI, 8, .inl nz)), (b 40, .inl (cI, 256, .inl (upd gi (Int32.toNatClampNeg (nI xs)) ((gi (xs - pt)) + 1))))] hP hD rfl
                  refine lv_iinc (v := (nI (pt + 1))) (lv' := [(3, .int (nI (pt + 1))), (4, .int ((gi (xs - pt)) + 1)), (0, .ref (b 0)), (1, .int (nI sx)), (2, .int (nI xs))]) hx hb dX8_parts_113 hl (k := 4) rfl (nI_1 _) (by decide) rfl (fun ls hl => ?_)
                  refine lv_goto (tgt := 23) hx hb dX8_parts_116 (by decide) ?_
                  exact ih_23 ((pt + 1), (upd gi (Int32.toNatClampNeg (nI xs)) ((gi (xs - pt)) + 1))) ⟨by omega, by omega, zz_gp3_updC ig2 (by omega) (by omega), zz_gj_newC ii2 (by omega) ⟨by omega, by omega, by omega, hb_8, e_9.symm.trans c_10, by omega⟩ (ig2.1.2.1 _ (by omega)).2 (by omega) (by omega)⟩ (show xs + 1 - (pt + 1) < xs + 1 - pt from by omega) _ _ _ (hP.sub [0, 1, 2] rfl) (hD.sub [0, 1, 2] (by decide) rfl) hS (lv_sub hl [2, 3, 4, 0] rfl)
          · refine zz_seti 0 eb_8 ?_
            refine lv_iconst (v := 1) hx hb dX8_parts_50 (by decide) ?_
            refine lv_icmp_ne (tgt := 113) hx hb dX8_parts_51 (by decide) (fun _ => ?_) (fun c_9 => absurd c_9 (by decide))
            refine lv_iinc (v := (nI (pt + 1))) (lv' := [(3, .int (nI (pt + 1))), (0, .ref (b 0)), (1, .int (nI sx)), (2, .int (nI xs))]) hx hb dX8_parts_113 hl (k := 3) rfl (nI_1 _) (by decide) rfl (fun ls hl => ?_)
            refine lv_goto (tgt := 23) hx hb dX8_parts_116 (by decide) ?_
            exact ih_23 ((pt + 1), gi) ⟨by omega, by omega, ig2, zz_gj_no ii2 (fun h9 => absurd h9.2.2.2.1 (by rw [hb_8]; decide))⟩ (show xs + 1 - (pt + 1) < xs + 1 - pt from by omega) _ _ _ (hP.sub [0, 1, 2] rfl) (hD.sub [0, 1, 2] (by decide) rfl) hS (lv_sub hl [1, 2, 3, 0] rfl)
