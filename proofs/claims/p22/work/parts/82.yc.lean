set_option maxHeartbeats 4000000 in
set_option maxRecDepth 100000 in
theorem kx_isOf (l : Launch) (dC : Nat → ClassId) (dI : Nat → Nat → Nat) (a : Nat → Nat) (cI : ClassId) (nd : Nat) (fo : Nat → Int32) (fc : Nat → Int32) (fs : Nat → Int32) (fu : Nat → Int32) (j : Nat) (p1 : Int32) (p2 : Int32) (sz : Nat) (hnd : nd ≤ 300) (hj : j < 300) : Met l yX1_isOf (zz_w yX1_isOf cX1_isOf 4 (some .boolean)) ({ frames := 0, cells := 0, slots := 0, locals := 0 }) (va_Pc [.ref (a 29), .int (nI j), .int p1, .int p2] (zz_B (dC, dI) sz [(a 29, .inr (1, [.ref (a 30), .ref (a 31), .ref (a 32), .ref (a 33), .int (nI nd)])), (a 30, .inl (cI, 300, .inl fo)), (a 31, .inl (cI, 300, .inl fc)), (a 32, .inl (cI, 300, .inl fs)), (a 33, .inl (cI, 300, .inl fu))] [(cI, .int)])) (va_Qi (fun (r : Int32) (_ : Unit) => (r = 1 ∧ (fo j = p1 ∧ fc j = p2)) ∨ (r = 0 ∧ ¬ (fo j = p1 ∧ fc j = p2))) (fun _ _ => True) (va_A [] sz)) 0 0 (va_A [] sz) := by
  refine Met.ofW (cc := cX1_isOf) (maxL := 4) (ret := (some .boolean)) (by decide) rfl ?_
  intro p e s m args below meth c s₁ B hml hv
  obtain ⟨rfl, hsz, hP, hK, hD0, hN⟩ := hv
  have hx := B.exec
  have hb := B.bytes
  have hr := B.returns
  have hts := atoms_spec (ws := zz_w yX1_isOf cX1_isOf 4 (some .boolean)) B.pre
  have hw : ∀ w ∈ zz_all, w.before _ s = true := fun w h => hts w (List.mem_cons_of_mem _ h)
  have hown : s.vm.findClass RX1 = some m.cls := findClass_of_methodNamed B.named
  have hlocks := B.notSynchronized
  subst hsz
  have hD := hD0
  generalize hAe : va_A [] s.heap.size = A
  have hA : ∀ q : Nat, s.heap.size ≤ q → A q := fun q h => by rw [← hAe]; exact Or.inr h
  have hS : va_S A s.heap s.heap [] := va_S.rf
  have hP : va_P (dC, dI) vwCl [(a 29, .inr (1, [.ref (a 30), .ref (a 31), .ref (a 32), .ref (a 33), .int (nI nd)])), (a 30, .inl (cI, 300, .inl fo)), (a 31, .inl (cI, 300, .inl fc)), (a 32, .inl (cI, 300, .inl fs)), (a 33, .inl (cI, 300, .inl fu))] s.heap := hP
  have hl := lv_entry ([.ref (a 29), .int (nI j), .int p1, .int p2]) (n := 4) (Nat.le_of_ble_eq_true rfl)
  rw [lg_entry_eq]
  generalize (lg_sl ([.ref (a 29), .int (nI j), .int p1, .int p2]) ++ List.replicate (4 - (lg_sl ([.ref (a 29), .int (nI j), .int p1, .int p2])).length) Slot.unset).toArray = ls at hl ⊢
  have hl : lv_has ls 4 [(0, .ref (a 29)), (1, .int (nI j)), (2, .int p1), (3, .int p2)] := hl
  refine lv_aload_n hx hb dX1_isOf_0 rfl (lv_at hl 0 rfl) ?_
  refine va_get (D := (dC, dI)) (ci := 1) (v := .ref (a 30)) (C := RX1) (T := TX1) (N := 5) hx hb hw zz_inX1 hown hK hP 0 rfl rfl 0 (by decide) (hw _ tw_12) (fun _ h9 => h9) rfl dX1_isOf_1 ?_
  refine lv_iload_n hx hb dX1_isOf_4 rfl (lv_at hl 1 rfl) ?_
  refine va_iald hx hb hK hP 1 0 rfl rfl (vp_in_iff.mpr (by rw [zz_toInt j (by omega)]; constructor <;> omega)) dX1_isOf_5 ?_
  refine zz_seti (fo j) (congrArg fo (zz_cl (by omega))) ?_
  refine lv_iload_n hx hb dX1_isOf_6 rfl (lv_at hl 2 rfl) ?_
  refine lv_icmp_ne (tgt := 24) hx hb dX1_isOf_7 (by decide) (fun c_1 => ?_) (fun c_1 => ?_)
  · have zc_1 := c_1
    rw [← Int32.toInt_inj] at zc_1
    refine lv_iconst (v := 0) hx hb dX1_isOf_24 (by decide) ?_
    exact W.zret (v := 0) hx hb hr (rfl) (fun t ht hW => ⟨⟨0, (), rfl, (Or.inr ⟨rfl, fun h9 => c_1 h9.1⟩), trivial⟩, hS.F ht⟩) hS.2.2 dX1_isOf_25
  · have zc_1 := c_1
    rw [← Int32.toInt_inj] at zc_1
    refine lv_aload_n hx hb dX1_isOf_10 rfl (lv_at hl 0 rfl) ?_
    refine va_get (D := (dC, dI)) (ci := 1) (v := .ref (a 31)) (C := RX1) (T := TX1) (N := 5) hx hb hw zz_inX1 hown hK hP 0 rfl rfl 1 (by decide) (hw _ tw_13) (fun _ h9 => h9) rfl dX1_isOf_11 ?_
    refine lv_iload_n hx hb dX1_isOf_14 rfl (lv_at hl 1 rfl) ?_
    refine va_iald hx hb hK hP 2 0 rfl rfl (vp_in_iff.mpr (by rw [zz_toInt j (by omega)]; constructor <;> omega)) dX1_isOf_15 ?_
    refine zz_seti (fc j) (congrArg fc (zz_cl (by omega))) ?_
    refine lv_iload_n hx hb dX1_isOf_16 rfl (lv_at hl 3 rfl) ?_
    refine lv_icmp_ne (tgt := 24) hx hb dX1_isOf_17 (by decide) (fun c_2 => ?_) (fun c_2 => ?_)
    · have zc_2 := c_2
      rw [← Int32.toInt_inj] at zc_2
      refine lv_iconst (v := 0) hx hb dX1_isOf_24 (by decide) ?_
      exact W.zret (v := 0) hx hb hr (rfl) (fun t ht hW => ⟨⟨0, (), rfl, (Or.inr ⟨rfl, fun h9 => c_2 h9.2⟩), trivial⟩, hS.F ht⟩) hS.2.2 dX1_isOf_25
    · have zc_2 := c_2
      rw [← Int32.toInt_inj] at zc_2
      refine lv_iconst (v := 1) hx hb dX1_isOf_20 (by decide) ?_
      refine lv_goto (tgt := 25) hx hb dX1_isOf_21 (by decide) ?_
      exact W.zret (v := 1) hx hb hr (rfl) (fun t ht hW => ⟨⟨1, (), rfl, (Or.inl ⟨rfl, c_1, c_2⟩), trivial⟩, hS.F ht⟩) hS.2.2 dX1_isOf_25
set_option maxHeartbeats 4000000 in
set_option maxRecDepth 100000 in
theorem kx_unitsOwed (l : Launch) (dC : Nat → ClassId) (dI : Nat → Nat → Nat) (a : Nat → Nat) (cI : ClassId) (nd : Nat) (fo : Nat → Int32) (fc : Nat → Int32) (fs : Nat → Int32) (fu : Nat → Int32) (p0 : Int32) (p1 : Int32) (sz : Nat) (hnd : nd ≤ 300) : Met l yX1_unitsOwed (zz_w yX1_unitsOwed cX1_unitsOwed 5 (some .int)) ({ frames := 1, cells := 0, slots := 0, locals := 23 }) (va_Pc [.ref (a 29), .int p0, .int p1] (zz_B (dC, dI) sz [(a 29, .inr (1, [.ref (a 30), .ref (a 31), .ref (a 32), .ref (a 33), .int (nI nd)])), (a 30, .inl (cI, 300, .inl fo)), (a 31, .inl (cI, 300, .inl fc)), (a 32, .inl (cI, 300, .inl fs)), (a 33, .inl (cI, 300, .inl fu))] [(cI, .int)])) (va_Qi (fun (r : Int32) (_ : Unit) => r = zz_su fo fc fu p0 p1 nd) (fun _ _ => True) (va_A [] sz)) 0 0 (va_A [] sz) := by
  refine Met.ofW (cc := cX1_unitsOwed) (maxL := 5) (ret := (some .int)) (by decide) rfl ?_
  intro p e s m args below meth c s₁ B hml hv
  obtain ⟨rfl, hsz, hP, hK, hD0, hN⟩ := hv
  have hx := B.exec
  have hb := B.bytes
  have hr := B.returns
  have hts := atoms_spec (ws := zz_w yX1_unitsOwed cX1_unitsOwed 5 (some .int)) B.pre
  have hw : ∀ w ∈ zz_all, w.before _ s = true := fun w h => hts w (List.mem_cons_of_mem _ h)
  have hown : s.vm.findClass RX1 = some m.cls := findClass_of_methodNamed B.named
  have hlocks := B.notSynchronized
  subst hsz
  have hD := hD0
  generalize hAe : va_A [] s.heap.size = A
  have hA : ∀ q : Nat, s.heap.size ≤ q → A q := fun q h => by rw [← hAe]; exact Or.inr h
  have hS : va_S A s.heap s.heap [] := va_S.rf
  have hP : va_P (dC, dI) vwCl [(a 29, .inr (1, [.ref (a 30), .ref (a 31), .ref (a 32), .ref (a 33), .int (nI nd)])), (a 30, .inl (cI, 300, .inl fo)), (a 31, .inl (cI, 300, .inl fc)), (a 32, .inl (cI, 300, .inl fs)), (a 33, .inl (cI, 300, .inl fu))] s.heap := hP
  have hl := lv_entry ([.ref (a 29), .int p0, .int p1]) (n := 5) (Nat.le_of_ble_eq_true rfl)
  rw [lg_entry_eq]
  generalize (lg_sl ([.ref (a 29), .int p0, .int p1]) ++ List.replicate (5 - (lg_sl ([.ref (a 29), .int p0, .int p1])).length) Slot.unset).toArray = ls at hl ⊢
  have hl : lv_has ls 5 [(0, .ref (a 29)), (1, .int p0), (2, .int p1)] := hl
  refine lv_iconst (v := 0) hx hb dX1_unitsOwed_0 (by decide) ?_
  refine lv_istore_n (lv' := [(3, .int 0), (0, .ref (a 29)), (1, .int p0), (2, .int p1)]) hx hb dX1_unitsOwed_1 rfl hl (by decide) rfl (fun ls hl => ?_)
  refine lv_iconst (v := 0) hx hb dX1_unitsOwed_2 (by decide) ?_
  refine lv_istore (lv' := [(4, .int 0), (3, .int 0), (0, .ref (a 29)), (1, .int p0), (2, .int p1)]) hx hb dX1_unitsOwed_3 hl (by decide) rfl (fun ls hl => ?_)
  refine zz_loopS (fun (u : (Nat) × (Int32)) => match u with | (j, y) => [(a 29, .inr (1, [.ref (a 30), .ref (a 31), .ref (a 32), .ref (a 33), .int (nI nd)])), (a 30, .inl (cI, 300, .inl fo)), (a 31, .inl (cI, 300, .inl fc)), (a 32, .inl (cI, 300, .inl fs)), (a 33, .inl (cI, 300, .inl fu))]) (fun (u : (Nat) × (Int32)) => match u with | (j, y) => [(0, .ref (a 29)), (1, .int p0), (2, .int p1), (3, .int y), (4, .int (nI j))]) (fun (u : (Nat) × (Int32)) => match u with | (j, y) => j ≤ nd ∧ y = zz_su fo fc fu p0 p1 j) (fun (u : (Nat) × (Int32)) => match u with | (j, y) => nd - j) (fun u hI H locs ls hP hD hS hl ih_5 => ?_) (0, 0) ⟨by omega, rfl⟩ _ _ _ (hP.sub [0, 1, 2, 3, 4] rfl) (hD.sub [0, 1, 2, 3, 4] (by decide) rfl) hS (lv_sub hl [2, 3, 4, 1, 0] rfl)
  obtain ⟨j, y⟩ := u
  obtain ⟨hP, hD⟩ := zz_ty (D := (dC, dI)) (cl := vwCl) (A := (fun _ => True)) (H := H) [(a 29, .inr (1, [.ref (a 30), .ref (a 31), .ref (a 32), .ref (a 33), .int (nI nd)])), (a 30, .inl (cI, 300, .inl fo)), (a 31, .inl (cI, 300, .inl fc)), (a 32, .inl (cI, 300, .inl fs)), (a 33, .inl (cI, 300, .inl fu))] hP hD rfl
  have hl : lv_has ls 5 [(0, .ref (a 29)), (1, .int p0), (2, .int p1), (3, .int y), (4, .int (nI j))] := hl
  have hI : j ≤ nd ∧ y = zz_su fo fc fu p0 p1 j := hI
  obtain ⟨ij, iy⟩ := hI
  refine lv_iload hx hb dX1_unitsOwed_5 (lv_at hl 4 rfl) ?_
  refine lv_aload_n hx hb dX1_unitsOwed_7 rfl (lv_at hl 0 rfl) ?_
  refine va_get (D := (dC, dI)) (ci := 1) (v := .int (nI nd)) (C := RX1) (T := TX1) (N := 5) hx hb hw zz_inX1 hown hK hP 0 rfl rfl 4 (by decide) (hw _ tw_14) (fun _ h9 => h9) rfl dX1_unitsOwed_8 ?_
  refine lv_icmp_ge (tgt := 41) hx hb dX1_unitsOwed_11 (by decide) (fun c_1 => ?_) (fun c_1 => ?_)
  · have zc_1 := c_1
    rw [Int32.le_iff_toInt_le] at zc_1
    try rw [zz_toInt j (by omega)] at zc_1
    try rw [zz_toInt nd (by omega)] at zc_1
    refine lv_iload_n hx hb dX1_unitsOwed_41 rfl (lv_at hl 3 rfl) ?_
    exact W.iret (v := y) hx hb hr (fun t ht hW => ⟨⟨y, (), rfl, (by rw [show nd = j from by omega]; exact iy), trivial⟩, hS.F ht⟩) hS.2.2 dX1_unitsOwed_42
  · have zc_1 := c_1
    rw [Int32.le_iff_toInt_le] at zc_1
    try rw [zz_toInt j (by omega)] at zc_1
    try rw [zz_toInt nd (by omega)] at zc_1
    refine lv_aload_n hx hb dX1_unitsOwed_14 rfl (lv_at hl 0 rfl) ?_
    refine lv_iload hx hb dX1_unitsOwed_15 (lv_at hl 4 rfl) ?_
    refine lv_iload_n hx hb dX1_unitsOwed_17 rfl (lv_at hl 1 rfl) ?_
    refine lv_iload_n hx hb dX1_unitsOwed_18 rfl (lv_at hl 2 rfl) ?_
    obtain ⟨hPc, hDc⟩ := zz_sub2 (ws' := [(a 29, .inr (1, [.ref (a 30), .ref (a 31), .ref (a 32), .ref (a 33), .int (nI nd)])), (a 30, .inl (cI, 300, .inl fo)), (a 31, .inl (cI, 300, .inl fc)), (a 32, .inl (cI, 300, .inl fs)), (a 33, .inl (cI, 300, .inl fu))]) hP hD [0, 1, 2, 3, 4] (by decide) rfl
    have hKc := hK.sub (tys' := [(cI, .int)]) [0] rfl
    have hFc := zz_free0 hS hA
    refine va_calli (va_runV (As := [.int (nI j), .int p0, .int p1]) (rest := []) ⟨hx, hb, hml, hown, hw⟩ (kx_isOf l dC dI a cI nd fo fc fs fu j p0 p1 H.size (by omega) (by omega)) ⟨callB_of 3 hw (zz_good tw_15) rfl rfl rfl (hw _ tw_16) (hw _ tw_17) (by decide +kernel) ⟨Nat.le_of_ble_eq_true rfl, Nat.le_of_ble_eq_true rfl⟩, (hw _ tw_18), (hw _ tw_19)⟩ ⟨zz_blind, va_recv hKc hPc (ci := 1) (q0 := 0) rfl rfl, zz_pre hPc hKc hDc hN⟩ rfl rfl hl.1 rfl (lv_room (Nat.le_of_ble_eq_true rfl)) dX1_unitsOwed_19 ⟨Nat.le_of_ble_eq_true rfl, Nat.le_of_ble_eq_true rfl⟩) hS (fun q _ h => hFc q h) hFc (fun r_2 u_2 t H1 locs ht hvm e_2 hB hz1 hk1 hS => ?_)
    try dsimp only at e_2
    have hP := zz_keep hP hk1
    clear hk1 hB ht hvm
    generalize H1 = H at hP hS ⊢
    rcases e_2 with ⟨er_2, im_2⟩ | ⟨er_2, im_2⟩
    · refine zz_seti 1 er_2 ?_
      refine lv_if_eq (tgt := 35) hx hb dX1_unitsOwed_22 (by decide) (fun c_9 => absurd c_9 (by decide)) (fun _ => ?_)
      refine lv_iload_n hx hb dX1_unitsOwed_25 rfl (lv_at hl 3 rfl) ?_
      refine lv_aload_n hx hb dX1_unitsOwed_26 rfl (lv_at hl 0 rfl) ?_
      refine va_get (D := (dC, dI)) (ci := 1) (v := .ref (a 33)) (C := RX1) (T := TX1) (N := 5) hx hb hw zz_inX1 hown hK hP 0 rfl rfl 3 (by decide) (hw _ tw_20) (fun _ h9 => h9) rfl dX1_unitsOwed_27 ?_
      refine lv_iload hx hb dX1_unitsOwed_30 (lv_at hl 4 rfl) ?_
      refine va_iald hx hb hK hP 4 0 rfl rfl (vp_in_iff.mpr (by rw [zz_toInt j (by omega)]; constructor <;> omega)) dX1_unitsOwed_32 ?_
      refine zz_seti (fu j) (congrArg fu (zz_cl (by omega))) ?_
      refine lv_iadd hx hb dX1_unitsOwed_33 ?_
      refine lv_istore_n (lv' := [(3, .int (y + (fu j))), (0, .ref (a 29)), (1, .int p0), (2, .int p1), (4, .int (nI j))]) hx hb dX1_unitsOwed_34 rfl hl (by decide) rfl (fun ls hl => ?_)
      refine lv_iinc (v := (nI (j + 1))) (lv' := [(4, .int (nI (j + 1))), (3, .int (y + (fu j))), (0, .ref (a 29)), (1, .int p0), (2, .int p1)]) hx hb dX1_unitsOwed_35 hl (k := 4) rfl (nI_1 _) (by decide) rfl (fun ls hl => ?_)
      refine lv_goto (tgt := 5) hx hb dX1_unitsOwed_38 (by decide) ?_
      exact ih_5 ((j + 1), (y + (fu j))) ⟨by omega, zz_su_y iy im_2⟩ (show nd - (j + 1) < nd - j from by omega) _ _ _ (hP.sub [0, 1, 2, 3, 4] rfl) (hD.sub [0, 1, 2, 3, 4] (by decide) rfl) hS (lv_sub hl [2, 3, 4, 1, 0] rfl)
    · refine zz_seti 0 er_2 ?_
      refine lv_if_eq (tgt := 35) hx hb dX1_unitsOwed_22 (by decide) (fun _ => ?_) (fun c_9 => absurd c_9 (by decide))
      refine lv_iinc (v := (nI (j + 1))) (lv' := [(4, .int (nI (j + 1))), (0, .ref (a 29)), (1, .int p0), (2, .int p1), (3, .int y)]) hx hb dX1_unitsOwed_35 hl (k := 4) rfl (nI_1 _) (by decide) rfl (fun ls hl => ?_)
      refine lv_goto (tgt := 5) hx hb dX1_unitsOwed_38 (by decide) ?_
      exact ih_5 ((j + 1), y) ⟨by omega, zz_su_n iy im_2⟩ (show nd - (j + 1) < nd - j from by omega) _ _ _ (hP.sub [0, 1, 2, 3, 4] rfl) (hD.sub [0, 1, 2, 3, 4] (by decide) rfl) hS (lv_sub hl [1, 2, 3, 4, 0] rfl)
set_option maxHeartbeats 4000000 in
set_option maxRecDepth 100000 in
theorem kx_firstDay (l : Launch) (dC : Nat → ClassId) (dI : Nat → Nat → Nat) (a : Nat → Nat) (cI : ClassId) (nd : Nat) (fo : Nat → Int32) (fc : Nat → Int32) (fs : Nat → Int32) (fu : Nat → Int32) (p0 : Int32) (p1 : Int32) (sz : Nat) (hnd : nd ≤ 300) : Met l yX1_firstDay (zz_w yX1_firstDay cX1_firstDay 4 (some .int)) ({ frames := 1, cells := 0, slots := 0, locals := 23 }) (va_Pc [.ref (a 29), .int p0, .int p1] (zz_B (dC, dI) sz [(a 29, .inr (1, [.ref (a 30), .ref (a 31), .ref (a 32), .ref (a 33), .int (nI nd)])), (a 30, .inl (cI, 300, .inl fo)), (a 31, .inl (cI, 300, .inl fc)), (a 32, .inl (cI, 300, .inl fs)), (a 33, .inl (cI, 300, .inl fu))] [(cI, .int)])) (va_Qi (fun (r : Int32) (_ : Unit) => zz_ft1 fo fc fs p0 p1 nd r) (fun _ _ => True) (va_A [] sz)) 0 0 (va_A [] sz) := by
  refine Met.ofW (cc := cX1_firstDay) (maxL := 4) (ret := (some .int)) (by decide) rfl ?_
  intro p e s m args below meth c s₁ B hml hv
  obtain ⟨rfl, hsz, hP, hK, hD0, hN⟩ := hv
  have hx := B.exec
  have hb := B.bytes
  have hr := B.returns
  have hts := atoms_spec (ws := zz_w yX1_firstDay cX1_firstDay 4 (some .int)) B.pre
  have hw : ∀ w ∈ zz_all, w.before _ s = true := fun w h => hts w (List.mem_cons_of_mem _ h)
  have hown : s.vm.findClass RX1 = some m.cls := findClass_of_methodNamed B.named
  have hlocks := B.notSynchronized
  subst hsz
  have hD := hD0
  generalize hAe : va_A [] s.heap.size = A
  have hA : ∀ q : Nat, s.heap.size ≤ q → A q := fun q h => by rw [← hAe]; exact Or.inr h
  have hS : va_S A s.heap s.heap [] := va_S.rf
  have hP : va_P (dC, dI) vwCl [(a 29, .inr (1, [.ref (a 30), .ref (a 31), .ref (a 32), .ref (a 33), .int (nI nd)])), (a 30, .inl (cI, 300, .inl fo)), (a 31, .inl (cI, 300, .inl fc)), (a 32, .inl (cI, 300, .inl fs)), (a 33, .inl (cI, 300, .inl fu))] s.heap := hP
  have hl := lv_entry ([.ref (a 29), .int p0, .int p1]) (n := 4) (Nat.le_of_ble_eq_true rfl)
  rw [lg_entry_eq]
  generalize (lg_sl ([.ref (a 29), .int p0, .int p1]) ++ List.replicate (4 - (lg_sl ([.ref (a 29), .int p0, .int p1])).length) Slot.unset).toArray = ls at hl ⊢
  have hl : lv_has ls 4 [(0, .ref (a 29)), (1, .int p0), (2, .int p1)] := hl
  refine lv_iconst (v := 0) hx hb dX1_firstDay_0 (by decide) ?_
  refine lv_istore_n (lv' := [(3, .int 0), (0, .ref (a 29)), (1, .int p0), (2, .int p1)]) hx hb dX1_firstDay_1 rfl hl (by decide) rfl (fun ls hl => ?_)
  refine zz_loopS (fun (j : (Nat)) => [(a 29, .inr (1, [.ref (a 30), .ref (a 31), .ref (a 32), .ref (a 33), .int (nI nd)])), (a 30, .inl (cI, 300, .inl fo)), (a 31, .inl (cI, 300, .inl fc)), (a 32, .inl (cI, 300, .inl fs)), (a 33, .inl (cI, 300, .inl fu))]) (fun (j : (Nat)) => [(0, .ref (a 29)), (1, .int p0), (2, .int p1), (3, .int (nI j))]) (fun (j : (Nat)) => j ≤ nd ∧ ∀ i : Nat, i < j → ¬ (fo i = p0 ∧ fc i = p1)) (fun (j : (Nat)) => nd - j) (fun u hI H locs ls hP hD hS hl ih_2 => ?_) 0 ⟨by omega, fun i hi => absurd hi (Nat.not_lt_zero _)⟩ _ _ _ (hP.sub [0, 1, 2, 3, 4] rfl) (hD.sub [0, 1, 2, 3, 4] (by decide) rfl) hS (lv_sub hl [1, 2, 3, 0] rfl)
  obtain ⟨j, rfl⟩ : ∃ z, z = u := ⟨_, rfl⟩
  obtain ⟨hP, hD⟩ := zz_ty (D := (dC, dI)) (cl := vwCl) (A := (fun _ => True)) (H := H) [(a 29, .inr (1, [.ref (a 30), .ref (a 31), .ref (a 32), .ref (a 33), .int (nI nd)])), (a 30, .inl (cI, 300, .inl fo)), (a 31, .inl (cI, 300, .inl fc)), (a 32, .inl (cI, 300, .inl fs)), (a 33, .inl (cI, 300, .inl fu))] hP hD rfl
  have hl : lv_has ls 4 [(0, .ref (a 29)), (1, .int p0), (2, .int p1), (3, .int (nI j))] := hl
  have hI : j ≤ nd ∧ ∀ i : Nat, i < j → ¬ (fo i = p0 ∧ fc i = p1) := hI
  obtain ⟨ij, ia⟩ := hI
  refine lv_iload_n hx hb dX1_firstDay_2 rfl (lv_at hl 3 rfl) ?_
  refine lv_aload_n hx hb dX1_firstDay_3 rfl (lv_at hl 0 rfl) ?_
  refine va_get (D := (dC, dI)) (ci := 1) (v := .int (nI nd)) (C := RX1) (T := TX1) (N := 5) hx hb hw zz_inX1 hown hK hP 0 rfl rfl 4 (by decide) (hw _ tw_14) (fun _ h9 => h9) rfl dX1_firstDay_4 ?_
  refine lv_icmp_ge (tgt := 33) hx hb dX1_firstDay_7 (by decide) (fun c_1 => ?_) (fun c_1 => ?_)
  · have zc_1 := c_1
    rw [Int32.le_iff_toInt_le] at zc_1
    try rw [zz_toInt j (by omega)] at zc_1
    try rw [zz_toInt nd (by omega)] at zc_1
    refine lv_iconst (v := (-1)) hx hb dX1_firstDay_33 (by decide) ?_
    exact W.iret (v := (-1)) hx hb hr (fun t ht hW => ⟨⟨(-1), (), rfl, (Or.inr ⟨fun i hi => ia i (by omega), rfl⟩), trivial⟩, hS.F ht⟩) hS.2.2 dX1_firstDay_34
  · have zc_1 := c_1
    rw [Int32.le_iff_toInt_le] at zc_1
    try rw [zz_toInt j (by omega)] at zc_1
    try rw [zz_toInt nd (by omega)] at zc_1
    refine lv_aload_n hx hb dX1_firstDay_10 rfl (lv_at hl 0 rfl) ?_
    refine lv_iload_n hx hb dX1_firstDay_11 rfl (lv_at hl 3 rfl) ?_
    refine lv_iload_n hx hb dX1_firstDay_12 rfl (lv_at hl 1 rfl) ?_
    refine lv_iload_n hx hb dX1_firstDay_13 rfl (lv_at hl 2 rfl) ?_
    obtain ⟨hPc, hDc⟩ := zz_sub2 (ws' := [(a 29, .inr (1, [.ref (a 30), .ref (a 31), .ref (a 32), .ref (a 33), .int (nI nd)])), (a 30, .inl (cI, 300, .inl fo)), (a 31, .inl (cI, 300, .inl fc)), (a 32, .inl (cI, 300, .inl fs)), (a 33, .inl (cI, 300, .inl fu))]) hP hD [0, 1, 2, 3, 4] (by decide) rfl
    have hKc := hK.sub (tys' := [(cI, .int)]) [0] rfl
    have hFc := zz_free0 hS hA
    refine va_calli (va_runV (As := [.int (nI j), .int p0, .int p1]) (rest := []) ⟨hx, hb, hml, hown, hw⟩ (kx_isOf l dC dI a cI nd fo fc fs fu j p0 p1 H.size (by omega) (by omega)) ⟨callB_of 3 hw (zz_good tw_15) rfl rfl rfl (hw _ tw_16) (hw _ tw_17) (by decide +kernel) ⟨Nat.le_of_ble_eq_true rfl, Nat.le_of_ble_eq_true rfl⟩, (hw _ tw_18), (hw _ tw_19)⟩ ⟨zz_blind, va_recv hKc hPc (ci := 1) (q0 := 0) rfl rfl, zz_pre hPc hKc hDc hN⟩ rfl rfl hl.1 rfl (lv_room (Nat.le_of_ble_eq_true rfl)) dX1_firstDay_14 ⟨Nat.le_of_ble_eq_true rfl, Nat.le_of_ble_eq_true rfl⟩) hS (fun q _ h => hFc q h) hFc (fun r_2 u_2 t H1 locs ht hvm e_2 hB hz1 hk1 hS => ?_)
    try dsimp only at e_2
    have hP := zz_keep hP hk1
    clear hk1 hB ht hvm
    generalize H1 = H at hP hS ⊢
    rcases e_2 with ⟨er_2, im_2⟩ | ⟨er_2, im_2⟩
    · refine zz_seti 1 er_2 ?_
      refine lv_if_eq (tgt := 27) hx hb dX1_firstDay_17 (by decide) (fun c_9 => absurd c_9 (by decide)) (fun _ => ?_)
      refine lv_aload_n hx hb dX1_firstDay_20 rfl (lv_at hl 0 rfl) ?_
      refine va_get (D := (dC, dI)) (ci := 1) (v := .ref (a 32)) (C := RX1) (T := TX1) (N := 5) hx hb hw zz_inX1 hown hK hP 0 rfl rfl 2 (by decide) (hw _ tw_21) (fun _ h9 => h9) rfl dX1_firstDay_21 ?_
      refine lv_iload_n hx hb dX1_firstDay_24 rfl (lv_at hl 3 rfl) ?_
      refine va_iald hx hb hK hP 3 0 rfl rfl (vp_in_iff.mpr (by rw [zz_toInt j (by omega)]; constructor <;> omega)) dX1_firstDay_25 ?_
      refine zz_seti (fs j) (congrArg fs (zz_cl (by omega))) ?_
      exact W.iret (v := (fs j)) hx hb hr (fun t ht hW => ⟨⟨(fs j), (), rfl, (Or.inl ⟨j, by omega, im_2, ia, rfl⟩), trivial⟩, hS.F ht⟩) hS.2.2 dX1_firstDay_26
    · refine zz_seti 0 er_2 ?_
      refine lv_if_eq (tgt := 27) hx hb dX1_firstDay_17 (by decide) (fun _ => ?_) (fun c_9 => absurd c_9 (by decide))
      refine lv_iinc (v := (nI (j + 1))) (lv' := [(3, .int (nI (j + 1))), (0, .ref (a 29)), (1, .int p0), (2, .int p1)]) hx hb dX1_firstDay_27 hl (k := 3) rfl (nI_1 _) (by decide) rfl (fun ls hl => ?_)
      refine lv_goto (tgt := 2) hx hb dX1_firstDay_30 (by decide) ?_
      exact ih_2 (j + 1) ⟨by omega, zz_nox (P := fun q => fo q = p0 ∧ fc q = p1) ia im_2⟩ (show nd - (j + 1) < nd - j from by omega) _ _ _ (hP.sub [0, 1, 2, 3, 4] rfl) (hD.sub [0, 1, 2, 3, 4] (by decide) rfl) hS (lv_sub hl [1, 2, 3, 0] rfl)
set_option maxHeartbeats 4000000 in
set_option maxRecDepth 100000 in
theorem kx_net (l : Launch) (dC : Nat → ClassId) (dI : Nat → Nat → Nat) (a : Nat → Nat) (cI : ClassId) (nd : Nat) (fo : Nat → Int32) (fc : Nat → Int32) (fs : Nat → Int32) (fu : Nat → Int32) (p0 : Int32) (sz : Nat) (hnd : nd ≤ 300) (hoc : zz_oc fo fc nd) : Met l yX1_net (zz_w yX1_net cX1_net 4 (some .int)) ({ frames := 0, cells := 0, slots := 0, locals := 0 }) (va_Pc [.ref (a 29), .int p0] (zz_B (dC, dI) sz [(a 29, .inr (1, [.ref (a 30), .ref (a 31), .ref (a 32), .ref (a 33), .int (nI nd)])), (a 30, .inl (cI, 300, .inl fo)), (a 31, .inl (cI, 300, .inl fc)), (a 32, .inl (cI, 300, .inl fs)), (a 33, .inl (cI, 300, .inl fu))] [(cI, .int)])) (va_Qi (fun (r : Int32) (_ : Unit) => r = zz_nc fo fc fu p0 nd) (fun _ _ => True) (va_A [] sz)) 0 0 (va_A [] sz) := by
  refine Met.ofW (cc := cX1_net) (maxL := 4) (ret := (some .int)) (by decide) rfl ?_
  intro p e s m args below meth c s₁ B hml hv
  obtain ⟨rfl, hsz, hP, hK, hD0, hN⟩ := hv
  have hx := B.exec
  have hb := B.bytes
  have hr := B.returns
  have hts := atoms_spec (ws := zz_w yX1_net cX1_net 4 (some .int)) B.pre
  have hw : ∀ w ∈ zz_all, w.before _ s = true := fun w h => hts w (List.mem_cons_of_mem _ h)
  have hown : s.vm.findClass RX1 = some m.cls := findClass_of_methodNamed B.named
  have hlocks := B.notSynchronized
  subst hsz
  have hD := hD0
  generalize hAe : va_A [] s.heap.size = A
  have hA : ∀ q : Nat, s.heap.size ≤ q → A q := fun q h => by rw [← hAe]; exact Or.inr h
  have hS : va_S A s.heap s.heap [] := va_S.rf
  have hP : va_P (dC, dI) vwCl [(a 29, .inr (1, [.ref (a 30), .ref (a 31), .ref (a 32), .ref (a 33), .int (nI nd)])), (a 30, .inl (cI, 300, .inl fo)), (a 31, .inl (cI, 300, .inl fc)), (a 32, .inl (cI, 300, .inl fs)), (a 33, .inl (cI, 300, .inl fu))] s.heap := hP
  have hl := lv_entry ([.ref (a 29), .int p0]) (n := 4) (Nat.le_of_ble_eq_true rfl)
  rw [lg_entry_eq]
  generalize (lg_sl ([.ref (a 29), .int p0]) ++ List.replicate (4 - (lg_sl ([.ref (a 29), .int p0])).length) Slot.unset).toArray = ls at hl ⊢
  have hl : lv_has ls 4 [(0, .ref (a 29)), (1, .int p0)] := hl
  refine lv_iconst (v := 0) hx hb dX1_net_0 (by decide) ?_
  refine lv_istore_n (lv' := [(2, .int 0), (0, .ref (a 29)), (1, .int p0)]) hx hb dX1_net_1 rfl hl (by decide) rfl (fun ls hl => ?_)
  refine lv_iconst (v := 0) hx hb dX1_net_2 (by decide) ?_
  refine lv_istore_n (lv' := [(3, .int 0), (2, .int 0), (0, .ref (a 29)), (1, .int p0)]) hx hb dX1_net_3 rfl hl (by decide) rfl (fun ls hl => ?_)
  refine zz_loopS (fun (u : (Nat) × (Int32)) => match u with | (j, y) => [(a 29, .inr (1, [.ref (a 30), .ref (a 31), .ref (a 32), .ref (a 33), .int (nI nd)])), (a 30, .inl (cI, 300, .inl fo)), (a 31, .inl (cI, 300, .inl fc)), (a 32, .inl (cI, 300, .inl fs)), (a 33, .inl (cI, 300, .inl fu))]) (fun (u : (Nat) × (Int32)) => match u with | (j, y) => [(0, .ref (a 29)), (1, .int p0), (2, .int y), (3, .int (nI j))]) (fun (u : (Nat) × (Int32)) => match u with | (j, y) => j ≤ nd ∧ y = zz_nc fo fc fu p0 j) (fun (u : (Nat) × (Int32)) => match u with | (j, y) => nd - j) (fun u hI H locs ls hP hD hS hl ih_4 => ?_) (0, 0) ⟨by omega, rfl⟩ _ _ _ (hP.sub [0, 1, 2, 3, 4] rfl) (hD.sub [0, 1, 2, 3, 4] (by decide) rfl) hS (lv_sub hl [2, 3, 1, 0] rfl)
  obtain ⟨j, y⟩ := u
  obtain ⟨hP, hD⟩ := zz_ty (D := (dC, dI)) (cl := vwCl) (A := (fun _ => True)) (H := H) [(a 29, .inr (1, [.ref (a 30), .ref (a 31), .ref (a 32), .ref (a 33), .int (nI nd)])), (a 30, .inl (cI, 300, .inl fo)), (a 31, .inl (cI, 300, .inl fc)), (a 32, .inl (cI, 300, .inl fs)), (a 33, .inl (cI, 300, .inl fu))] hP hD rfl
  have hl : lv_has ls 4 [(0, .ref (a 29)), (1, .int p0), (2, .int y), (3, .int (nI j))] := hl
  have hI : j ≤ nd ∧ y = zz_nc fo fc fu p0 j := hI
  obtain ⟨ij, iy⟩ := hI
  refine lv_iload_n hx hb dX1_net_4 rfl (lv_at hl 3 rfl) ?_
  refine lv_aload_n hx hb dX1_net_5 rfl (lv_at hl 0 rfl) ?_
  refine va_get (D := (dC, dI)) (ci := 1) (v := .int (nI nd)) (C := RX1) (T := TX1) (N := 5) hx hb hw zz_inX1 hown hK hP 0 rfl rfl 4 (by decide) (hw _ tw_14) (fun _ h9 => h9) rfl dX1_net_6 ?_
  refine lv_icmp_ge (tgt := 59) hx hb dX1_net_9 (by decide) (fun c_1 => ?_) (fun c_1 => ?_)
  · have zc_1 := c_1
    rw [Int32.le_iff_toInt_le] at zc_1
    try rw [zz_toInt j (by omega)] at zc_1
    try rw [zz_toInt nd (by omega)] at zc_1
    refine lv_iload_n hx hb dX1_net_59 rfl (lv_at hl 2 rfl) ?_
    exact W.iret (v := y) hx hb hr (fun t ht hW => ⟨⟨y, (), rfl, (by rw [show nd = j from by omega]; exact iy), trivial⟩, hS.F ht⟩) hS.2.2 dX1_net_60
  · have zc_1 := c_1
    rw [Int32.le_iff_toInt_le] at zc_1
    try rw [zz_toInt j (by omega)] at zc_1
    try rw [zz_toInt nd (by omega)] at zc_1
    refine lv_aload_n hx hb dX1_net_12 rfl (lv_at hl 0 rfl) ?_
    refine va_get (D := (dC, dI)) (ci := 1) (v := .ref (a 31)) (C := RX1) (T := TX1) (N := 5) hx hb hw zz_inX1 hown hK hP 0 rfl rfl 1 (by decide) (hw _ tw_13) (fun _ h9 => h9) rfl dX1_net_13 ?_
    refine lv_iload_n hx hb dX1_net_16 rfl (lv_at hl 3 rfl) ?_
    refine va_iald hx hb hK hP 2 0 rfl rfl (vp_in_iff.mpr (by rw [zz_toInt j (by omega)]; constructor <;> omega)) dX1_net_17 ?_
    refine zz_seti (fc j) (congrArg fc (zz_cl (by omega))) ?_
    refine lv_iload_n hx hb dX1_net_18 rfl (lv_at hl 1 rfl) ?_
    refine lv_icmp_ne (tgt := 34) hx hb dX1_net_19 (by decide) (fun c_2 => ?_) (fun c_2 => ?_)
    · have zc_2 := c_2
      rw [← Int32.toInt_inj] at zc_2
      refine lv_aload_n hx hb dX1_net_34 rfl (lv_at hl 0 rfl) ?_
      refine va_get (D := (dC, dI)) (ci := 1) (v := .ref (a 30)) (C := RX1) (T := TX1) (N := 5) hx hb hw zz_inX1 hown hK hP 0 rfl rfl 0 (by decide) (hw _ tw_12) (fun _ h9 => h9) rfl dX1_net_35 ?_
      refine lv_iload_n hx hb dX1_net_38 rfl (lv_at hl 3 rfl) ?_
      refine va_iald hx hb hK hP 1 0 rfl rfl (vp_in_iff.mpr (by rw [zz_toInt j (by omega)]; constructor <;> omega)) dX1_net_39 ?_
      refine zz_seti (fo j) (congrArg fo (zz_cl (by omega))) ?_
      refine lv_iload_n hx hb dX1_net_40 rfl (lv_at hl 1 rfl) ?_
      refine lv_icmp_ne (tgt := 53) hx hb dX1_net_41 (by decide) (fun c_3 => ?_) (fun c_3 => ?_)
      · have zc_3 := c_3
        rw [← Int32.toInt_inj] at zc_3
        refine lv_iinc (v := (nI (j + 1))) (lv' := [(3, .int (nI (j + 1))), (0, .ref (a 29)), (1, .int p0), (2, .int y)]) hx hb dX1_net_53 hl (k := 3) rfl (nI_1 _) (by decide) rfl (fun ls hl => ?_)
        refine lv_goto (tgt := 4) hx hb dX1_net_56 (by decide) ?_
        exact ih_4 ((j + 1), y) ⟨by omega, zz_nc_n iy c_2 c_3⟩ (show nd - (j + 1) < nd - j from by omega) _ _ _ (hP.sub [0, 1, 2, 3, 4] rfl) (hD.sub [0, 1, 2, 3, 4] (by decide) rfl) hS (lv_sub hl [1, 2, 3, 0] rfl)
      · have zc_3 := c_3
        rw [← Int32.toInt_inj] at zc_3
        refine lv_iload_n hx hb dX1_net_44 rfl (lv_at hl 2 rfl) ?_
        refine lv_aload_n hx hb dX1_net_45 rfl (lv_at hl 0 rfl) ?_
        refine va_get (D := (dC, dI)) (ci := 1) (v := .ref (a 33)) (C := RX1) (T := TX1) (N := 5) hx hb hw zz_inX1 hown hK hP 0 rfl rfl 3 (by decide) (hw _ tw_20) (fun _ h9 => h9) rfl dX1_net_46 ?_
        refine lv_iload_n hx hb dX1_net_49 rfl (lv_at hl 3 rfl) ?_
        refine va_iald hx hb hK hP 4 0 rfl rfl (vp_in_iff.mpr (by rw [zz_toInt j (by omega)]; constructor <;> omega)) dX1_net_50 ?_
        refine zz_seti (fu j) (congrArg fu (zz_cl (by omega))) ?_
        refine lv_isub hx hb dX1_net_51 ?_
        refine lv_istore_n (lv' := [(2, .int (y - (fu j))), (0, .ref (a 29)), (1, .int p0), (3, .int (nI j))]) hx hb dX1_net_52 rfl hl (by decide) rfl (fun ls hl => ?_)
        refine lv_iinc (v := (nI (j + 1))) (lv' := [(3, .int (nI (j + 1))), (2, .int (y - (fu j))), (0, .ref (a 29)), (1, .int p0)]) hx hb dX1_net_53 hl (k := 3) rfl (nI_1 _) (by decide) rfl (fun ls hl => ?_)
        refine lv_goto (tgt := 4) hx hb dX1_net_56 (by decide) ?_
        exact ih_4 ((j + 1), (y - (fu j))) ⟨by omega, zz_nc_o iy c_2 c_3⟩ (show nd - (j + 1) < nd - j from by omega) _ _ _ (hP.sub [0, 1, 2, 3, 4] rfl) (hD.sub [0, 1, 2, 3, 4] (by decide) rfl) hS (lv_sub hl [2, 3, 1, 0] rfl)
    · have zc_2 := c_2
      rw [← Int32.toInt_inj] at zc_2
      refine lv_iload_n hx hb dX1_net_22 rfl (lv_at hl 2 rfl) ?_
      refine lv_aload_n hx hb dX1_net_23 rfl (lv_at hl 0 rfl) ?_
      refine va_get (D := (dC, dI)) (ci := 1) (v := .ref (a 33)) (C := RX1) (T := TX1) (N := 5) hx hb hw zz_inX1 hown hK hP 0 rfl rfl 3 (by decide) (hw _ tw_20) (fun _ h9 => h9) rfl dX1_net_24 ?_
      refine lv_iload_n hx hb dX1_net_27 rfl (lv_at hl 3 rfl) ?_
      refine va_iald hx hb hK hP 4 0 rfl rfl (vp_in_iff.mpr (by rw [zz_toInt j (by omega)]; constructor <;> omega)) dX1_net_28 ?_
      refine zz_seti (fu j) (congrArg fu (zz_cl (by omega))) ?_
      refine lv_iadd hx hb dX1_net_29 ?_
      refine lv_istore_n (lv' := [(2, .int (y + (fu j))), (0, .ref (a 29)), (1, .int p0), (3, .int (nI j))]) hx hb dX1_net_30 rfl hl (by decide) rfl (fun ls hl => ?_)
      refine lv_goto (tgt := 53) hx hb dX1_net_31 (by decide) ?_
      refine lv_iinc (v := (nI (j + 1))) (lv' := [(3, .int (nI (j + 1))), (2, .int (y + (fu j))), (0, .ref (a 29)), (1, .int p0)]) hx hb dX1_net_53 hl (k := 3) rfl (nI_1 _) (by decide) rfl (fun ls hl => ?_)
      refine lv_goto (tgt := 4) hx hb dX1_net_56 (by decide) ?_
      exact ih_4 ((j + 1), (y + (fu j))) ⟨by omega, zz_nc_c iy c_2 (hoc j (by omega))⟩ (show nd - (j + 1) < nd - j from by omega) _ _ _ (hP.sub [0, 1, 2, 3, 4] rfl) (hD.sub [0, 1, 2, 3, 4] (by decide) rfl) hS (lv_sub hl [2, 3, 1, 0] rfl)
set_option maxHeartbeats 4000000 in
set_option maxRecDepth 100000 in
theorem kx_dropEmpty (l : Launch) (dC : Nat → ClassId) (dI : Nat → Nat → Nat) (a : Nat → Nat) (cI : ClassId) (nd : Nat) (fo : Nat → Int32) (fc : Nat → Int32) (fs : Nat → Int32) (fu : Nat → Int32) (sz : Nat) (hnd : nd ≤ 300) : Met l yX1_dropEmpty (zz_w yX1_dropEmpty cX1_dropEmpty 3 none) ({ frames := 0, cells := 0, slots := 0, locals := 0 }) (va_Pc [.ref (a 29)] (zz_B (dC, dI) sz [(a 29, .inr (1, [.ref (a 30), .ref (a 31), .ref (a 32), .ref (a 33), .int (nI nd)])), (a 30, .inl (cI, 300, .inl fo)), (a 31, .inl (cI, 300, .inl fc)), (a 32, .inl (cI, 300, .inl fs)), (a 33, .inl (cI, 300, .inl fu))] [(cI, .int)])) (va_Qv (fun (u : Nat × (Nat → Int32) × (Nat → Int32) × (Nat → Int32) × (Nat → Int32)) => match u with | (nd2, o2, c2, s2, u2) => nd2 ≤ nd ∧ (nd2, o2, c2, s2, u2) = zz_dr (0, fo, fc, fs, fu) nd) (fun (u : Nat × (Nat → Int32) × (Nat → Int32) × (Nat → Int32) × (Nat → Int32)) (t : State) => match u with | (u0, u1, u2, u3, u4) => va_P (dC, dI) vwCl [(a 29, .inr (1, [.ref (a 30), .ref (a 31), .ref (a 32), .ref (a 33), .int (nI u0)])), (a 30, .inl (cI, 300, .inl u1)), (a 31, .inl (cI, 300, .inl u2)), (a 32, .inl (cI, 300, .inl u3)), (a 33, .inl (cI, 300, .inl u4))] t.heap ∧ va_K (dC, dI) vwCl [(cI, .int)] t ∧ va_D (va_A [(a 29, .inr (1, [.ref (a 30), .ref (a 31), .ref (a 32), .ref (a 33), .int (nI nd)])), (a 30, .inl (cI, 300, .inl fo)), (a 31, .inl (cI, 300, .inl fc)), (a 32, .inl (cI, 300, .inl fs)), (a 33, .inl (cI, 300, .inl fu))] sz) [(a 29, .inr (1, [.ref (a 30), .ref (a 31), .ref (a 32), .ref (a 33), .int (nI u0)])), (a 30, .inl (cI, 300, .inl u1)), (a 31, .inl (cI, 300, .inl u2)), (a 32, .inl (cI, 300, .inl u3)), (a 33, .inl (cI, 300, .inl u4))]) (va_A [(a 29, .inr (1, [.ref (a 30), .ref (a 31), .ref (a 32), .ref (a 33), .int (nI nd)])), (a 30, .inl (cI, 300, .inl fo)), (a 31, .inl (cI, 300, .inl fc)), (a 32, .inl (cI, 300, .inl fs)), (a 33, .inl (cI, 300, .inl fu))] sz)) 0 0 (va_A [(a 29, .inr (1, [.ref (a 30), .ref (a 31), .ref (a 32), .ref (a 33), .int (nI nd)])), (a 30, .inl (cI, 300, .inl fo)), (a 31, .inl (cI, 300, .inl fc)), (a 32, .inl (cI, 300, .inl fs)), (a 33, .inl (cI, 300, .inl fu))] sz) := by
  refine Met.ofW (cc := cX1_dropEmpty) (maxL := 3) (ret := none) (by decide) rfl ?_
  intro p e s m args below meth c s₁ B hml hv
  obtain ⟨rfl, hsz, hP, hK, hD0, hN⟩ := hv
  have hx := B.exec
  have hb := B.bytes
  have hr := B.returns
  have hts := atoms_spec (ws := zz_w yX1_dropEmpty cX1_dropEmpty 3 none) B.pre
  have hw : ∀ w ∈ zz_all, w.before _ s = true := fun w h => hts w (List.mem_cons_of_mem _ h)
  have hown : s.vm.findClass RX1 = some m.cls := findClass_of_methodNamed B.named
  have hlocks := B.notSynchronized
  subst hsz
  have hD := hD0.self (sz := s.heap.size)
  generalize hAe : va_A [(a 29, .inr (1, [.ref (a 30), .ref (a 31), .ref (a 32), .ref (a 33), .int (nI nd)])), (a 30, .inl (cI, 300, .inl fo)), (a 31, .inl (cI, 300, .inl fc)), (a 32, .inl (cI, 300, .inl fs)), (a 33, .inl (cI, 300, .inl fu))] s.heap.size = A at hD ⊢
  have hA : ∀ q : Nat, s.heap.size ≤ q → A q := fun q h => by rw [← hAe]; exact Or.inr h
  have hS : va_S A s.heap s.heap [] := va_S.rf
  have hP : va_P (dC, dI) vwCl [(a 29, .inr (1, [.ref (a 30), .ref (a 31), .ref (a 32), .ref (a 33), .int (nI nd)])), (a 30, .inl (cI, 300, .inl fo)), (a 31, .inl (cI, 300, .inl fc)), (a 32, .inl (cI, 300, .inl fs)), (a 33, .inl (cI, 300, .inl fu))] s.heap := hP
  have hl := lv_entry ([.ref (a 29)]) (n := 3) (Nat.le_of_ble_eq_true rfl)
  rw [lg_entry_eq]
  generalize (lg_sl ([.ref (a 29)]) ++ List.replicate (3 - (lg_sl ([.ref (a 29)])).length) Slot.unset).toArray = ls at hl ⊢
  have hl : lv_has ls 3 [(0, .ref (a 29))] := hl
  refine lv_iconst (v := 0) hx hb dX1_dropEmpty_0 (by decide) ?_
  refine lv_istore_n (lv' := [(1, .int 0), (0, .ref (a 29))]) hx hb dX1_dropEmpty_1 rfl hl (by decide) rfl (fun ls hl => ?_)
  refine lv_iconst (v := 0) hx hb dX1_dropEmpty_2 (by decide) ?_
  refine lv_istore_n (lv' := [(2, .int 0), (1, .int 0), (0, .ref (a 29))]) hx hb dX1_dropEmpty_3 rfl hl (by decide) rfl (fun ls hl => ?_)
  refine zz_loopS (fun (u : (Nat) × (Nat) × (Nat → Int32) × (Nat → Int32) × (Nat → Int32) × (Nat → Int32)) => match u with | (j, k, go, gc, gs, gu) => [(a 29, .inr (1, [.ref (a 30), .ref (a 31), .ref (a 32), .ref (a 33), .int (nI nd)])), (a 30, .inl (cI, 300, .inl go)), (a 31, .inl (cI, 300, .inl gc)), (a 32, .inl (cI, 300, .inl gs)), (a 33, .inl (cI, 300, .inl gu))]) (fun (u : (Nat) × (Nat) × (Nat → Int32) × (Nat → Int32) × (Nat → Int32) × (Nat → Int32)) => match u with | (j, k, go, gc, gs, gu) => [(0, .ref (a 29)), (1, .int (nI k)), (2, .int (nI j))]) (fun (u : (Nat) × (Nat) × (Nat → Int32) × (Nat → Int32) × (Nat → Int32) × (Nat → Int32)) => match u with | (j, k, go, gc, gs, gu) => j ≤ nd ∧ k ≤ j ∧ (k, go, gc, gs, gu) = zz_dr (0, fo, fc, fs, fu) j) (fun (u : (Nat) × (Nat) × (Nat → Int32) × (Nat → Int32) × (Nat → Int32) × (Nat → Int32)) => match u with | (j, k, go, gc, gs, gu) => nd - j) (fun u hI H locs ls hP hD hS hl ih_4 => ?_) (0, 0, fo, fc, fs, fu) ⟨by omega, by omega, rfl⟩ _ _ _ (hP.sub [0, 1, 2, 3, 4] rfl) (hD.sub [0, 1, 2, 3, 4] (by decide) rfl) hS (lv_sub hl [2, 1, 0] rfl)
  obtain ⟨j, k, go, gc, gs, gu⟩ := u
  obtain ⟨hP, hD⟩ := zz_ty (D := (dC, dI)) (cl := vwCl) (A := A) (H := H) [(a 29, .inr (1, [.ref (a 30), .ref (a 31), .ref (a 32), .ref (a 33), .int (nI nd)])), (a 30, .inl (cI, 300, .inl go)), (a 31, .inl (cI, 300, .inl gc)), (a 32, .inl (cI, 300, .inl gs)), (a 33, .inl (cI, 300, .inl gu))] hP hD rfl
  have hl : lv_has ls 3 [(0, .ref (a 29)), (1, .int (nI k)), (2, .int (nI j))] := hl
  have hI : j ≤ nd ∧ k ≤ j ∧ (k, go, gc, gs, gu) = zz_dr (0, fo, fc, fs, fu) j := hI
  obtain ⟨ij, ik, ie⟩ := hI
  refine lv_iload_n hx hb dX1_dropEmpty_4 rfl (lv_at hl 2 rfl) ?_
  refine lv_aload_n hx hb dX1_dropEmpty_5 rfl (lv_at hl 0 rfl) ?_
  refine va_get (D := (dC, dI)) (ci := 1) (v := .int (nI nd)) (C := RX1) (T := TX1) (N := 5) hx hb hw zz_inX1 hown hK hP 0 rfl rfl 4 (by decide) (hw _ tw_14) (fun _ h9 => h9) rfl dX1_dropEmpty_6 ?_
  refine lv_icmp_ge (tgt := 78) hx hb dX1_dropEmpty_9 (by decide) (fun c_1 => ?_) (fun c_1 => ?_)
  · have zc_1 := c_1
    rw [Int32.le_iff_toInt_le] at zc_1
    try rw [zz_toInt j (by omega)] at zc_1
    try rw [zz_toInt nd (by omega)] at zc_1
    refine lv_aload_n hx hb dX1_dropEmpty_78 rfl (lv_at hl 0 rfl) ?_
    refine lv_iload_n hx hb dX1_dropEmpty_79 rfl (lv_at hl 1 rfl) ?_
    refine va_put (D := (dC, dI)) (ci := 1) (v := .int (nI k)) (ty := .int) (C := RX1) (T := TX1) (N := 5) hx hb hw zz_inX1 tyX1 tyX1_ok nmX1 hown hK hP hD hS 0 rfl rfl 4 (by decide) (hw _ tw_14) (fun _ h9 => h9) rfl (by decide +kernel) rfl rfl (Nat.le_of_ble_eq_true rfl) dX1_dropEmpty_80 (fun H locs hP hD hS => ?_)
    obtain ⟨hP, hD⟩ := zz_ty (D := (dC, dI)) (cl := vwCl) (A := A) (H := H) [(a 29, .inr (1, [.ref (a 30), .ref (a 31), .ref (a 32), .ref (a 33), .int (nI k)])), (a 30, .inl (cI, 300, .inl go)), (a 31, .inl (cI, 300, .inl gc)), (a 32, .inl (cI, 300, .inl gs)), (a 33, .inl (cI, 300, .inl gu))] hP hD rfl
    obtain ⟨hP9, hD9⟩ := zz_sub2 (ws' := [(a 29, .inr (1, [.ref (a 30), .ref (a 31), .ref (a 32), .ref (a 33), .int (nI k)])), (a 30, .inl (cI, 300, .inl go)), (a 31, .inl (cI, 300, .inl gc)), (a 32, .inl (cI, 300, .inl gs)), (a 33, .inl (cI, 300, .inl gu))]) hP hD [0, 1, 2, 3, 4] (by decide) rfl
    have hK9 := hK.sub (tys' := [(cI, .int)]) [0] rfl
    exact W.vret hx hb hr (fun t ht hW => ⟨⟨(k, go, gc, gs, gu), rfl, ⟨(by omega), (by rw [show nd = j from by omega]; exact ie)⟩, by rw [ht]; exact hP9, va_K.moved hW.alike hK9, hD9⟩, hS.F ht⟩) hS.2.2 dX1_dropEmpty_83
  · have zc_1 := c_1
    rw [Int32.le_iff_toInt_le] at zc_1
    try rw [zz_toInt j (by omega)] at zc_1
    try rw [zz_toInt nd (by omega)] at zc_1
    refine lv_aload_n hx hb dX1_dropEmpty_12 rfl (lv_at hl 0 rfl) ?_
    refine va_get (D := (dC, dI)) (ci := 1) (v := .ref (a 33)) (C := RX1) (T := TX1) (N := 5) hx hb hw zz_inX1 hown hK hP 0 rfl rfl 3 (by decide) (hw _ tw_20) (fun _ h9 => h9) rfl dX1_dropEmpty_13 ?_
    refine lv_iload_n hx hb dX1_dropEmpty_16 rfl (lv_at hl 2 rfl) ?_
    refine va_iald hx hb hK hP 4 0 rfl rfl (vp_in_iff.mpr (by rw [zz_toInt j (by omega)]; constructor <;> omega)) dX1_dropEmpty_17 ?_
    refine zz_seti (gu j) (congrArg gu (zz_cl (by omega))) ?_
    refine lv_if_le (tgt := 72) hx hb dX1_dropEmpty_18 (by decide) (fun c_2 => ?_) (fun c_2 => ?_)
    · have zc_2 := c_2
      rw [Int32.le_iff_toInt_le] at zc_2
      try rw [show (0 : Int32).toInt = 0 from by decide] at zc_2
      refine lv_iinc (v := (nI (j + 1))) (lv' := [(2, .int (nI (j + 1))), (0, .ref (a 29)), (1, .int (nI k))]) hx hb dX1_dropEmpty_72 hl (k := 2) rfl (nI_1 _) (by decide) rfl (fun ls hl => ?_)
      refine lv_goto (tgt := 4) hx hb dX1_dropEmpty_75 (by decide) ?_
      exact ih_4 ((j + 1), k, go, gc, gs, gu) ⟨by omega, by omega, zz_dr_n ie (by omega)⟩ (show nd - (j + 1) < nd - j from by omega) _ _ _ (hP.sub [0, 1, 2, 3, 4] rfl) (hD.sub [0, 1, 2, 3, 4] (by decide) rfl) hS (lv_sub hl [1, 2, 0] rfl)
    · have zc_2 := c_2
      rw [Int32.le_iff_toInt_le] at zc_2
      try rw [show (0 : Int32).toInt = 0 from by decide] at zc_2
      refine lv_aload_n hx hb dX1_dropEmpty_21 rfl (lv_at hl 0 rfl) ?_
      refine va_get (D := (dC, dI)) (ci := 1) (v := .ref (a 30)) (C := RX1) (T := TX1) (N := 5) hx hb hw zz_inX1 hown hK hP 0 rfl rfl 0 (by decide) (hw _ tw_12) (fun _ h9 => h9) rfl dX1_dropEmpty_22 ?_
      refine lv_iload_n hx hb dX1_dropEmpty_25 rfl (lv_at hl 1 rfl) ?_
      refine lv_aload_n hx hb dX1_dropEmpty_26 rfl (lv_at hl 0 rfl) ?_
      refine va_get (D := (dC, dI)) (ci := 1) (v := .ref (a 30)) (C := RX1) (T := TX1) (N := 5) hx hb hw zz_inX1 hown hK hP 0 rfl rfl 0 (by decide) (hw _ tw_12) (fun _ h9 => h9) rfl dX1_dropEmpty_27 ?_
      refine lv_iload_n hx hb dX1_dropEmpty_30 rfl (lv_at hl 2 rfl) ?_
      refine va_iald hx hb hK hP 1 0 rfl rfl (vp_in_iff.mpr (by rw [zz_toInt j (by omega)]; constructor <;> omega)) dX1_dropEmpty_31 ?_
      refine zz_seti (go j) (congrArg go (zz_cl (by omega))) ?_
      refine va_iast hx hb hK hP hD hS 1 0 rfl rfl (vp_in_iff.mpr (by rw [zz_toInt k (by omega)]; constructor <;> omega)) dX1_dropEmpty_32 (fun H locs hP hD hS => ?_)
      obtain ⟨hP, hD⟩ := zz_ty (D := (dC, dI)) (cl := vwCl) (A := A) (H := H) [(a 29, .inr (1, [.ref (a 30), .ref (a 31), .ref (a 32), .ref (a 33), .int (nI nd)])), (a 30, .inl (cI, 300, .inl (upd go (Int32.toNatClampNeg (nI k)) (go j)))), (a 31, .inl (cI, 300, .inl gc)), (a 32, .inl (cI, 300, .inl gs)), (a 33, .inl (cI, 300, .inl gu))] hP hD rfl
      refine lv_aload_n hx hb dX1_dropEmpty_33 rfl (lv_at hl 0 rfl) ?_
      refine va_get (D := (dC, dI)) (ci := 1) (v := .ref (a 31)) (C := RX1) (T := TX1) (N := 5) hx hb hw zz_inX1 hown hK hP 0 rfl rfl 1 (by decide) (hw _ tw_13) (fun _ h9 => h9) rfl dX1_dropEmpty_34 ?_
      refine lv_iload_n hx hb dX1_dropEmpty_37 rfl (lv_at hl 1 rfl) ?_
      refine lv_aload_n hx hb dX1_dropEmpty_38 rfl (lv_at hl 0 rfl) ?_
      refine va_get (D := (dC, dI)) (ci := 1) (v := .ref (a 31)) (C := RX1) (T := TX1) (N := 5) hx hb hw zz_inX1 hown hK hP 0 rfl rfl 1 (by decide) (hw _ tw_13) (fun _ h9 => h9) rfl dX1_dropEmpty_39 ?_
      refine lv_iload_n hx hb dX1_dropEmpty_42 rfl (lv_at hl 2 rfl) ?_
      refine va_iald hx hb hK hP 2 0 rfl rfl (vp_in_iff.mpr (by rw [zz_toInt j (by omega)]; constructor <;> omega)) dX1_dropEmpty_43 ?_
      refine zz_seti (gc j) (congrArg gc (zz_cl (by omega))) ?_
      refine va_iast hx hb hK hP hD hS 2 0 rfl rfl (vp_in_iff.mpr (by rw [zz_toInt k (by omega)]; constructor <;> omega)) dX1_dropEmpty_44 (fun H locs hP hD hS => ?_)
      obtain ⟨hP, hD⟩ := zz_ty (D := (dC, dI)) (cl := vwCl) (A := A) (H := H) [(a 29, .inr (1, [.ref (a 30), .ref (a 31), .ref (a 32), .ref (a 33), .int (nI nd)])), (a 30, .inl (cI, 300, .inl (upd go (Int32.toNatClampNeg (nI k)) (go j)))), (a 31, .inl (cI, 300, .inl (upd gc (Int32.toNatClampNeg (nI k)) (gc j)))), (a 32, .inl (cI, 300, .inl gs)), (a 33, .inl (cI, 300, .inl gu))] hP hD rfl
      refine lv_aload_n hx hb dX1_dropEmpty_45 rfl (lv_at hl 0 rfl) ?_
      refine va_get (D := (dC, dI)) (ci := 1) (v := .ref (a 32)) (C := RX1) (T := TX1) (N := 5) hx hb hw zz_inX1 hown hK hP 0 rfl rfl 2 (by decide) (hw _ tw_21) (fun _ h9 => h9) rfl dX1_dropEmpty_46 ?_
      refine lv_iload_n hx hb dX1_dropEmpty_49 rfl (lv_at hl 1 rfl) ?_
      refine lv_aload_n hx hb dX1_dropEmpty_50 rfl (lv_at hl 0 rfl) ?_
      refine va_get (D := (dC, dI)) (ci := 1) (v := .ref (a 32)) (C := RX1) (T := TX1) (N := 5) hx hb hw zz_inX1 hown hK hP 0 rfl rfl 2 (by decide) (hw _ tw_21) (fun _ h9 => h9) rfl dX1_dropEmpty_51 ?_
      refine lv_iload_n hx hb dX1_dropEmpty_54 rfl (lv_at hl 2 rfl) ?_
      refine va_iald hx hb hK hP 3 0 rfl rfl (vp_in_iff.mpr (by rw [zz_toInt j (by omega)]; constructor <;> omega)) dX1_dropEmpty_55 ?_
      refine zz_seti (gs j) (congrArg gs (zz_cl (by omega))) ?_
      refine va_iast hx hb hK hP hD hS 3 0 rfl rfl (vp_in_iff.mpr (by rw [zz_toInt k (by omega)]; constructor <;> omega)) dX1_dropEmpty_56 (fun H locs hP hD hS => ?_)
      obtain ⟨hP, hD⟩ := zz_ty (D := (dC, dI)) (cl := vwCl) (A := A) (H := H) [(a 29, .inr (1, [.ref (a 30), .ref (a 31), .ref (a 32), .ref (a 33), .int (nI nd)])), (a 30, .inl (cI, 300, .inl (upd go (Int32.toNatClampNeg (nI k)) (go j)))), (a 31, .inl (cI, 300, .inl (upd gc (Int32.toNatClampNeg (nI k)) (gc j)))), (a 32, .inl (cI, 300, .inl (upd gs (Int32.toNatClampNeg (nI k)) (gs j)))), (a 33, .inl (cI, 300, .inl gu))] hP hD rfl
      refine lv_aload_n hx hb dX1_dropEmpty_57 rfl (lv_at hl 0 rfl) ?_
      refine va_get (D := (dC, dI)) (ci := 1) (v := .ref (a 33)) (C := RX1) (T := TX1) (N := 5) hx hb hw zz_inX1 hown hK hP 0 rfl rfl 3 (by decide) (hw _ tw_20) (fun _ h9 => h9) rfl dX1_dropEmpty_58 ?_
      refine lv_iload_n hx hb dX1_dropEmpty_61 rfl (lv_at hl 1 rfl) ?_
      refine lv_aload_n hx hb dX1_dropEmpty_62 rfl (lv_at hl 0 rfl) ?_
      refine va_get (D := (dC, dI)) (ci := 1) (v := .ref (a 33)) (C := RX1) (T := TX1) (N := 5) hx hb hw zz_inX1 hown hK hP 0 rfl rfl 3 (by decide) (hw _ tw_20) (fun _ h9 => h9) rfl dX1_dropEmpty_63 ?_
      refine lv_iload_n hx hb dX1_dropEmpty_66 rfl (lv_at hl 2 rfl) ?_
      refine va_iald hx hb hK hP 4 0 rfl rfl (vp_in_iff.mpr (by rw [zz_toInt j (by omega)]; constructor <;> omega)) dX1_dropEmpty_67 ?_
      refine zz_seti (gu j) (congrArg gu (zz_cl (by omega))) ?_
      refine va_iast hx hb hK hP hD hS 4 0 rfl rfl (vp_in_iff.mpr (by rw [zz_toInt k (by omega)]; constructor <;> omega)) dX1_dropEmpty_68 (fun H locs hP hD hS => ?_)
      obtain ⟨hP, hD⟩ := zz_ty (D := (dC, dI)) (cl := vwCl) (A := A) (H := H) [(a 29, .inr (1, [.ref (a 30), .ref (a 31), .ref (a 32), .ref (a 33), .int (nI nd)])), (a 30, .inl (cI, 300, .inl (upd go (Int32.toNatClampNeg (nI k)) (go j)))), (a 31, .inl (cI, 300, .inl (upd gc (Int32.toNatClampNeg (nI k)) (gc j)))), (a 32, .inl (cI, 300, .inl (upd gs (Int32.toNatClampNeg (nI k)) (gs j)))), (a 33, .inl (cI, 300, .inl (upd gu (Int32.toNatClampNeg (nI k)) (gu j))))] hP hD rfl
      refine lv_iinc (v := (nI (k + 1))) (lv' := [(1, .int (nI (k + 1))), (0, .ref (a 29)), (2, .int (nI j))]) hx hb dX1_dropEmpty_69 hl (k := 1) rfl (nI_1 _) (by decide) rfl (fun ls hl => ?_)
      refine lv_iinc (v := (nI (j + 1))) (lv' := [(2, .int (nI (j + 1))), (1, .int (nI (k + 1))), (0, .ref (a 29))]) hx hb dX1_dropEmpty_72 hl (k := 2) rfl (nI_1 _) (by decide) rfl (fun ls hl => ?_)
      refine lv_goto (tgt := 4) hx hb dX1_dropEmpty_75 (by decide) ?_
      exact ih_4 ((j + 1), (k + 1), (upd go (Int32.toNatClampNeg (nI k)) (go j)), (upd gc (Int32.toNatClampNeg (nI k)) (gc j)), (upd gs (Int32.toNatClampNeg (nI k)) (gs j)), (upd gu (Int32.toNatClampNeg (nI k)) (gu j))) ⟨by omega, by omega, zz_dr_y ie (by omega)⟩ (show nd - (j + 1) < nd - j from by omega) _ _ _ (hP.sub [0, 1, 2, 3, 4] rfl) (hD.sub [0, 1, 2, 3, 4] (by decide) rfl) hS (lv_sub hl [2, 1, 0] rfl)
set_option maxHeartbeats 4000000 in
set_option maxRecDepth 100000 in
theorem kx_lessen (l : Launch) (dC : Nat → ClassId) (dI : Nat → Nat → Nat) (a : Nat → Nat) (cI : ClassId) (nd : Nat) (fo : Nat → Int32) (fc : Nat → Int32) (fs : Nat → Int32) (fu : Nat → Int32) (bu : Int) (p0 : Int32) (p1 : Int32) (p2 : Int32) (sz : Nat) (hnd : nd ≤ 300) (hru : zz_rg fu nd 0 bu) (hp2 : 0 ≤ p2.toInt) : Met l yX1_lessen (zz_w yX1_lessen cX1_lessen 7 (some .int)) ({ frames := 1, cells := 0, slots := 0, locals := 23 }) (va_Pc [.ref (a 29), .int p0, .int p1, .int p2] (zz_B (dC, dI) sz [(a 29, .inr (1, [.ref (a 30), .ref (a 31), .ref (a 32), .ref (a 33), .int (nI nd)])), (a 30, .inl (cI, 300, .inl fo)), (a 31, .inl (cI, 300, .inl fc)), (a 32, .inl (cI, 300, .inl fs)), (a 33, .inl (cI, 300, .inl fu))] [(cI, .int)])) (va_Qi (fun (r : Int32) (u : Nat × (Nat → Int32) × (Nat → Int32) × (Nat → Int32) × (Nat → Int32)) => match u with | (nd2, o2, c2, s2, u2) => nd2 ≤ nd ∧ ∃ gu : Nat → Int32, (r, gu) = (zz_le fo fc p0 p1 (p2, fu) nd) ∧ (nd2, o2, c2, s2, u2) = zz_dr (0, fo, fc, fs, gu) nd) (fun (u : Nat × (Nat → Int32) × (Nat → Int32) × (Nat → Int32) × (Nat → Int32)) (t : State) => match u with | (u0, u1, u2, u3, u4) => va_P (dC, dI) vwCl [(a 29, .inr (1, [.ref (a 30), .ref (a 31), .ref (a 32), .ref (a 33), .int (nI u0)])), (a 30, .inl (cI, 300, .inl u1)), (a 31, .inl (cI, 300, .inl u2)), (a 32, .inl (cI, 300, .inl u3)), (a 33, .inl (cI, 300, .inl u4))] t.heap ∧ va_K (dC, dI) vwCl [(cI, .int)] t ∧ va_D (va_A [(a 29, .inr (1, [.ref (a 30), .ref (a 31), .ref (a 32), .ref (a 33), .int (nI nd)])), (a 30, .inl (cI, 300, .inl fo)), (a 31, .inl (cI, 300, .inl fc)), (a 32, .inl (cI, 300, .inl fs)), (a 33, .inl (cI, 300, .inl fu))] sz) [(a 29, .inr (1, [.ref (a 30), .ref (a 31), .ref (a 32), .ref (a 33), .int (nI u0)])), (a 30, .inl (cI, 300, .inl u1)), (a 31, .inl (cI, 300, .inl u2)), (a 32, .inl (cI, 300, .inl u3)), (a 33, .inl (cI, 300, .inl u4))]) (va_A [(a 29, .inr (1, [.ref (a 30), .ref (a 31), .ref (a 32), .ref (a 33), .int (nI nd)])), (a 30, .inl (cI, 300, .inl fo)), (a 31, .inl (cI, 300, .inl fc)), (a 32, .inl (cI, 300, .inl fs)), (a 33, .inl (cI, 300, .inl fu))] sz)) 0 0 (va_A [(a 29, .inr (1, [.ref (a 30), .ref (a 31), .ref (a 32), .ref (a 33), .int (nI nd)])), (a 30, .inl (cI, 300, .inl fo)), (a 31, .inl (cI, 300, .inl fc)), (a 32, .inl (cI, 300, .inl fs)), (a 33, .inl (cI, 300, .inl fu))] sz) := by
  refine Met.ofW (cc := cX1_lessen) (maxL := 7) (ret := (some .int)) (by decide) rfl ?_
  intro p e s m args below meth c s₁ B hml hv
  obtain ⟨rfl, hsz, hP, hK, hD0, hN⟩ := hv
  have hx := B.exec
  have hb := B.bytes
  have hr := B.returns
  have hts := atoms_spec (ws := zz_w yX1_lessen cX1_lessen 7 (some .int)) B.pre
  have hw : ∀ w ∈ zz_all, w.before _ s = true := fun w h => hts w (List.mem_cons_of_mem _ h)
  have hown : s.vm.findClass RX1 = some m.cls := findClass_of_methodNamed B.named
  have hlocks := B.notSynchronized
  subst hsz
  have hD := hD0.self (sz := s.heap.size)
  generalize hAe : va_A [(a 29, .inr (1, [.ref (a 30), .ref (a 31), .ref (a 32), .ref (a 33), .int (nI nd)])), (a 30, .inl (cI, 300, .inl fo)), (a 31, .inl (cI, 300, .inl fc)), (a 32, .inl (cI, 300, .inl fs)), (a 33, .inl (cI, 300, .inl fu))] s.heap.size = A at hD ⊢
  have hA : ∀ q : Nat, s.heap.size ≤ q → A q := fun q h => by rw [← hAe]; exact Or.inr h
  have hS : va_S A s.heap s.heap [] := va_S.rf
  have hP : va_P (dC, dI) vwCl [(a 29, .inr (1, [.ref (a 30), .ref (a 31), .ref (a 32), .ref (a 33), .int (nI nd)])), (a 30, .inl (cI, 300, .inl fo)), (a 31, .inl (cI, 300, .inl fc)), (a 32, .inl (cI, 300, .inl fs)), (a 33, .inl (cI, 300, .inl fu))] s.heap := hP
  have hl := lv_entry ([.ref (a 29), .int p0, .int p1, .int p2]) (n := 7) (Nat.le_of_ble_eq_true rfl)
  rw [lg_entry_eq]
  generalize (lg_sl ([.ref (a 29), .int p0, .int p1, .int p2]) ++ List.replicate (7 - (lg_sl ([.ref (a 29), .int p0, .int p1, .int p2])).length) Slot.unset).toArray = ls at hl ⊢
  have hl : lv_has ls 7 [(0, .ref (a 29)), (1, .int p0), (2, .int p1), (3, .int p2)] := hl
  refine lv_iload_n hx hb dX1_lessen_0 rfl (lv_at hl 3 rfl) ?_
  refine lv_istore (lv' := [(4, .int p2), (0, .ref (a 29)), (1, .int p0), (2, .int p1), (3, .int p2)]) hx hb dX1_lessen_1 hl (by decide) rfl (fun ls hl => ?_)
  refine lv_iconst (v := 0) hx hb dX1_lessen_3 (by decide) ?_
  refine lv_istore (lv' := [(5, .int 0), (4, .int p2), (0, .ref (a 29)), (1, .int p0), (2, .int p1), (3, .int p2)]) hx hb dX1_lessen_4 hl (by decide) rfl (fun ls hl => ?_)
  refine zz_loopS (fun (u : (Nat) × (Int32) × (Nat → Int32)) => match u with | (j, y, gu) => [(a 29, .inr (1, [.ref (a 30), .ref (a 31), .ref (a 32), .ref (a 33), .int (nI nd)])), (a 30, .inl (cI, 300, .inl fo)), (a 31, .inl (cI, 300, .inl fc)), (a 32, .inl (cI, 300, .inl fs)), (a 33, .inl (cI, 300, .inl gu))]) (fun (u : (Nat) × (Int32) × (Nat → Int32)) => match u with | (j, y, gu) => [(0, .ref (a 29)), (1, .int p0), (2, .int p1), (3, .int p2), (4, .int y), (5, .int (nI j))]) (fun (u : (Nat) × (Int32) × (Nat → Int32)) => match u with | (j, y, gu) => j ≤ nd ∧ (y, gu) = (zz_le fo fc p0 p1 (p2, fu) j)) (fun (u : (Nat) × (Int32) × (Nat → Int32)) => match u with | (j, y, gu) => nd - j) (fun u hI H locs ls hP hD hS hl ih_6 => ?_) (0, p2, fu) ⟨by omega, rfl⟩ _ _ _ (hP.sub [0, 1, 2, 3, 4] rfl) (hD.sub [0, 1, 2, 3, 4] (by decide) rfl) hS (lv_sub hl [2, 3, 4, 5, 1, 0] rfl)
  obtain ⟨j, y, gu⟩ := u
  obtain ⟨hP, hD⟩ := zz_ty (D := (dC, dI)) (cl := vwCl) (A := A) (H := H) [(a 29, .inr (1, [.ref (a 30), .ref (a 31), .ref (a 32), .ref (a 33), .int (nI nd)])), (a 30, .inl (cI, 300, .inl fo)), (a 31, .inl (cI, 300, .inl fc)), (a 32, .inl (cI, 300, .inl fs)), (a 33, .inl (cI, 300, .inl gu))] hP hD rfl
  have hl : lv_has ls 7 [(0, .ref (a 29)), (1, .int p0), (2, .int p1), (3, .int p2), (4, .int y), (5, .int (nI j))] := hl
  have hI : j ≤ nd ∧ (y, gu) = (zz_le fo fc p0 p1 (p2, fu) j) := hI
  obtain ⟨ij, ie⟩ := hI
  refine lv_iload hx hb dX1_lessen_6 (lv_at hl 5 rfl) ?_
  refine lv_aload_n hx hb dX1_lessen_8 rfl (lv_at hl 0 rfl) ?_
  refine va_get (D := (dC, dI)) (ci := 1) (v := .int (nI nd)) (C := RX1) (T := TX1) (N := 5) hx hb hw zz_inX1 hown hK hP 0 rfl rfl 4 (by decide) (hw _ tw_14) (fun _ h9 => h9) rfl dX1_lessen_9 ?_
  refine lv_icmp_ge (tgt := 70) hx hb dX1_lessen_12 (by decide) (fun c_1 => ?_) (fun c_1 => ?_)
  · have zc_1 := c_1
    rw [Int32.le_iff_toInt_le] at zc_1
    try rw [zz_toInt j (by omega)] at zc_1
    try rw [zz_toInt nd (by omega)] at zc_1
    have hle : (y, gu) = (zz_le fo fc p0 p1 (p2, fu) nd) := by rw [show nd = j from by omega]; exact ie
    refine lv_aload_n hx hb dX1_lessen_70 rfl (lv_at hl 0 rfl) ?_
    obtain ⟨hPc, hDc⟩ := zz_sub2 (ws' := [(a 29, .inr (1, [.ref (a 30), .ref (a 31), .ref (a 32), .ref (a 33), .int (nI nd)])), (a 30, .inl (cI, 300, .inl fo)), (a 31, .inl (cI, 300, .inl fc)), (a 32, .inl (cI, 300, .inl fs)), (a 33, .inl (cI, 300, .inl gu))]) hP hD [0, 1, 2, 3, 4] (by decide) rfl
    have hKc := hK.sub (tys' := [(cI, .int)]) [0] rfl
    have hFc := zz_free1 hDc hS hA
    refine va_callv (va_runV (As := []) (rest := []) ⟨hx, hb, hml, hown, hw⟩ (kx_dropEmpty l dC dI a cI nd fo fc fs gu H.size (by omega)) ⟨callB_of 0 hw (zz_good tw_22) rfl rfl rfl (hw _ tw_16) (hw _ tw_23) (by decide +kernel) ⟨Nat.le_of_ble_eq_true rfl, Nat.le_of_ble_eq_true rfl⟩, (hw _ tw_24), (hw _ tw_25)⟩ ⟨zz_blind, va_recv hKc hPc (ci := 1) (q0 := 0) rfl rfl, zz_pre hPc hKc hDc hN⟩ rfl rfl hl.1 rfl (lv_room (Nat.le_of_ble_eq_true rfl)) dX1_lessen_71 ⟨Nat.le_of_ble_eq_true rfl, Nat.le_of_ble_eq_true rfl⟩) hS (fun q _ h => hFc q h) hFc (fun u_2 t H1 locs ht hvm e_2 hB hz1 hk1 hS => ?_)
    try dsimp only at e_2
    obtain ⟨v_2_0, v_2_1, v_2_2, v_2_3, v_2_4⟩ := u_2
    obtain ⟨hP1, hK1, hD1⟩ := hB
    rw [ht] at hP1
    have hK1 := va_K.moved hvm.symm hK1
    try dsimp only at e_2
    obtain ⟨hP, hD⟩ := va_join (wr := []) (w1 := [(a 29, .inr (1, [.ref (a 30), .ref (a 31), .ref (a 32), .ref (a 33), .int (nI v_2_0)])), (a 30, .inl (cI, 300, .inl v_2_1)), (a 31, .inl (cI, 300, .inl v_2_2)), (a 32, .inl (cI, 300, .inl v_2_3)), (a 33, .inl (cI, 300, .inl v_2_4))]) hP hD [0, 1, 2, 3, 4] [] rfl rfl (by decide) (by decide) hk1 hFc hP1 hD1
    clear hk1 ht hvm
    generalize H1 = H at hP hS ⊢
    obtain ⟨hP, hD⟩ := zz_ty (D := (dC, dI)) (cl := vwCl) (A := A) (H := H) [(a 29, .inr (1, [.ref (a 30), .ref (a 31), .ref (a 32), .ref (a 33), .int (nI v_2_0)])), (a 30, .inl (cI, 300, .inl v_2_1)), (a 31, .inl (cI, 300, .inl v_2_2)), (a 32, .inl (cI, 300, .inl v_2_3)), (a 33, .inl (cI, 300, .inl v_2_4))] hP hD rfl
    refine lv_iload hx hb dX1_lessen_74 (lv_at hl 4 rfl) ?_
    obtain ⟨hP9, hD9⟩ := zz_sub2 (ws' := [(a 29, .inr (1, [.ref (a 30), .ref (a 31), .ref (a 32), .ref (a 33), .int (nI v_2_0)])), (a 30, .inl (cI, 300, .inl v_2_1)), (a 31, .inl (cI, 300, .inl v_2_2)), (a 32, .inl (cI, 300, .inl v_2_3)), (a 33, .inl (cI, 300, .inl v_2_4))]) hP hD [0, 1, 2, 3, 4] (by decide) rfl
    have hK9 := hK.sub (tys' := [(cI, .int)]) [0] rfl
    exact W.iret (v := y) hx hb hr (fun t ht hW => ⟨⟨y, (v_2_0, v_2_1, v_2_2, v_2_3, v_2_4), rfl, ⟨(by omega), gu, hle, e_2.2⟩, by rw [ht]; exact hP9, va_K.moved hW.alike hK9, hD9⟩, hS.F ht⟩) hS.2.2 dX1_lessen_76
  · have zc_1 := c_1
    rw [Int32.le_iff_toInt_le] at zc_1
    try rw [zz_toInt j (by omega)] at zc_1
    try rw [zz_toInt nd (by omega)] at zc_1
    refine lv_iload hx hb dX1_lessen_15 (lv_at hl 4 rfl) ?_
    refine lv_if_le (tgt := 70) hx hb dX1_lessen_17 (by decide) (fun c_3 => ?_) (fun c_3 => ?_)
    · have zc_3 := c_3
      rw [Int32.le_iff_toInt_le] at zc_3
      try rw [show (0 : Int32).toInt = 0 from by decide] at zc_3
      have hle : (y, gu) = (zz_le fo fc p0 p1 (p2, fu) nd) := zz_le_stop hnd hru hp2 ie (by omega) (by omega)
      refine lv_aload_n hx hb dX1_lessen_70 rfl (lv_at hl 0 rfl) ?_
      obtain ⟨hPc, hDc⟩ := zz_sub2 (ws' := [(a 29, .inr (1, [.ref (a 30), .ref (a 31), .ref (a 32), .ref (a 33), .int (nI nd)])), (a 30, .inl (cI, 300, .inl fo)), (a 31, .inl (cI, 300, .inl fc)), (a 32, .inl (cI, 300, .inl fs)), (a 33, .inl (cI, 300, .inl gu))]) hP hD [0, 1, 2, 3, 4] (by decide) rfl
      have hKc := hK.sub (tys' := [(cI, .int)]) [0] rfl
      have hFc := zz_free1 hDc hS hA
      refine va_callv (va_runV (As := []) (rest := []) ⟨hx, hb, hml, hown, hw⟩ (kx_dropEmpty l dC dI a cI nd fo fc fs gu H.size (by omega)) ⟨callB_of 0 hw (zz_good tw_22) rfl rfl rfl (hw _ tw_16) (hw _ tw_23) (by decide +kernel) ⟨Nat.le_of_ble_eq_true rfl, Nat.le_of_ble_eq_true rfl⟩, (hw _ tw_24), (hw _ tw_25)⟩ ⟨zz_blind, va_recv hKc hPc (ci := 1) (q0 := 0) rfl rfl, zz_pre hPc hKc hDc hN⟩ rfl rfl hl.1 rfl (lv_room (Nat.le_of_ble_eq_true rfl)) dX1_lessen_71 ⟨Nat.le_of_ble_eq_true rfl, Nat.le_of_ble_eq_true rfl⟩) hS (fun q _ h => hFc q h) hFc (fun u_4 t H1 locs ht hvm e_4 hB hz1 hk1 hS => ?_)
      try dsimp only at e_4
      obtain ⟨v_4_0, v_4_1, v_4_2, v_4_3, v_4_4⟩ := u_4
      obtain ⟨hP1, hK1, hD1⟩ := hB
      rw [ht] at hP1
      have hK1 := va_K.moved hvm.symm hK1
      try dsimp only at e_4
      obtain ⟨hP, hD⟩ := va_join (wr := []) (w1 := [(a 29, .inr (1, [.ref (a 30), .ref (a 31), .ref (a 32), .ref (a 33), .int (nI v_4_0)])), (a 30, .inl (cI, 300, .inl v_4_1)), (a 31, .inl (cI, 300, .inl v_4_2)), (a 32, .inl (cI, 300, .inl v_4_3)), (a 33, .inl (cI, 300, .inl v_4_4))]) hP hD [0, 1, 2, 3, 4] [] rfl rfl (by decide) (by decide) hk1 hFc hP1 hD1
      clear hk1 ht hvm
      generalize H1 = H at hP hS ⊢
      obtain ⟨hP, hD⟩ := zz_ty (D := (dC, dI)) (cl := vwCl) (A := A) (H := H) [(a 29, .inr (1, [.ref (a 30), .ref (a 31), .ref (a 32), .ref (a 33), .int (nI v_4_0)])), (a 30, .inl (cI, 300, .inl v_4_1)), (a 31, .inl (cI, 300, .inl v_4_2)), (a 32, .inl (cI, 300, .inl v_4_3)), (a 33, .inl (cI, 300, .inl v_4_4))] hP hD rfl
      refine lv_iload hx hb dX1_lessen_74 (lv_at hl 4 rfl) ?_
      obtain ⟨hP9, hD9⟩ := zz_sub2 (ws' := [(a 29, .inr (1, [.ref (a 30), .ref (a 31), .ref (a 32), .ref (a 33), .int (nI v_4_0)])), (a 30, .inl (cI, 300, .inl v_4_1)), (a 31, .inl (cI, 300, .inl v_4_2)), (a 32, .inl (cI, 300, .inl v_4_3)), (a 33, .inl (cI, 300, .inl v_4_4))]) hP hD [0, 1, 2, 3, 4] (by decide) rfl
      have hK9 := hK.sub (tys' := [(cI, .int)]) [0] rfl
      exact W.iret (v := y) hx hb hr (fun t ht hW => ⟨⟨y, (v_4_0, v_4_1, v_4_2, v_4_3, v_4_4), rfl, ⟨(by omega), gu, hle, e_4.2⟩, by rw [ht]; exact hP9, va_K.moved hW.alike hK9, hD9⟩, hS.F ht⟩) hS.2.2 dX1_lessen_76
    · have zc_3 := c_3
      rw [Int32.le_iff_toInt_le] at zc_3
      try rw [show (0 : Int32).toInt = 0 from by decide] at zc_3
      refine lv_aload_n hx hb dX1_lessen_20 rfl (lv_at hl 0 rfl) ?_
      refine lv_iload hx hb dX1_lessen_21 (lv_at hl 5 rfl) ?_
      refine lv_iload_n hx hb dX1_lessen_23 rfl (lv_at hl 1 rfl) ?_
      refine lv_iload_n hx hb dX1_lessen_24 rfl (lv_at hl 2 rfl) ?_
      obtain ⟨hPc, hDc⟩ := zz_sub2 (ws' := [(a 29, .inr (1, [.ref (a 30), .ref (a 31), .ref (a 32), .ref (a 33), .int (nI nd)])), (a 30, .inl (cI, 300, .inl fo)), (a 31, .inl (cI, 300, .inl fc)), (a 32, .inl (cI, 300, .inl fs)), (a 33, .inl (cI, 300, .inl gu))]) hP hD [0, 1, 2, 3, 4] (by decide) rfl
      have hKc := hK.sub (tys' := [(cI, .int)]) [0] rfl
      have hFc := zz_free0 hS hA
      refine va_calli (va_runV (As := [.int (nI j), .int p0, .int p1]) (rest := []) ⟨hx, hb, hml, hown, hw⟩ (kx_isOf l dC dI a cI nd fo fc fs gu j p0 p1 H.size (by omega) (by omega)) ⟨callB_of 3 hw (zz_good tw_15) rfl rfl rfl (hw _ tw_16) (hw _ tw_17) (by decide +kernel) ⟨Nat.le_of_ble_eq_true rfl, Nat.le_of_ble_eq_true rfl⟩, (hw _ tw_18), (hw _ tw_19)⟩ ⟨zz_blind, va_recv hKc hPc (ci := 1) (q0 := 0) rfl rfl, zz_pre hPc hKc hDc hN⟩ rfl rfl hl.1 rfl (lv_room (Nat.le_of_ble_eq_true rfl)) dX1_lessen_25 ⟨Nat.le_of_ble_eq_true rfl, Nat.le_of_ble_eq_true rfl⟩) hS (fun q _ h => hFc q h) hFc (fun r_5 u_5 t H1 locs ht hvm e_5 hB hz1 hk1 hS => ?_)
      try dsimp only at e_5
      have hP := zz_keep hP hk1
      clear hk1 hB ht hvm
      generalize H1 = H at hP hS ⊢
      rcases e_5 with ⟨er_5, im_5⟩ | ⟨er_5, im_5⟩
      · refine zz_seti 1 er_5 ?_
        refine lv_if_eq (tgt := 64) hx hb dX1_lessen_28 (by decide) (fun c_9 => absurd c_9 (by decide)) (fun _ => ?_)
        refine lv_iload hx hb dX1_lessen_31 (lv_at hl 4 rfl) ?_
        refine lv_aload_n hx hb dX1_lessen_33 rfl (lv_at hl 0 rfl) ?_
        refine va_get (D := (dC, dI)) (ci := 1) (v := .ref (a 33)) (C := RX1) (T := TX1) (N := 5) hx hb hw zz_inX1 hown hK hP 0 rfl rfl 3 (by decide) (hw _ tw_20) (fun _ h9 => h9) rfl dX1_lessen_34 ?_
        refine lv_iload hx hb dX1_lessen_37 (lv_at hl 5 rfl) ?_
        refine va_iald hx hb hK hP 4 0 rfl rfl (vp_in_iff.mpr (by rw [zz_toInt j (by omega)]; constructor <;> omega)) dX1_lessen_39 ?_
        refine zz_seti (gu j) (congrArg gu (zz_cl (by omega))) ?_
        refine va_mmin hx hb (by rw [hml]; exact hl.1.symm) hown (hw _ tw_26) (hw _ tw_27) (hw _ tw_28) (hw _ tw_29) (Nat.le_of_ble_eq_true rfl) (Nat.le_of_ble_eq_true rfl) (Nat.le_of_ble_eq_true rfl) (Nat.le_of_ble_eq_true rfl) dX1_lessen_40 ?_
        refine lv_istore (lv' := [(6, .int (if (gu j) < y then (gu j) else y)), (0, .ref (a 29)), (1, .int p0), (2, .int p1), (3, .int p2), (4, .int y), (5, .int (nI j))]) hx hb dX1_lessen_43 hl (by decide) rfl (fun ls hl => ?_)
        refine lv_aload_n hx hb dX1_lessen_45 rfl (lv_at hl 1 rfl) ?_
        refine va_get (D := (dC, dI)) (ci := 1) (v := .ref (a 33)) (C := RX1) (T := TX1) (N := 5) hx hb hw zz_inX1 hown hK hP 0 rfl rfl 3 (by decide) (hw _ tw_20) (fun _ h9 => h9) rfl dX1_lessen_46 ?_
        refine lv_iload hx hb dX1_lessen_49 (lv_at hl 6 rfl) ?_
        refine lv_dup2_11 hx hb dX1_lessen_51 rfl rfl ?_
        refine va_iald hx hb hK hP 4 0 rfl rfl (vp_in_iff.mpr (by rw [zz_toInt j (by omega)]; constructor <;> omega)) dX1_lessen_52 ?_
        refine zz_seti (gu j) (congrArg gu (zz_cl (by omega))) ?_
        refine lv_iload hx hb dX1_lessen_53 (lv_at hl 0 rfl) ?_
        refine lv_isub hx hb dX1_lessen_55 ?_
        refine va_iast hx hb hK hP hD hS 4 0 rfl rfl (vp_in_iff.mpr (by rw [zz_toInt j (by omega)]; constructor <;> omega)) dX1_lessen_56 (fun H locs hP hD hS => ?_)
        obtain ⟨hP, hD⟩ := zz_ty (D := (dC, dI)) (cl := vwCl) (A := A) (H := H) [(a 29, .inr (1, [.ref (a 30), .ref (a 31), .ref (a 32), .ref (a 33), .int (nI nd)])), (a 30, .inl (cI, 300, .inl fo)), (a 31, .inl (cI, 300, .inl fc)), (a 32, .inl (cI, 300, .inl fs)), (a 33, .inl (cI, 300, .inl (upd gu (Int32.toNatClampNeg (nI j)) ((gu j) - (if (gu j) < y then (gu j) else y)))))] hP hD rfl
        refine lv_iload hx hb dX1_lessen_57 (lv_at hl 5 rfl) ?_
        refine lv_iload hx hb dX1_lessen_59 (lv_at hl 0 rfl) ?_
        refine lv_isub hx hb dX1_lessen_61 ?_
        refine lv_istore (lv' := [(4, .int (y - (if (gu j) < y then (gu j) else y))), (6, .int (if (gu j) < y then (gu j) else y)), (0, .ref (a 29)), (1, .int p0), (2, .int p1), (3, .int p2), (5, .int (nI j))]) hx hb dX1_lessen_62 hl (by decide) rfl (fun ls hl => ?_)
        refine lv_iinc (v := (nI (j + 1))) (lv' := [(5, .int (nI (j + 1))), (4, .int (y - (if (gu j) < y then (gu j) else y))), (6, .int (if (gu j) < y then (gu j) else y)), (0, .ref (a 29)), (1, .int p0), (2, .int p1), (3, .int p2)]) hx hb dX1_lessen_64 hl (k := 6) rfl (nI_1 _) (by decide) rfl (fun ls hl => ?_)
        refine lv_goto (tgt := 6) hx hb dX1_lessen_67 (by decide) ?_
        exact ih_6 ((j + 1), (y - (if (gu j) < y then (gu j) else y)), (upd gu (Int32.toNatClampNeg (nI j)) ((gu j) - (if (gu j) < y then (gu j) else y)))) ⟨by omega, zz_le_y ie im_5 rfl⟩ (show nd - (j + 1) < nd - j from by omega) _ _ _ (hP.sub [0, 1, 2, 3, 4] rfl) (hD.sub [0, 1, 2, 3, 4] (by decide) rfl) hS (lv_sub hl [3, 4, 5, 6, 1, 0] rfl)
      · refine zz_seti 0 er_5 ?_
        refine lv_if_eq (tgt := 64) hx hb dX1_lessen_28 (by decide) (fun _ => ?_) (fun c_9 => absurd c_9 (by decide))
        refine lv_iinc (v := (nI (j + 1))) (lv' := [(5, .int (nI (j + 1))), (0, .ref (a 29)), (1, .int p0), (2, .int p1), (3, .int p2), (4, .int y)]) hx hb dX1_lessen_64 hl (k := 5) rfl (nI_1 _) (by decide) rfl (fun ls hl => ?_)
        refine lv_goto (tgt := 6) hx hb dX1_lessen_67 (by decide) ?_
        exact ih_6 ((j + 1), y, gu) ⟨by omega, zz_le_n ie im_5⟩ (show nd - (j + 1) < nd - j from by omega) _ _ _ (hP.sub [0, 1, 2, 3, 4] rfl) (hD.sub [0, 1, 2, 3, 4] (by decide) rfl) hS (lv_sub hl [1, 2, 3, 4, 5, 0] rfl)
set_option maxHeartbeats 4000000 in
set_option maxRecDepth 100000 in
theorem kx_put (l : Launch) (dC : Nat → ClassId) (dI : Nat → Nat → Nat) (a : Nat → Nat) (cI : ClassId) (nd : Nat) (fo : Nat → Int32) (fc : Nat → Int32) (fs : Nat → Int32) (fu : Nat → Int32) (p0 : Int32) (p1 : Int32) (p2 : Int32) (p3 : Int32) (sz : Nat) (hnd3 : nd < 300) : Met l yX1_put (zz_w yX1_put cX1_put 6 none) ({ frames := 1, cells := 0, slots := 0, locals := 23 }) (va_Pc [.ref (a 29), .int p0, .int p1, .int p2, .int p3] (zz_B (dC, dI) sz [(a 29, .inr (1, [.ref (a 30), .ref (a 31), .ref (a 32), .ref (a 33), .int (nI nd)])), (a 30, .inl (cI, 300, .inl fo)), (a 31, .inl (cI, 300, .inl fc)), (a 32, .inl (cI, 300, .inl fs)), (a 33, .inl (cI, 300, .inl fu))] [(cI, .int)])) (va_Qv (fun (u : Nat × (Nat → Int32) × (Nat → Int32) × (Nat → Int32) × (Nat → Int32)) => match u with | (nd2, o2, c2, s2, u2) => zz_pt fo fc fs fu nd p0 p1 p2 p3 nd2 o2 c2 s2 u2) (fun (u : Nat × (Nat → Int32) × (Nat → Int32) × (Nat → Int32) × (Nat → Int32)) (t : State) => match u with | (u0, u1, u2, u3, u4) => va_P (dC, dI) vwCl [(a 29, .inr (1, [.ref (a 30), .ref (a 31), .ref (a 32), .ref (a 33), .int (nI u0)])), (a 30, .inl (cI, 300, .inl u1)), (a 31, .inl (cI, 300, .inl u2)), (a 32, .inl (cI, 300, .inl u3)), (a 33, .inl (cI, 300, .inl u4))] t.heap ∧ va_K (dC, dI) vwCl [(cI, .int)] t ∧ va_D (va_A [(a 29, .inr (1, [.ref (a 30), .ref (a 31), .ref (a 32), .ref (a 33), .int (nI nd)])), (a 30, .inl (cI, 300, .inl fo)), (a 31, .inl (cI, 300, .inl fc)), (a 32, .inl (cI, 300, .inl fs)), (a 33, .inl (cI, 300, .inl fu))] sz) [(a 29, .inr (1, [.ref (a 30), .ref (a 31), .ref (a 32), .ref (a 33), .int (nI u0)])), (a 30, .inl (cI, 300, .inl u1)), (a 31, .inl (cI, 300, .inl u2)), (a 32, .inl (cI, 300, .inl u3)), (a 33, .inl (cI, 300, .inl u4))]) (va_A [(a 29, .inr (1, [.ref (a 30), .ref (a 31), .ref (a 32), .ref (a 33), .int (nI nd)])), (a 30, .inl (cI, 300, .inl fo)), (a 31, .inl (cI, 300, .inl fc)), (a 32, .inl (cI, 300, .inl fs)), (a 33, .inl (cI, 300, .inl fu))] sz)) 0 0 (va_A [(a 29, .inr (1, [.ref (a 30), .ref (a 31), .ref (a 32), .ref (a 33), .int (nI nd)])), (a 30, .inl (cI, 300, .inl fo)), (a 31, .inl (cI, 300, .inl fc)), (a 32, .inl (cI, 300, .inl fs)), (a 33, .inl (cI, 300, .inl fu))] sz) := by
  refine Met.ofW (cc := cX1_put) (maxL := 6) (ret := none) (by decide) rfl ?_
  intro p e s m args below meth c s₁ B hml hv
  obtain ⟨rfl, hsz, hP, hK, hD0, hN⟩ := hv
  have hx := B.exec
  have hb := B.bytes
  have hr := B.returns
  have hts := atoms_spec (ws := zz_w yX1_put cX1_put 6 none) B.pre
  have hw : ∀ w ∈ zz_all, w.before _ s = true := fun w h => hts w (List.mem_cons_of_mem _ h)
  have hown : s.vm.findClass RX1 = some m.cls := findClass_of_methodNamed B.named
  have hlocks := B.notSynchronized
  subst hsz
  have hD := hD0.self (sz := s.heap.size)
  generalize hAe : va_A [(a 29, .inr (1, [.ref (a 30), .ref (a 31), .ref (a 32), .ref (a 33), .int (nI nd)])), (a 30, .inl (cI, 300, .inl fo)), (a 31, .inl (cI, 300, .inl fc)), (a 32, .inl (cI, 300, .inl fs)), (a 33, .inl (cI, 300, .inl fu))] s.heap.size = A at hD ⊢
  have hA : ∀ q : Nat, s.heap.size ≤ q → A q := fun q h => by rw [← hAe]; exact Or.inr h
  have hS : va_S A s.heap s.heap [] := va_S.rf
  have hP : va_P (dC, dI) vwCl [(a 29, .inr (1, [.ref (a 30), .ref (a 31), .ref (a 32), .ref (a 33), .int (nI nd)])), (a 30, .inl (cI, 300, .inl fo)), (a 31, .inl (cI, 300, .inl fc)), (a 32, .inl (cI, 300, .inl fs)), (a 33, .inl (cI, 300, .inl fu))] s.heap := hP
  have hl := lv_entry ([.ref (a 29), .int p0, .int p1, .int p2, .int p3]) (n := 6) (Nat.le_of_ble_eq_true rfl)
  rw [lg_entry_eq]
  generalize (lg_sl ([.ref (a 29), .int p0, .int p1, .int p2, .int p3]) ++ List.replicate (6 - (lg_sl ([.ref (a 29), .int p0, .int p1, .int p2, .int p3])).length) Slot.unset).toArray = ls at hl ⊢
  have hl : lv_has ls 6 [(0, .ref (a 29)), (1, .int p0), (2, .int p1), (3, .int p2), (4, .int p3)] := hl
  refine lv_iload hx hb dX1_put_0 (lv_at hl 4 rfl) ?_
  refine lv_if_gt (tgt := 6) hx hb dX1_put_2 (by decide) (fun c_1 => ?_) (fun c_1 => ?_)
  · have zc_1 := c_1
    rw [Int32.lt_iff_toInt_lt] at zc_1
    try rw [show (0 : Int32).toInt = 0 from by decide] at zc_1
    refine lv_iconst (v := 0) hx hb dX1_put_6 (by decide) ?_
    refine lv_istore (lv' := [(5, .int 0), (0, .ref (a 29)), (1, .int p0), (2, .int p1), (3, .int p2), (4, .int p3)]) hx hb dX1_put_7 hl (by decide) rfl (fun ls hl => ?_)
    refine zz_loopS (fun (j : (Nat)) => [(a 29, .inr (1, [.ref (a 30), .ref (a 31), .ref (a 32), .ref (a 33), .int (nI nd)])), (a 30, .inl (cI, 300, .inl fo)), (a 31, .inl (cI, 300, .inl fc)), (a 32, .inl (cI, 300, .inl fs)), (a 33, .inl (cI, 300, .inl fu))]) (fun (j : (Nat)) => [(0, .ref (a 29)), (1, .int p0), (2, .int p1), (3, .int p2), (4, .int p3), (5, .int (nI j))]) (fun (j : (Nat)) => j ≤ nd ∧ ∀ q : Nat, q < j → ¬ zz_mq3 fo fc fs p0 p1 p2 q) (fun (j : (Nat)) => nd - j) (fun u hI H locs ls hP hD hS hl ih_9 => ?_) 0 ⟨by omega, fun q hq => absurd hq (Nat.not_lt_zero _)⟩ _ _ _ (hP.sub [0, 1, 2, 3, 4] rfl) (hD.sub [0, 1, 2, 3, 4] (by decide) rfl) hS (lv_sub hl [1, 2, 3, 4, 5, 0] rfl)
    obtain ⟨j, rfl⟩ : ∃ z, z = u := ⟨_, rfl⟩
    obtain ⟨hP, hD⟩ := zz_ty (D := (dC, dI)) (cl := vwCl) (A := A) (H := H) [(a 29, .inr (1, [.ref (a 30), .ref (a 31), .ref (a 32), .ref (a 33), .int (nI nd)])), (a 30, .inl (cI, 300, .inl fo)), (a 31, .inl (cI, 300, .inl fc)), (a 32, .inl (cI, 300, .inl fs)), (a 33, .inl (cI, 300, .inl fu))] hP hD rfl
    have hl : lv_has ls 6 [(0, .ref (a 29)), (1, .int p0), (2, .int p1), (3, .int p2), (4, .int p3), (5, .int (nI j))] := hl
    have hI : j ≤ nd ∧ ∀ q : Nat, q < j → ¬ zz_mq3 fo fc fs p0 p1 p2 q := hI
    obtain ⟨ij, ia⟩ := hI
    refine lv_iload hx hb dX1_put_9 (lv_at hl 5 rfl) ?_
    refine lv_aload_n hx hb dX1_put_11 rfl (lv_at hl 0 rfl) ?_
    refine va_get (D := (dC, dI)) (ci := 1) (v := .int (nI nd)) (C := RX1) (T := TX1) (N := 5) hx hb hw zz_inX1 hown hK hP 0 rfl rfl 4 (by decide) (hw _ tw_14) (fun _ h9 => h9) rfl dX1_put_12 ?_
    refine lv_icmp_ge (tgt := 59) hx hb dX1_put_15 (by decide) (fun c_2 => ?_) (fun c_2 => ?_)
    · have zc_2 := c_2
      rw [Int32.le_iff_toInt_le] at zc_2
      try rw [zz_toInt j (by omega)] at zc_2
      try rw [zz_toInt nd (by omega)] at zc_2
      refine lv_aload_n hx hb dX1_put_59 rfl (lv_at hl 0 rfl) ?_
      refine va_get (D := (dC, dI)) (ci := 1) (v := .int (nI nd)) (C := RX1) (T := TX1) (N := 5) hx hb hw zz_inX1 hown hK hP 0 rfl rfl 4 (by decide) (hw _ tw_14) (fun _ h9 => h9) rfl dX1_put_60 ?_
      refine lv_sipush (v := 300) hx hb dX1_put_63 (by decide) ?_
      refine lv_icmp_ge (tgt := 120) hx hb dX1_put_66 (by decide) (fun c_3 => absurd c_3 (by rw [Int32.le_iff_toInt_le, zz_toInt nd (by omega), show (300 : Int32).toInt = 300 from by decide]; omega)) (fun _ => ?_)
      refine lv_aload_n hx hb dX1_put_69 rfl (lv_at hl 0 rfl) ?_
      refine va_get (D := (dC, dI)) (ci := 1) (v := .ref (a 30)) (C := RX1) (T := TX1) (N := 5) hx hb hw zz_inX1 hown hK hP 0 rfl rfl 0 (by decide) (hw _ tw_12) (fun _ h9 => h9) rfl dX1_put_70 ?_
      refine lv_aload_n hx hb dX1_put_73 rfl (lv_at hl 0 rfl) ?_
      refine va_get (D := (dC, dI)) (ci := 1) (v := .int (nI nd)) (C := RX1) (T := TX1) (N := 5) hx hb hw zz_inX1 hown hK hP 0 rfl rfl 4 (by decide) (hw _ tw_14) (fun _ h9 => h9) rfl dX1_put_74 ?_
      refine lv_iload_n hx hb dX1_put_77 rfl (lv_at hl 1 rfl) ?_
      refine va_iast hx hb hK hP hD hS 1 0 rfl rfl (vp_in_iff.mpr (by rw [zz_toInt nd (by omega)]; constructor <;> omega)) dX1_put_78 (fun H locs hP hD hS => ?_)
      obtain ⟨hP, hD⟩ := zz_ty (D := (dC, dI)) (cl := vwCl) (A := A) (H := H) [(a 29, .inr (1, [.ref (a 30), .ref (a 31), .ref (a 32), .ref (a 33), .int (nI nd)])), (a 30, .inl (cI, 300, .inl (upd fo (Int32.toNatClampNeg (nI nd)) p0))), (a 31, .inl (cI, 300, .inl fc)), (a 32, .inl (cI, 300, .inl fs)), (a 33, .inl (cI, 300, .inl fu))] hP hD rfl
      refine lv_aload_n hx hb dX1_put_79 rfl (lv_at hl 0 rfl) ?_
      refine va_get (D := (dC, dI)) (ci := 1) (v := .ref (a 31)) (C := RX1) (T := TX1) (N := 5) hx hb hw zz_inX1 hown hK hP 0 rfl rfl 1 (by decide) (hw _ tw_13) (fun _ h9 => h9) rfl dX1_put_80 ?_
      refine lv_aload_n hx hb dX1_put_83 rfl (lv_at hl 0 rfl) ?_
      refine va_get (D := (dC, dI)) (ci := 1) (v := .int (nI nd)) (C := RX1) (T := TX1) (N := 5) hx hb hw zz_inX1 hown hK hP 0 rfl rfl 4 (by decide) (hw _ tw_14) (fun _ h9 => h9) rfl dX1_put_84 ?_
      refine lv_iload_n hx hb dX1_put_87 rfl (lv_at hl 2 rfl) ?_
      refine va_iast hx hb hK hP hD hS 2 0 rfl rfl (vp_in_iff.mpr (by rw [zz_toInt nd (by omega)]; constructor <;> omega)) dX1_put_88 (fun H locs hP hD hS => ?_)
      obtain ⟨hP, hD⟩ := zz_ty (D := (dC, dI)) (cl := vwCl) (A := A) (H := H) [(a 29, .inr (1, [.ref (a 30), .ref (a 31), .ref (a 32), .ref (a 33), .int (nI nd)])), (a 30, .inl (cI, 300, .inl (upd fo (Int32.toNatClampNeg (nI nd)) p0))), (a 31, .inl (cI, 300, .inl (upd fc (Int32.toNatClampNeg (nI nd)) p1))), (a 32, .inl (cI, 300, .inl fs)), (a 33, .inl (cI, 300, .inl fu))] hP hD rfl
      refine lv_aload_n hx hb dX1_put_89 rfl (lv_at hl 0 rfl) ?_
      refine va_get (D := (dC, dI)) (ci := 1) (v := .ref (a 32)) (C := RX1) (T := TX1) (N := 5) hx hb hw zz_inX1 hown hK hP 0 rfl rfl 2 (by decide) (hw _ tw_21) (fun _ h9 => h9) rfl dX1_put_90 ?_
      refine lv_aload_n hx hb dX1_put_93 rfl (lv_at hl 0 rfl) ?_
      refine va_get (D := (dC, dI)) (ci := 1) (v := .int (nI nd)) (C := RX1) (T := TX1) (N := 5) hx hb hw zz_inX1 hown hK hP 0 rfl rfl 4 (by decide) (hw _ tw_14) (fun _ h9 => h9) rfl dX1_put_94 ?_
      refine lv_iload_n hx hb dX1_put_97 rfl (lv_at hl 3 rfl) ?_
      refine va_iast hx hb hK hP hD hS 3 0 rfl rfl (vp_in_iff.mpr (by rw [zz_toInt nd (by omega)]; constructor <;> omega)) dX1_put_98 (fun H locs hP hD hS => ?_)
      obtain ⟨hP, hD⟩ := zz_ty (D := (dC, dI)) (cl := vwCl) (A := A) (H := H) [(a 29, .inr (1, [.ref (a 30), .ref (a 31), .ref (a 32), .ref (a 33), .int (nI nd)])), (a 30, .inl (cI, 300, .inl (upd fo (Int32.toNatClampNeg (nI nd)) p0))), (a 31, .inl (cI, 300, .inl (upd fc (Int32.toNatClampNeg (nI nd)) p1))), (a 32, .inl (cI, 300, .inl (upd fs (Int32.toNatClampNeg (nI nd)) p2))), (a 33, .inl (cI, 300, .inl fu))] hP hD rfl
      refine lv_aload_n hx hb dX1_put_99 rfl (lv_at hl 0 rfl) ?_
      refine va_get (D := (dC, dI)) (ci := 1) (v := .ref (a 33)) (C := RX1) (T := TX1) (N := 5) hx hb hw zz_inX1 hown hK hP 0 rfl rfl 3 (by decide) (hw _ tw_20) (fun _ h9 => h9) rfl dX1_put_100 ?_
      refine lv_aload_n hx hb dX1_put_103 rfl (lv_at hl 0 rfl) ?_
      refine va_get (D := (dC, dI)) (ci := 1) (v := .int (nI nd)) (C := RX1) (T := TX1) (N := 5) hx hb hw zz_inX1 hown hK hP 0 rfl rfl 4 (by decide) (hw _ tw_14) (fun _ h9 => h9) rfl dX1_put_104 ?_
      refine lv_iload hx hb dX1_put_107 (lv_at hl 4 rfl) ?_
      refine va_iast hx hb hK hP hD hS 4 0 rfl rfl (vp_in_iff.mpr (by rw [zz_toInt nd (by omega)]; constructor <;> omega)) dX1_put_109 (fun H locs hP hD hS => ?_)
      obtain ⟨hP, hD⟩ := zz_ty (D := (dC, dI)) (cl := vwCl) (A := A) (H := H) [(a 29, .inr (1, [.ref (a 30), .ref (a 31), .ref (a 32), .ref (a 33), .int (nI nd)])), (a 30, .inl (cI, 300, .inl (upd fo (Int32.toNatClampNeg (nI nd)) p0))), (a 31, .inl (cI, 300, .inl (upd fc (Int32.toNatClampNeg (nI nd)) p1))), (a 32, .inl (cI, 300, .inl (upd fs (Int32.toNatClampNeg (nI nd)) p2))), (a 33, .inl (cI, 300, .inl (upd fu (Int32.toNatClampNeg (nI nd)) p3)))] hP hD rfl
      refine lv_aload_n hx hb dX1_put_110 rfl (lv_at hl 0 rfl) ?_
      refine lv_dup hx hb dX1_put_111 rfl ?_
      refine va_get (D := (dC, dI)) (ci := 1) (v := .int (nI nd)) (C := RX1) (T := TX1) (N := 5) hx hb hw zz_inX1 hown hK hP 0 rfl rfl 4 (by decide) (hw _ tw_14) (fun _ h9 => h9) rfl dX1_put_112 ?_
      refine lv_iconst (v := 1) hx hb dX1_put_115 (by decide) ?_
      refine lv_iadd hx hb dX1_put_116 ?_
      refine zz_seti (nI (nd + 1)) (nI_1 _) ?_
      refine va_put (D := (dC, dI)) (ci := 1) (v := .int (nI (nd + 1))) (ty := .int) (C := RX1) (T := TX1) (N := 5) hx hb hw zz_inX1 tyX1 tyX1_ok nmX1 hown hK hP hD hS 0 rfl rfl 4 (by decide) (hw _ tw_14) (fun _ h9 => h9) rfl (by decide +kernel) rfl rfl (Nat.le_of_ble_eq_true rfl) dX1_put_117 (fun H locs hP hD hS => ?_)
      obtain ⟨hP, hD⟩ := zz_ty (D := (dC, dI)) (cl := vwCl) (A := A) (H := H) [(a 29, .inr (1, [.ref (a 30), .ref (a 31), .ref (a 32), .ref (a 33), .int (nI (nd + 1))])), (a 30, .inl (cI, 300, .inl (upd fo (Int32.toNatClampNeg (nI nd)) p0))), (a 31, .inl (cI, 300, .inl (upd fc (Int32.toNatClampNeg (nI nd)) p1))), (a 32, .inl (cI, 300, .inl (upd fs (Int32.toNatClampNeg (nI nd)) p2))), (a 33, .inl (cI, 300, .inl (upd fu (Int32.toNatClampNeg (nI nd)) p3)))] hP hD rfl
      obtain ⟨hP9, hD9⟩ := zz_sub2 (ws' := [(a 29, .inr (1, [.ref (a 30), .ref (a 31), .ref (a 32), .ref (a 33), .int (nI (nd + 1))])), (a 30, .inl (cI, 300, .inl (upd fo (Int32.toNatClampNeg (nI nd)) p0))), (a 31, .inl (cI, 300, .inl (upd fc (Int32.toNatClampNeg (nI nd)) p1))), (a 32, .inl (cI, 300, .inl (upd fs (Int32.toNatClampNeg (nI nd)) p2))), (a 33, .inl (cI, 300, .inl (upd fu (Int32.toNatClampNeg (nI nd)) p3)))]) hP hD [0, 1, 2, 3, 4] (by decide) rfl
      have hK9 := hK.sub (tys' := [(cI, .int)]) [0] rfl
      exact W.vret hx hb hr (fun t ht hW => ⟨⟨((nd + 1), (upd fo (Int32.toNatClampNeg (nI nd)) p0), (upd fc (Int32.toNatClampNeg (nI nd)) p1), (upd fs (Int32.toNatClampNeg (nI nd)) p2), (upd fu (Int32.toNatClampNeg (nI nd)) p3)), rfl, (Or.inr (Or.inr ⟨(by omega), fun q hq => ia q (by omega), rfl, zz_updc (by omega), zz_updc (by omega), zz_updc (by omega), zz_updc (by omega)⟩)), by rw [ht]; exact hP9, va_K.moved hW.alike hK9, hD9⟩, hS.F ht⟩) hS.2.2 dX1_put_120
    · have zc_2 := c_2
      rw [Int32.le_iff_toInt_le] at zc_2
      try rw [zz_toInt j (by omega)] at zc_2
      try rw [zz_toInt nd (by omega)] at zc_2
      refine lv_aload_n hx hb dX1_put_18 rfl (lv_at hl 0 rfl) ?_
      refine lv_iload hx hb dX1_put_19 (lv_at hl 5 rfl) ?_
      refine lv_iload_n hx hb dX1_put_21 rfl (lv_at hl 1 rfl) ?_
      refine lv_iload_n hx hb dX1_put_22 rfl (lv_at hl 2 rfl) ?_
      obtain ⟨hPc, hDc⟩ := zz_sub2 (ws' := [(a 29, .inr (1, [.ref (a 30), .ref (a 31), .ref (a 32), .ref (a 33), .int (nI nd)])), (a 30, .inl (cI, 300, .inl fo)), (a 31, .inl (cI, 300, .inl fc)), (a 32, .inl (cI, 300, .inl fs)), (a 33, .inl (cI, 300, .inl fu))]) hP hD [0, 1, 2, 3, 4] (by decide) rfl
      have hKc := hK.sub (tys' := [(cI, .int)]) [0] rfl
      have hFc := zz_free0 hS hA
      refine va_calli (va_runV (As := [.int (nI j), .int p0, .int p1]) (rest := []) ⟨hx, hb, hml, hown, hw⟩ (kx_isOf l dC dI a cI nd fo fc fs fu j p0 p1 H.size (by omega) (by omega)) ⟨callB_of 3 hw (zz_good tw_15) rfl rfl rfl (hw _ tw_16) (hw _ tw_17) (by decide +kernel) ⟨Nat.le_of_ble_eq_true rfl, Nat.le_of_ble_eq_true rfl⟩, (hw _ tw_18), (hw _ tw_19)⟩ ⟨zz_blind, va_recv hKc hPc (ci := 1) (q0 := 0) rfl rfl, zz_pre hPc hKc hDc hN⟩ rfl rfl hl.1 rfl (lv_room (Nat.le_of_ble_eq_true rfl)) dX1_put_23 ⟨Nat.le_of_ble_eq_true rfl, Nat.le_of_ble_eq_true rfl⟩) hS (fun q _ h => hFc q h) hFc (fun r_4 u_4 t H1 locs ht hvm e_4 hB hz1 hk1 hS => ?_)
      try dsimp only at e_4
      have hP := zz_keep hP hk1
      clear hk1 hB ht hvm
      generalize H1 = H at hP hS ⊢
      rcases e_4 with ⟨er_4, im_4⟩ | ⟨er_4, im_4⟩
      · refine zz_seti 1 er_4 ?_
        refine lv_if_eq (tgt := 53) hx hb dX1_put_26 (by decide) (fun c_9 => absurd c_9 (by decide)) (fun _ => ?_)
        refine lv_aload_n hx hb dX1_put_29 rfl (lv_at hl 0 rfl) ?_
        refine va_get (D := (dC, dI)) (ci := 1) (v := .ref (a 32)) (C := RX1) (T := TX1) (N := 5) hx hb hw zz_inX1 hown hK hP 0 rfl rfl 2 (by decide) (hw _ tw_21) (fun _ h9 => h9) rfl dX1_put_30 ?_
        refine lv_iload hx hb dX1_put_33 (lv_at hl 5 rfl) ?_
        refine va_iald hx hb hK hP 3 0 rfl rfl (vp_in_iff.mpr (by rw [zz_toInt j (by omega)]; constructor <;> omega)) dX1_put_35 ?_
        refine zz_seti (fs j) (congrArg fs (zz_cl (by omega))) ?_
        refine lv_iload_n hx hb dX1_put_36 rfl (lv_at hl 3 rfl) ?_
        refine lv_icmp_ne (tgt := 53) hx hb dX1_put_37 (by decide) (fun c_5 => ?_) (fun c_5 => ?_)
        · have zc_5 := c_5
          rw [← Int32.toInt_inj] at zc_5
          refine lv_iinc (v := (nI (j + 1))) (lv' := [(5, .int (nI (j + 1))), (0, .ref (a 29)), (1, .int p0), (2, .int p1), (3, .int p2), (4, .int p3)]) hx hb dX1_put_53 hl (k := 5) rfl (nI_1 _) (by decide) rfl (fun ls hl => ?_)
          refine lv_goto (tgt := 9) hx hb dX1_put_56 (by decide) ?_
          exact ih_9 (j + 1) ⟨by omega, zz_nox (P := zz_mq3 fo fc fs p0 p1 p2) ia (fun h9 => c_5 h9.2.2)⟩ (show nd - (j + 1) < nd - j from by omega) _ _ _ (hP.sub [0, 1, 2, 3, 4] rfl) (hD.sub [0, 1, 2, 3, 4] (by decide) rfl) hS (lv_sub hl [1, 2, 3, 4, 5, 0] rfl)
        · have zc_5 := c_5
          rw [← Int32.toInt_inj] at zc_5
          refine lv_aload_n hx hb dX1_put_40 rfl (lv_at hl 0 rfl) ?_
          refine va_get (D := (dC, dI)) (ci := 1) (v := .ref (a 33)) (C := RX1) (T := TX1) (N := 5) hx hb hw zz_inX1 hown hK hP 0 rfl rfl 3 (by decide) (hw _ tw_20) (fun _ h9 => h9) rfl dX1_put_41 ?_
          refine lv_iload hx hb dX1_put_44 (lv_at hl 5 rfl) ?_
          refine lv_dup2_11 hx hb dX1_put_46 rfl rfl ?_
          refine va_iald hx hb hK hP 4 0 rfl rfl (vp_in_iff.mpr (by rw [zz_toInt j (by omega)]; constructor <;> omega)) dX1_put_47 ?_
          refine zz_seti (fu j) (congrArg fu (zz_cl (by omega))) ?_
          refine lv_iload hx hb dX1_put_48 (lv_at hl 4 rfl) ?_
          refine lv_iadd hx hb dX1_put_50 ?_
          refine va_iast hx hb hK hP hD hS 4 0 rfl rfl (vp_in_iff.mpr (by rw [zz_toInt j (by omega)]; constructor <;> omega)) dX1_put_51 (fun H locs hP hD hS => ?_)
          obtain ⟨hP, hD⟩ := zz_ty (D := (dC, dI)) (cl := vwCl) (A := A) (H := H) [(a 29, .inr (1, [.ref (a 30), .ref (a 31), .ref (a 32), .ref (a 33), .int (nI nd)])), (a 30, .inl (cI, 300, .inl fo)), (a 31, .inl (cI, 300, .inl fc)), (a 32, .inl (cI, 300, .inl fs)), (a 33, .inl (cI, 300, .inl (upd fu (Int32.toNatClampNeg (nI j)) ((fu j) + p3))))] hP hD rfl
          obtain ⟨hP9, hD9⟩ := zz_sub2 (ws' := [(a 29, .inr (1, [.ref (a 30), .ref (a 31), .ref (a 32), .ref (a 33), .int (nI nd)])), (a 30, .inl (cI, 300, .inl fo)), (a 31, .inl (cI, 300, .inl fc)), (a 32, .inl (cI, 300, .inl fs)), (a 33, .inl (cI, 300, .inl (upd fu (Int32.toNatClampNeg (nI j)) ((fu j) + p3))))]) hP hD [0, 1, 2, 3, 4] (by decide) rfl
          have hK9 := hK.sub (tys' := [(cI, .int)]) [0] rfl
          exact W.vret hx hb hr (fun t ht hW => ⟨⟨(nd, fo, fc, fs, (upd fu (Int32.toNatClampNeg (nI j)) ((fu j) + p3))), rfl, (Or.inr (Or.inl ⟨(by omega), ⟨j, (by omega), ⟨im_4.1, im_4.2, c_5⟩, zz_updc (by omega)⟩, rfl, rfl, rfl, rfl⟩)), by rw [ht]; exact hP9, va_K.moved hW.alike hK9, hD9⟩, hS.F ht⟩) hS.2.2 dX1_put_52
      · refine zz_seti 0 er_4 ?_
        refine lv_if_eq (tgt := 53) hx hb dX1_put_26 (by decide) (fun _ => ?_) (fun c_9 => absurd c_9 (by decide))
        refine lv_iinc (v := (nI (j + 1))) (lv' := [(5, .int (nI (j + 1))), (0, .ref (a 29)), (1, .int p0), (2, .int p1), (3, .int p2), (4, .int p3)]) hx hb dX1_put_53 hl (k := 5) rfl (nI_1 _) (by decide) rfl (fun ls hl => ?_)
        refine lv_goto (tgt := 9) hx hb dX1_put_56 (by decide) ?_
        exact ih_9 (j + 1) ⟨by omega, zz_nox (P := zz_mq3 fo fc fs p0 p1 p2) ia (fun h9 => im_4 ⟨h9.1, h9.2.1⟩)⟩ (show nd - (j + 1) < nd - j from by omega) _ _ _ (hP.sub [0, 1, 2, 3, 4] rfl) (hD.sub [0, 1, 2, 3, 4] (by decide) rfl) hS (lv_sub hl [1, 2, 3, 4, 5, 0] rfl)
  · have zc_1 := c_1
    rw [Int32.lt_iff_toInt_lt] at zc_1
    try rw [show (0 : Int32).toInt = 0 from by decide] at zc_1
    obtain ⟨hP9, hD9⟩ := zz_sub2 (ws' := [(a 29, .inr (1, [.ref (a 30), .ref (a 31), .ref (a 32), .ref (a 33), .int (nI nd)])), (a 30, .inl (cI, 300, .inl fo)), (a 31, .inl (cI, 300, .inl fc)), (a 32, .inl (cI, 300, .inl fs)), (a 33, .inl (cI, 300, .inl fu))]) hP hD [0, 1, 2, 3, 4] (by decide) rfl
    have hK9 := hK.sub (tys' := [(cI, .int)]) [0] rfl
    exact W.vret hx hb hr (fun t ht hW => ⟨⟨(nd, fo, fc, fs, fu), rfl, (Or.inl ⟨(by omega), rfl, rfl, rfl, rfl, rfl⟩), by rw [ht]; exact hP9, va_K.moved hW.alike hK9, hD9⟩, hS.F ht⟩) hS.2.2 dX1_put_5
