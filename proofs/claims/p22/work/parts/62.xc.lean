set_option maxHeartbeats 4000000 in
set_option maxRecDepth 100000 in
theorem kx_beginsToken (l : Launch) (dC : Nat → ClassId) (dI : Nat → Nat → Nat) (a : Nat → Nat) (cI : ClassId) (nt : Nat) (fb : Nat → Int32) (ka : Nat) (sz : Nat) (hnt : nt ≤ 200) (hka : ka < 200) : Met l yX0_beginsToken (zz_w yX0_beginsToken cX0_beginsToken 3 (some .boolean)) ({ frames := 1, cells := 0, slots := 0, locals := 21 }) (va_Pc [.ref (a 24), .int (nI ka)] (zz_B (dC, dI) sz [(a 24, .inr (6, [.ref (a 25), .int (nI nt)])), (a 25, .inl (cI, 200, .inl fb))] [(cI, .int)])) (va_Qi (fun (r : Int32) (_ : Unit) => (r = 1 ∧ zz_bt (zz_cs fb nt) ka) ∨ (r = 0 ∧ ¬ zz_bt (zz_cs fb nt) ka)) (fun _ _ => True) (va_A [] sz)) 0 0 (va_A [] sz) := by
  refine Met.ofW (cc := cX0_beginsToken) (maxL := 3) (ret := (some .boolean)) (by decide) rfl ?_
  intro p e s m args below meth c s₁ B hml hv
  obtain ⟨rfl, hsz, hP, hK, hD0, hN⟩ := hv
  have hx := B.exec
  have hb := B.bytes
  have hr := B.returns
  have hts := atoms_spec (ws := zz_w yX0_beginsToken cX0_beginsToken 3 (some .boolean)) B.pre
  have hw : ∀ w ∈ zz_all, w.before _ s = true := fun w h => hts w (List.mem_cons_of_mem _ h)
  have hown : s.vm.findClass RX0 = some m.cls := findClass_of_methodNamed B.named
  have hlocks := B.notSynchronized
  subst hsz
  have hD := hD0
  generalize hAe : va_A [] s.heap.size = A
  have hA : ∀ q : Nat, s.heap.size ≤ q → A q := fun q h => by rw [← hAe]; exact Or.inr h
  have hS : va_S A s.heap s.heap [] := va_S.rf
  have hP : va_P (dC, dI) vwCl [(a 24, .inr (6, [.ref (a 25), .int (nI nt)])), (a 25, .inl (cI, 200, .inl fb))] s.heap := hP
  have hl := lv_entry ([.ref (a 24), .int (nI ka)]) (n := 3) (Nat.le_of_ble_eq_true rfl)
  rw [lg_entry_eq]
  generalize (lg_sl ([.ref (a 24), .int (nI ka)]) ++ List.replicate (3 - (lg_sl ([.ref (a 24), .int (nI ka)])).length) Slot.unset).toArray = ls at hl ⊢
  have hl : lv_has ls 3 [(0, .ref (a 24)), (1, .int (nI ka))] := hl
  refine lv_aload_n hx hb dX0_beginsToken_0 rfl (lv_at hl 0 rfl) ?_
  refine lv_iload_n hx hb dX0_beginsToken_1 rfl (lv_at hl 1 rfl) ?_
  obtain ⟨hPc, hDc⟩ := zz_sub2 (ws' := [(a 24, .inr (6, [.ref (a 25), .int (nI nt)])), (a 25, .inl (cI, 200, .inl fb))]) hP hD [0, 1] (by decide) rfl
  have hKc := hK.sub (tys' := [(cI, .int)]) [0] rfl
  have hFc := zz_free0 hS hA
  refine va_calli (va_runVN (As := [.int (nI ka)]) (rest := []) ⟨hx, hb, hml, hown, hw⟩ (kx_at l dC dI a cI nt fb (nI ka) s.heap.size (by omega)) ⟨va_cnB 1 hw (zz_good tw_353) rfl rfl rfl (hN.1 _ zz_n48) (hw _ tw_99) (by decide +kernel) ⟨Nat.le_of_ble_eq_true rfl, Nat.le_of_ble_eq_true rfl⟩, (hw _ tw_354), (hw _ tw_355)⟩ ⟨zz_blind, va_recv hKc hPc (ci := 6) (q0 := 0) rfl rfl, zz_pre hPc hKc hDc hN⟩ rfl rfl hl.1 rfl (lv_room (Nat.le_of_ble_eq_true rfl)) dX0_beginsToken_2 ⟨Nat.le_of_ble_eq_true rfl, Nat.le_of_ble_eq_true rfl⟩) hS (fun q _ h => hFc q h) hFc (fun r_1 u_1 t H1 locs ht hvm e_1 hB hz1 hk1 hS => ?_)
  try dsimp only at e_1
  have hP := zz_keep hP hk1
  clear hk1 hB ht hvm
  generalize H1 = H at hP hS ⊢
  refine zz_seti (zz_cs fb nt ka) (e_1.trans (zz_ca_n (by omega))) ?_
  obtain ⟨hPc, hDc⟩ := zz_sub2 (ws' := []) hP hD [] (by decide) rfl
  have hKc := hK.sub (tys' := []) [] rfl
  have hFc := zz_free0 hS hA
  refine va_calli (va_runS (As := [.int (zz_cs fb nt ka)]) (rest := []) ⟨hx, hb, hml, hown, hw⟩ (kx_sortOf l dC dI (zz_cs fb nt ka) H.size) ⟨callB_of 1 hw (zz_good tw_356) rfl rfl rfl (hw _ tw_357) (hw _ tw_358) (by decide +kernel) ⟨Nat.le_of_ble_eq_true rfl, Nat.le_of_ble_eq_true rfl⟩, (hw _ tw_359)⟩ ⟨zz_blind, zz_pre hPc hKc hDc hN⟩ rfl rfl hl.1 rfl (lv_room (Nat.le_of_ble_eq_true rfl)) dX0_beginsToken_5 ⟨Nat.le_of_ble_eq_true rfl, Nat.le_of_ble_eq_true rfl⟩) hS (fun q _ h => hFc q h) hFc (fun r_2 u_2 t H1 locs ht hvm e_2 hB hz1 hk1 hS => ?_)
  try dsimp only at e_2
  have hP := zz_keep hP hk1
  clear hk1 hB ht hvm
  generalize H1 = H at hP hS ⊢
  refine zz_seti (zz_so (zz_cs fb nt ka)) e_2 ?_
  refine lv_istore_n (lv' := [(2, .int (zz_so (zz_cs fb nt ka))), (0, .ref (a 24)), (1, .int (nI ka))]) hx hb dX0_beginsToken_8 rfl hl (by decide) rfl (fun ls hl => ?_)
  refine lv_iload_n hx hb dX0_beginsToken_9 rfl (lv_at hl 0 rfl) ?_
  refine lv_iconst (v := 1) hx hb dX0_beginsToken_10 (by decide) ?_
  refine lv_icmp_eq (tgt := 19) hx hb dX0_beginsToken_11 (by decide) (fun c_3 => ?_) (fun c_3 => ?_)
  · have zc_3 := c_3
    rw [← Int32.toInt_inj] at zc_3
    try rw [show (1 : Int32).toInt = 1 from by decide] at zc_3
    refine lv_iload_n hx hb dX0_beginsToken_19 rfl (lv_at hl 0 rfl) ?_
    refine lv_aload_n hx hb dX0_beginsToken_20 rfl (lv_at hl 1 rfl) ?_
    refine lv_iload_n hx hb dX0_beginsToken_21 rfl (lv_at hl 2 rfl) ?_
    refine lv_iconst (v := 1) hx hb dX0_beginsToken_22 (by decide) ?_
    refine lv_isub hx hb dX0_beginsToken_23 ?_
    obtain ⟨hPc, hDc⟩ := zz_sub2 (ws' := [(a 24, .inr (6, [.ref (a 25), .int (nI nt)])), (a 25, .inl (cI, 200, .inl fb))]) hP hD [0, 1] (by decide) rfl
    have hKc := hK.sub (tys' := [(cI, .int)]) [0] rfl
    have hFc := zz_free0 hS hA
    refine va_calli (va_runVN (As := [.int ((nI ka) - 1)]) (rest := [.int (zz_so (zz_cs fb nt ka))]) ⟨hx, hb, hml, hown, hw⟩ (kx_at l dC dI a cI nt fb ((nI ka) - 1) H.size (by omega)) ⟨va_cnB 1 hw (zz_good tw_353) rfl rfl rfl (hN.1 _ zz_n48) (hw _ tw_99) (by decide +kernel) ⟨Nat.le_of_ble_eq_true rfl, Nat.le_of_ble_eq_true rfl⟩, (hw _ tw_354), (hw _ tw_355)⟩ ⟨zz_blind, va_recv hKc hPc (ci := 6) (q0 := 0) rfl rfl, zz_pre hPc hKc hDc hN⟩ rfl rfl hl.1 rfl (lv_room (Nat.le_of_ble_eq_true rfl)) dX0_beginsToken_24 ⟨Nat.le_of_ble_eq_true rfl, Nat.le_of_ble_eq_true rfl⟩) hS (fun q _ h => hFc q h) hFc (fun r_4 u_4 t H1 locs ht hvm e_4 hB hz1 hk1 hS => ?_)
    try dsimp only at e_4
    have hP := zz_keep hP hk1
    clear hk1 hB ht hvm
    generalize H1 = H at hP hS ⊢
    obtain ⟨hPc, hDc⟩ := zz_sub2 (ws' := []) hP hD [] (by decide) rfl
    have hKc := hK.sub (tys' := []) [] rfl
    have hFc := zz_free0 hS hA
    refine va_calli (va_runS (As := [.int r_4]) (rest := [.int (zz_so (zz_cs fb nt ka))]) ⟨hx, hb, hml, hown, hw⟩ (kx_sortOf l dC dI r_4 H.size) ⟨callB_of 1 hw (zz_good tw_356) rfl rfl rfl (hw _ tw_357) (hw _ tw_358) (by decide +kernel) ⟨Nat.le_of_ble_eq_true rfl, Nat.le_of_ble_eq_true rfl⟩, (hw _ tw_359)⟩ ⟨zz_blind, zz_pre hPc hKc hDc hN⟩ rfl rfl hl.1 rfl (lv_room (Nat.le_of_ble_eq_true rfl)) dX0_beginsToken_27 ⟨Nat.le_of_ble_eq_true rfl, Nat.le_of_ble_eq_true rfl⟩) hS (fun q _ h => hFc q h) hFc (fun r_5 u_5 t H1 locs ht hvm e_5 hB hz1 hk1 hS => ?_)
    try dsimp only at e_5
    have hP := zz_keep hP hk1
    clear hk1 hB ht hvm
    generalize H1 = H at hP hS ⊢
    refine zz_seti (zz_pv (zz_cs fb nt) ka) (by rw [e_5, e_4]; exact zz_ca_p (by omega)) ?_
    refine lv_icmp_eq (tgt := 37) hx hb dX0_beginsToken_30 (by decide) (fun c_6 => ?_) (fun c_6 => ?_)
    · have zc_6 := c_6
      rw [← Int32.toInt_inj] at zc_6
      refine lv_iconst (v := 0) hx hb dX0_beginsToken_37 (by decide) ?_
      exact W.zret (v := 0) hx hb hr (rfl) (fun t ht hW => ⟨⟨0, (), rfl, (Or.inr ⟨rfl, fun h9 => h9.elim (fun h8 => h8.2 c_6) (fun h8 => h8.1 (Or.inl c_3))⟩), trivial⟩, hS.F ht⟩) hS.2.2 dX0_beginsToken_38
    · have zc_6 := c_6
      rw [← Int32.toInt_inj] at zc_6
      refine lv_iconst (v := 1) hx hb dX0_beginsToken_33 (by decide) ?_
      refine lv_goto (tgt := 38) hx hb dX0_beginsToken_34 (by decide) ?_
      exact W.zret (v := 1) hx hb hr (rfl) (fun t ht hW => ⟨⟨1, (), rfl, (Or.inl ⟨rfl, Or.inl ⟨Or.inl c_3, c_6⟩⟩), trivial⟩, hS.F ht⟩) hS.2.2 dX0_beginsToken_38
  · have zc_3 := c_3
    rw [← Int32.toInt_inj] at zc_3
    try rw [show (1 : Int32).toInt = 1 from by decide] at zc_3
    refine lv_iload_n hx hb dX0_beginsToken_14 rfl (lv_at hl 0 rfl) ?_
    refine lv_iconst (v := 2) hx hb dX0_beginsToken_15 (by decide) ?_
    refine lv_icmp_ne (tgt := 39) hx hb dX0_beginsToken_16 (by decide) (fun c_7 => ?_) (fun c_7 => ?_)
    · have zc_7 := c_7
      rw [← Int32.toInt_inj] at zc_7
      try rw [show (2 : Int32).toInt = 2 from by decide] at zc_7
      refine lv_iload_n hx hb dX0_beginsToken_39 rfl (lv_at hl 0 rfl) ?_
      refine lv_if_eq (tgt := 47) hx hb dX0_beginsToken_40 (by decide) (fun c_8 => ?_) (fun c_8 => ?_)
      · have zc_8 := c_8
        rw [← Int32.toInt_inj] at zc_8
        try rw [show (0 : Int32).toInt = 0 from by decide] at zc_8
        refine lv_iconst (v := 0) hx hb dX0_beginsToken_47 (by decide) ?_
        exact W.zret (v := 0) hx hb hr (rfl) (fun t ht hW => ⟨⟨0, (), rfl, (Or.inr ⟨rfl, fun h9 => h9.elim (fun h8 => (fun h7 => h7.elim c_3 c_7) h8.1) (fun h8 => h8.2 c_8)⟩), trivial⟩, hS.F ht⟩) hS.2.2 dX0_beginsToken_48
      · have zc_8 := c_8
        rw [← Int32.toInt_inj] at zc_8
        try rw [show (0 : Int32).toInt = 0 from by decide] at zc_8
        refine lv_iconst (v := 1) hx hb dX0_beginsToken_43 (by decide) ?_
        refine lv_goto (tgt := 48) hx hb dX0_beginsToken_44 (by decide) ?_
        exact W.zret (v := 1) hx hb hr (rfl) (fun t ht hW => ⟨⟨1, (), rfl, (Or.inl ⟨rfl, Or.inr ⟨(fun h7 => h7.elim c_3 c_7), c_8⟩⟩), trivial⟩, hS.F ht⟩) hS.2.2 dX0_beginsToken_48
    · have zc_7 := c_7
      rw [← Int32.toInt_inj] at zc_7
      try rw [show (2 : Int32).toInt = 2 from by decide] at zc_7
      refine lv_iload_n hx hb dX0_beginsToken_19 rfl (lv_at hl 0 rfl) ?_
      refine lv_aload_n hx hb dX0_beginsToken_20 rfl (lv_at hl 1 rfl) ?_
      refine lv_iload_n hx hb dX0_beginsToken_21 rfl (lv_at hl 2 rfl) ?_
      refine lv_iconst (v := 1) hx hb dX0_beginsToken_22 (by decide) ?_
      refine lv_isub hx hb dX0_beginsToken_23 ?_
      obtain ⟨hPc, hDc⟩ := zz_sub2 (ws' := [(a 24, .inr (6, [.ref (a 25), .int (nI nt)])), (a 25, .inl (cI, 200, .inl fb))]) hP hD [0, 1] (by decide) rfl
      have hKc := hK.sub (tys' := [(cI, .int)]) [0] rfl
      have hFc := zz_free0 hS hA
      refine va_calli (va_runVN (As := [.int ((nI ka) - 1)]) (rest := [.int (zz_so (zz_cs fb nt ka))]) ⟨hx, hb, hml, hown, hw⟩ (kx_at l dC dI a cI nt fb ((nI ka) - 1) H.size (by omega)) ⟨va_cnB 1 hw (zz_good tw_353) rfl rfl rfl (hN.1 _ zz_n48) (hw _ tw_99) (by decide +kernel) ⟨Nat.le_of_ble_eq_true rfl, Nat.le_of_ble_eq_true rfl⟩, (hw _ tw_354), (hw _ tw_355)⟩ ⟨zz_blind, va_recv hKc hPc (ci := 6) (q0 := 0) rfl rfl, zz_pre hPc hKc hDc hN⟩ rfl rfl hl.1 rfl (lv_room (Nat.le_of_ble_eq_true rfl)) dX0_beginsToken_24 ⟨Nat.le_of_ble_eq_true rfl, Nat.le_of_ble_eq_true rfl⟩) hS (fun q _ h => hFc q h) hFc (fun r_9 u_9 t H1 locs ht hvm e_9 hB hz1 hk1 hS => ?_)
      try dsimp only at e_9
      have hP := zz_keep hP hk1
      clear hk1 hB ht hvm
      generalize H1 = H at hP hS ⊢
      obtain ⟨hPc, hDc⟩ := zz_sub2 (ws' := []) hP hD [] (by decide) rfl
      have hKc := hK.sub (tys' := []) [] rfl
      have hFc := zz_free0 hS hA
      refine va_calli (va_runS (As := [.int r_9]) (rest := [.int (zz_so (zz_cs fb nt ka))]) ⟨hx, hb, hml, hown, hw⟩ (kx_sortOf l dC dI r_9 H.size) ⟨callB_of 1 hw (zz_good tw_356) rfl rfl rfl (hw _ tw_357) (hw _ tw_358) (by decide +kernel) ⟨Nat.le_of_ble_eq_true rfl, Nat.le_of_ble_eq_true rfl⟩, (hw _ tw_359)⟩ ⟨zz_blind, zz_pre hPc hKc hDc hN⟩ rfl rfl hl.1 rfl (lv_room (Nat.le_of_ble_eq_true rfl)) dX0_beginsToken_27 ⟨Nat.le_of_ble_eq_true rfl, Nat.le_of_ble_eq_true rfl⟩) hS (fun q _ h => hFc q h) hFc (fun r_10 u_10 t H1 locs ht hvm e_10 hB hz1 hk1 hS => ?_)
      try dsimp only at e_10
      have hP := zz_keep hP hk1
      clear hk1 hB ht hvm
      generalize H1 = H at hP hS ⊢
      refine zz_seti (zz_pv (zz_cs fb nt) ka) (by rw [e_10, e_9]; exact zz_ca_p (by omega)) ?_
      refine lv_icmp_eq (tgt := 37) hx hb dX0_beginsToken_30 (by decide) (fun c_11 => ?_) (fun c_11 => ?_)
      · have zc_11 := c_11
        rw [← Int32.toInt_inj] at zc_11
        refine lv_iconst (v := 0) hx hb dX0_beginsToken_37 (by decide) ?_
        exact W.zret (v := 0) hx hb hr (rfl) (fun t ht hW => ⟨⟨0, (), rfl, (Or.inr ⟨rfl, fun h9 => h9.elim (fun h8 => h8.2 c_11) (fun h8 => h8.1 (Or.inr c_7))⟩), trivial⟩, hS.F ht⟩) hS.2.2 dX0_beginsToken_38
      · have zc_11 := c_11
        rw [← Int32.toInt_inj] at zc_11
        refine lv_iconst (v := 1) hx hb dX0_beginsToken_33 (by decide) ?_
        refine lv_goto (tgt := 38) hx hb dX0_beginsToken_34 (by decide) ?_
        exact W.zret (v := 1) hx hb hr (rfl) (fun t ht hW => ⟨⟨1, (), rfl, (Or.inl ⟨rfl, Or.inl ⟨Or.inr c_7, c_11⟩⟩), trivial⟩, hS.F ht⟩) hS.2.2 dX0_beginsToken_38
set_option maxHeartbeats 4000000 in
set_option maxRecDepth 100000 in
theorem kx_charAt1 (l : Launch) (dC : Nat → ClassId) (dI : Nat → Nat → Nat) (b0 : Nat) (b1 : Nat) (b2 : Nat) (adK : Nat → Nat) (adV : Nat → Nat) (i7 : Nat) (kk : Nat) (sz : Nat) (h7 : i7 < 7) (h5 : (zz_len7.getD i7 0) ≤ 5) (hkk : kk < (zz_len7.getD i7 0)) : Met l yJ1_charAt_3b067 (zz_w yJ1_charAt_3b067 cJ1_charAt_3b067 2 (some .char)) ({ frames := 2, cells := 0, slots := 0, locals := 43 }) (va_Pc [.ref (adV i7), .int (nI kk)] (zz_BG (dC, dI) sz b0 b1 b2 adK adV [] [] [])) (va_Qi (fun (r : Int32) (_ : Unit) => r = (((zz_byt7.getD i7 []).getD kk 0) &&& 255)) (fun _ _ => True) (va_A [] sz)) 0 0 (va_A [] sz) := by
  refine Met.ofW (cc := cJ1_charAt_3b067) (maxL := 2) (ret := (some .char)) (by decide) rfl ?_
  intro p e s m args below meth c s₁ B hml hv
  obtain ⟨rfl, ⟨hsz, hP, hK, hD0, hN⟩, hU⟩ := hv
  have hx := B.exec
  have hb := B.bytes
  have hr := B.returns
  have hts := atoms_spec (ws := zz_w yJ1_charAt_3b067 cJ1_charAt_3b067 2 (some .char)) B.pre
  have hw : ∀ w ∈ zz_all, w.before _ s = true := fun w h => hts w (List.mem_cons_of_mem _ h)
  have hown : s.vm.findClass RJ1 = some m.cls := findClass_of_methodNamed B.named
  have hlocks := B.notSynchronized
  subst hsz
  have hD := hD0
  generalize hAe : va_A [] s.heap.size = A at hU ⊢
  have hA : ∀ q : Nat, s.heap.size ≤ q → A q := fun q h => by rw [← hAe]; exact Or.inr h
  have hS : va_S A s.heap s.heap [] := va_S.rf
  have hP : va_P (dC, dI) vwCl [] s.heap := hP
  have hl := lv_entry ([.ref (adV i7), .int (nI kk)]) (n := 2) (Nat.le_of_ble_eq_true rfl)
  rw [lg_entry_eq]
  generalize (lg_sl ([.ref (adV i7), .int (nI kk)]) ++ List.replicate (2 - (lg_sl ([.ref (adV i7), .int (nI kk)])).length) Slot.unset).toArray = ls at hl ⊢
  have hl : lv_has ls 2 [(0, .ref (adV i7)), (1, .int (nI kk))] := hl
  refine lv_iload_n hx hb dJ1_charAt_3b067_0 rfl (lv_at hl 1 rfl) ?_
  refine lv_aload_n hx hb dJ1_charAt_3b067_1 rfl (lv_at hl 0 rfl) ?_
  refine va_tlen (v := nI (zz_len7.getD i7 0)) hx hb (hU.2.2.2.2.2.2.2.1.1 i7 h7).2.2.2 hS rfl dJ1_charAt_3b067_2 ?_
  obtain ⟨hPc, hDc⟩ := zz_sub2 (ws' := []) hP hD [] (by decide) rfl
  have hKc := hK.sub (tys' := []) [] rfl
  have hFc := zz_free0 hS hA
  refine va_callv (va_runS (As := [.int (nI kk), .int (nI (zz_len7.getD i7 0))]) (rest := []) ⟨hx, hb, hml, hown, hw⟩ (k_check l dC dI b0 b1 b2 adK adV (nI kk) (nI (zz_len7.getD i7 0)) s.heap.size (by rw [zz_toInt kk (by omega), zz_toInt (zz_len7.getD i7 0) (by omega)]; omega)) ⟨callB_of 2 hw (zz_good tw_342) rfl rfl rfl (hw _ tw_333) (hw _ tw_343) (by decide +kernel) ⟨Nat.le_of_ble_eq_true rfl, Nat.le_of_ble_eq_true rfl⟩, (hw _ tw_344)⟩ ⟨zz_blindG, zz_preG hPc hKc hDc hN hU hS hFc⟩ rfl rfl hl.1 rfl (lv_room (Nat.le_of_ble_eq_true rfl)) dJ1_charAt_3b067_3 ⟨Nat.le_of_ble_eq_true rfl, Nat.le_of_ble_eq_true rfl⟩) hS (fun q _ h => hFc q h) hFc (fun u_1 t H1 locs ht hvm e_1 hB hz1 hk1 hS => ?_)
  try dsimp only at e_1
  have hP := zz_keep hP hk1
  clear hk1 hB ht hvm
  generalize H1 = H at hP hS ⊢
  refine lv_aload_n hx hb dJ1_charAt_3b067_6 rfl (lv_at hl 0 rfl) ?_
  refine lv_iload_n hx hb dJ1_charAt_3b067_7 rfl (lv_at hl 1 rfl) ?_
  refine va_tb (v := .int ((zz_byt7.getD i7 []).getD (Int32.toNatClampNeg (nI kk)) 0)) hx hb (hU.2.2.2.2.2.2.2.1.1 i7 h7).2.2.2 hS (vp_in_iff.mpr (by rw [zz_toInt kk (by omega)]; constructor <;> omega)) rfl dJ1_charAt_3b067_8 ?_
  refine lv_sipush (v := 255) hx hb dJ1_charAt_3b067_9 (by decide) ?_
  refine lv_iand hx hb dJ1_charAt_3b067_12 ?_
  refine zz_seti (((zz_byt7.getD i7 []).getD kk 0) &&& 255) (by rw [zz_cl (by omega)]) ?_
  refine lv_i2c (v := (((zz_byt7.getD i7 []).getD kk 0) &&& 255)) hx hb dJ1_charAt_3b067_13 (sc_c2 _) ?_
  exact W.zret (v := (((zz_byt7.getD i7 []).getD kk 0) &&& 255)) hx hb hr (sc_nar _) (fun t ht hW => ⟨⟨(((zz_byt7.getD i7 []).getD kk 0) &&& 255), (), rfl, rfl, trivial⟩, hS.F ht⟩) hS.2.2 dJ1_charAt_3b067_14
set_option maxHeartbeats 4000000 in
set_option maxRecDepth 100000 in
theorem kx_charAt (l : Launch) (dC : Nat → ClassId) (dI : Nat → Nat → Nat) (b0 : Nat) (b1 : Nat) (b2 : Nat) (adK : Nat → Nat) (adV : Nat → Nat) (i7 : Nat) (kk : Nat) (sz : Nat) (h7 : i7 < 7) (h5 : (zz_len7.getD i7 0) ≤ 5) (hkk : kk < (zz_len7.getD i7 0)) : Met l yJ0_charAt_5068e (zz_w yJ0_charAt_5068e cJ0_charAt_5068e 2 (some .char)) ({ frames := 3, cells := 0, slots := 0, locals := 64 }) (va_Pc [.ref (adK i7), .int (nI kk)] (zz_BG (dC, dI) sz b0 b1 b2 adK adV [] [] [])) (va_Qi (fun (r : Int32) (_ : Unit) => r = (((zz_byt7.getD i7 []).getD kk 0) &&& 255)) (fun _ _ => True) (va_A [] sz)) 0 0 (va_A [] sz) := by
  refine Met.ofW (cc := cJ0_charAt_5068e) (maxL := 2) (ret := (some .char)) (by decide) rfl ?_
  intro p e s m args below meth c s₁ B hml hv
  obtain ⟨rfl, ⟨hsz, hP, hK, hD0, hN⟩, hU⟩ := hv
  have hx := B.exec
  have hb := B.bytes
  have hr := B.returns
  have hts := atoms_spec (ws := zz_w yJ0_charAt_5068e cJ0_charAt_5068e 2 (some .char)) B.pre
  have hw : ∀ w ∈ zz_all, w.before _ s = true := fun w h => hts w (List.mem_cons_of_mem _ h)
  have hown : s.vm.findClass RJ0 = some m.cls := findClass_of_methodNamed B.named
  have hlocks := B.notSynchronized
  subst hsz
  have hD := hD0
  generalize hAe : va_A [] s.heap.size = A at hU ⊢
  have hA : ∀ q : Nat, s.heap.size ≤ q → A q := fun q h => by rw [← hAe]; exact Or.inr h
  have hS : va_S A s.heap s.heap [] := va_S.rf
  have hP : va_P (dC, dI) vwCl [] s.heap := hP
  have hl := lv_entry ([.ref (adK i7), .int (nI kk)]) (n := 2) (Nat.le_of_ble_eq_true rfl)
  rw [lg_entry_eq]
  generalize (lg_sl ([.ref (adK i7), .int (nI kk)]) ++ List.replicate (2 - (lg_sl ([.ref (adK i7), .int (nI kk)])).length) Slot.unset).toArray = ls at hl ⊢
  have hl : lv_has ls 2 [(0, .ref (adK i7)), (1, .int (nI kk))] := hl
  refine lv_aload_n hx hb dJ0_charAt_5068e_0 rfl (lv_at hl 0 rfl) ?_
  obtain ⟨hPc, hDc⟩ := zz_sub2 (ws' := []) hP hD [] (by decide) rfl
  have hKc := hK.sub (tys' := []) [] rfl
  have hFc := zz_free0 hS hA
  refine va_calli (va_runV (As := []) (rest := []) ⟨hx, hb, hml, hown, hw⟩ (k_isLatin1 l dC dI b0 b1 b2 adK adV i7 s.heap.size h7) ⟨callB_of 0 hw (zz_good tw_345) rfl rfl rfl (hw _ tw_333) (hw _ tw_346) (by decide +kernel) ⟨Nat.le_of_ble_eq_true rfl, Nat.le_of_ble_eq_true rfl⟩, (hw _ tw_347), (hw _ tw_348)⟩ ⟨zz_blindG, vk_recv hU.2.2.2.2.2.2.2.1 h7 hS, zz_preG hPc hKc hDc hN hU hS hFc⟩ rfl rfl hl.1 rfl (lv_room (Nat.le_of_ble_eq_true rfl)) dJ0_charAt_5068e_1 ⟨Nat.le_of_ble_eq_true rfl, Nat.le_of_ble_eq_true rfl⟩) hS (fun q _ h => hFc q h) hFc (fun r_1 u_1 t H1 locs ht hvm e_1 hB hz1 hk1 hS => ?_)
  try dsimp only at e_1
  have hP := zz_keep hP hk1
  clear hk1 hB ht hvm
  generalize H1 = H at hP hS ⊢
  refine zz_seti 1 e_1 ?_
  refine lv_if_eq (tgt := 16) hx hb dJ0_charAt_5068e_4 (by decide) (fun c_9 => absurd c_9 (by decide)) (fun _ => ?_)
  refine lv_aload_n hx hb dJ0_charAt_5068e_7 rfl (lv_at hl 0 rfl) ?_
  refine vk_getf hx hb (hU.2.2.2.2.2.2.2.1.1 i7 h7).2.2.1 hS hown (hw _ tw_331) (fun _ h9 => h9) dJ0_charAt_5068e_8 ?_
  refine lv_iload_n hx hb dJ0_charAt_5068e_11 rfl (lv_at hl 1 rfl) ?_
  obtain ⟨hPc, hDc⟩ := zz_sub2 (ws' := []) hP hD [] (by decide) rfl
  have hKc := hK.sub (tys' := []) [] rfl
  have hFc := zz_free0 hS hA
  refine va_calli (va_runS (As := [.ref (adV i7), .int (nI kk)]) (rest := []) ⟨hx, hb, hml, hown, hw⟩ (kx_charAt1 l dC dI b0 b1 b2 adK adV i7 kk H.size h7 (by omega) (by omega)) ⟨callB_of 2 hw (zz_good tw_349) rfl rfl rfl (hw _ tw_350) (hw _ tw_351) (by decide +kernel) ⟨Nat.le_of_ble_eq_true rfl, Nat.le_of_ble_eq_true rfl⟩, (hw _ tw_352)⟩ ⟨zz_blindG, zz_preG hPc hKc hDc hN hU hS hFc⟩ rfl rfl hl.1 rfl (lv_room (Nat.le_of_ble_eq_true rfl)) dJ0_charAt_5068e_12 ⟨Nat.le_of_ble_eq_true rfl, Nat.le_of_ble_eq_true rfl⟩) hS (fun q _ h => hFc q h) hFc (fun r_2 u_2 t H1 locs ht hvm e_2 hB hz1 hk1 hS => ?_)
  try dsimp only at e_2
  have hP := zz_keep hP hk1
  clear hk1 hB ht hvm
  generalize H1 = H at hP hS ⊢
  exact W.zret (v := r_2) hx hb hr ((by rw [e_2]; exact sc_nar _)) (fun t ht hW => ⟨⟨r_2, (), rfl, e_2, trivial⟩, hS.F ht⟩) hS.2.2 dJ0_charAt_5068e_15
