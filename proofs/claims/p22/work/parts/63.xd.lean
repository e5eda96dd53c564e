set_option maxHeartbeats 4000000 in
set_option maxRecDepth 100000 in
theorem kx_standsAt (l : Launch) (dC : Nat → ClassId) (dI : Nat → Nat → Nat) (b0 : Nat) (b1 : Nat) (b2 : Nat) (adK : Nat → Nat) (adV : Nat → Nat) (i7 : Nat) (a : Nat → Nat) (cI : ClassId) (nt : Nat) (fb : Nat → Int32) (ka : Nat) (sz : Nat) (h7 : i7 < 7) (hnt : nt ≤ 200) (hka : ka < 200) : Met l yX0_standsAt (zz_w yX0_standsAt cX0_standsAt 5 (some .boolean)) ({ frames := 4, cells := 0, slots := 0, locals := 85 }) (va_Pc [.ref (adK i7), .ref (a 24), .int (nI ka)] (zz_BG (dC, dI) sz b0 b1 b2 adK adV [(a 24, .inr (6, [.ref (a 25), .int (nI nt)])), (a 25, .inl (cI, 200, .inl fb))] [(cI, .int)] [])) (va_Qi (fun (r : Int32) (_ : Unit) => (r = 1 ∧ zz_mt (zz_cs fb nt) i7 ka) ∨ (r = 0 ∧ ¬ zz_mt (zz_cs fb nt) i7 ka)) (fun _ _ => True) (va_A [] sz)) 0 0 (va_A [] sz) := by
  refine Met.ofW (cc := cX0_standsAt) (maxL := 5) (ret := (some .boolean)) (by decide) rfl ?_
  intro p e s m args below meth c s₁ B hml hv
  obtain ⟨rfl, ⟨hsz, hP, hK, hD0, hN⟩, hU⟩ := hv
  have hx := B.exec
  have hb := B.bytes
  have hr := B.returns
  have hts := atoms_spec (ws := zz_w yX0_standsAt cX0_standsAt 5 (some .boolean)) B.pre
  have hw : ∀ w ∈ zz_all, w.before _ s = true := fun w h => hts w (List.mem_cons_of_mem _ h)
  have hown : s.vm.findClass RX0 = some m.cls := findClass_of_methodNamed B.named
  have hlocks := B.notSynchronized
  subst hsz
  have hD := hD0
  generalize hAe : va_A [] s.heap.size = A at hU ⊢
  have hA : ∀ q : Nat, s.heap.size ≤ q → A q := fun q h => by rw [← hAe]; exact Or.inr h
  have hS : va_S A s.heap s.heap [] := va_S.rf
  have hP : va_P (dC, dI) vwCl [(a 24, .inr (6, [.ref (a 25), .int (nI nt)])), (a 25, .inl (cI, 200, .inl fb))] s.heap := hP
  have hl := lv_entry ([.ref (adK i7), .ref (a 24), .int (nI ka)]) (n := 5) (Nat.le_of_ble_eq_true rfl)
  rw [lg_entry_eq]
  generalize (lg_sl ([.ref (adK i7), .ref (a 24), .int (nI ka)]) ++ List.replicate (5 - (lg_sl ([.ref (adK i7), .ref (a 24), .int (nI ka)])).length) Slot.unset).toArray = ls at hl ⊢
  have hl : lv_has ls 5 [(0, .ref (adK i7)), (1, .ref (a 24)), (2, .int (nI ka))] := hl
  have h5 := zz_len5 i7 h7
  refine lv_aload_n hx hb dX0_standsAt_0 rfl (lv_at hl 0 rfl) ?_
  obtain ⟨hPc, hDc⟩ := zz_sub2 (ws' := []) hP hD [] (by decide) rfl
  have hKc := hK.sub (tys' := []) [] rfl
  have hFc := zz_free0 hS hA
  refine va_calli (va_runV (As := []) (rest := []) ⟨hx, hb, hml, hown, hw⟩ (k_length l dC dI b0 b1 b2 adK adV i7 s.heap.size h7) ⟨callB_of 0 hw (zz_good tw_361) rfl rfl rfl (hw _ tw_333) (hw _ tw_362) (by decide +kernel) ⟨Nat.le_of_ble_eq_true rfl, Nat.le_of_ble_eq_true rfl⟩, (hw _ tw_363), (hw _ tw_364)⟩ ⟨zz_blindG, vk_recv hU.2.2.2.2.2.2.2.1 h7 hS, zz_preG hPc hKc hDc hN hU hS hFc⟩ rfl rfl hl.1 rfl (lv_room (Nat.le_of_ble_eq_true rfl)) dX0_standsAt_1 ⟨Nat.le_of_ble_eq_true rfl, Nat.le_of_ble_eq_true rfl⟩) hS (fun q _ h => hFc q h) hFc (fun r_1 u_1 t H1 locs ht hvm e_1 hB hz1 hk1 hS => ?_)
  try dsimp only at e_1
  have hP := zz_keep hP hk1
  clear hk1 hB ht hvm
  generalize H1 = H at hP hS ⊢
  refine zz_seti (nI (zz_len7.getD i7 0)) e_1 ?_
  refine lv_istore_n (lv' := [(3, .int (nI (zz_len7.getD i7 0))), (0, .ref (adK i7)), (1, .ref (a 24)), (2, .int (nI ka))]) hx hb dX0_standsAt_4 rfl hl (by decide) rfl (fun ls hl => ?_)
  refine lv_iconst (v := 0) hx hb dX0_standsAt_5 (by decide) ?_
  refine lv_istore (lv' := [(4, .int 0), (3, .int (nI (zz_len7.getD i7 0))), (0, .ref (adK i7)), (1, .ref (a 24)), (2, .int (nI ka))]) hx hb dX0_standsAt_6 hl (by decide) rfl (fun ls hl => ?_)
  refine zz_loopS (fun (i : (Nat)) => [(a 24, .inr (6, [.ref (a 25), .int (nI nt)])), (a 25, .inl (cI, 200, .inl fb))]) (fun (i : (Nat)) => [(0, .ref (adK i7)), (1, .ref (a 24)), (2, .int (nI ka)), (3, .int (nI (zz_len7.getD i7 0))), (4, .int (nI i))]) (fun (i : (Nat)) => i ≤ (zz_len7.getD i7 0) ∧ ∀ j : Nat, j < i → zz_cs fb nt (ka + j) = (zz_byt7.getD i7 []).getD j 0) (fun (i : (Nat)) => (zz_len7.getD i7 0) - i) (fun u hI H locs ls hP hD hS hl ih_8 => ?_) 0 ⟨by omega, fun j hj => absurd hj (by omega)⟩ _ _ _ (hP.sub [0, 1] rfl) (hD.sub [0, 1] (by decide) rfl) hS (lv_sub hl [2, 3, 4, 1, 0] rfl)
  obtain ⟨i, rfl⟩ : ∃ z, z = u := ⟨_, rfl⟩
  obtain ⟨hP, hD⟩ := zz_ty (D := (dC, dI)) (cl := vwCl) (A := (fun _ => True)) (H := H) [(a 24, .inr (6, [.ref (a 25), .int (nI nt)])), (a 25, .inl (cI, 200, .inl fb))] hP hD rfl
  have hl : lv_has ls 5 [(0, .ref (adK i7)), (1, .ref (a 24)), (2, .int (nI ka)), (3, .int (nI (zz_len7.getD i7 0))), (4, .int (nI i))] := hl
  have hI : i ≤ (zz_len7.getD i7 0) ∧ ∀ j : Nat, j < i → zz_cs fb nt (ka + j) = (zz_byt7.getD i7 []).getD j 0 := hI
  obtain ⟨ii, im⟩ := hI
  refine lv_iload hx hb dX0_standsAt_8 (lv_at hl 4 rfl) ?_
  refine lv_iload_n hx hb dX0_standsAt_10 rfl (lv_at hl 3 rfl) ?_
  refine lv_icmp_ge (tgt := 39) hx hb dX0_standsAt_11 (by decide) (fun c_2 => ?_) (fun c_2 => ?_)
  · have zc_2 := c_2
    rw [Int32.le_iff_toInt_le] at zc_2
    try rw [zz_toInt i (by omega)] at zc_2
    try rw [zz_toInt (zz_len7.getD i7 0) (by omega)] at zc_2
    refine lv_aload_n hx hb dX0_standsAt_39 rfl (lv_at hl 1 rfl) ?_
    refine lv_iload_n hx hb dX0_standsAt_40 rfl (lv_at hl 2 rfl) ?_
    refine lv_iload_n hx hb dX0_standsAt_41 rfl (lv_at hl 3 rfl) ?_
    refine lv_iadd hx hb dX0_standsAt_42 ?_
    refine zz_seti (nI (ka + (zz_len7.getD i7 0))) (nI_add _ _) ?_
    obtain ⟨hPc, hDc⟩ := zz_sub2 (ws' := [(a 24, .inr (6, [.ref (a 25), .int (nI nt)])), (a 25, .inl (cI, 200, .inl fb))]) hP hD [0, 1] (by decide) rfl
    have hKc := hK.sub (tys' := [(cI, .int)]) [0] rfl
    have hFc := zz_free0 hS hA
    refine va_calli (va_runVN (As := [.int (nI (ka + (zz_len7.getD i7 0)))]) (rest := []) ⟨hx, hb, hml, hown, hw⟩ (kx_at l dC dI a cI nt fb (nI (ka + (zz_len7.getD i7 0))) H.size (by omega)) ⟨va_cnB 1 hw (zz_good tw_353) rfl rfl rfl (hN.1 _ zz_n48) (hw _ tw_99) (by decide +kernel) ⟨Nat.le_of_ble_eq_true rfl, Nat.le_of_ble_eq_true rfl⟩, (hw _ tw_354), (hw _ tw_355)⟩ ⟨zz_blind, va_recv hKc hPc (ci := 6) (q0 := 0) rfl rfl, zz_pre hPc hKc hDc hN⟩ rfl rfl hl.1 rfl (lv_room (Nat.le_of_ble_eq_true rfl)) dX0_standsAt_43 ⟨Nat.le_of_ble_eq_true rfl, Nat.le_of_ble_eq_true rfl⟩) hS (fun q _ h => hFc q h) hFc (fun r_3 u_3 t H1 locs ht hvm e_3 hB hz1 hk1 hS => ?_)
    try dsimp only at e_3
    have hP := zz_keep hP hk1
    clear hk1 hB ht hvm
    generalize H1 = H at hP hS ⊢
    refine zz_seti (zz_cs fb nt (ka + (zz_len7.getD i7 0))) (e_3.trans (zz_ca_n (by omega))) ?_
    obtain ⟨hPc, hDc⟩ := zz_sub2 (ws' := []) hP hD [] (by decide) rfl
    have hKc := hK.sub (tys' := []) [] rfl
    have hFc := zz_free0 hS hA
    refine va_calli (va_runS (As := [.int (zz_cs fb nt (ka + (zz_len7.getD i7 0)))]) (rest := []) ⟨hx, hb, hml, hown, hw⟩ (kx_sortOf l dC dI (zz_cs fb nt (ka + (zz_len7.getD i7 0))) H.size) ⟨callB_of 1 hw (zz_good tw_356) rfl rfl rfl (hw _ tw_357) (hw _ tw_358) (by decide +kernel) ⟨Nat.le_of_ble_eq_true rfl, Nat.le_of_ble_eq_true rfl⟩, (hw _ tw_359)⟩ ⟨zz_blind, zz_pre hPc hKc hDc hN⟩ rfl rfl hl.1 rfl (lv_room (Nat.le_of_ble_eq_true rfl)) dX0_standsAt_46 ⟨Nat.le_of_ble_eq_true rfl, Nat.le_of_ble_eq_true rfl⟩) hS (fun q _ h => hFc q h) hFc (fun r_4 u_4 t H1 locs ht hvm e_4 hB hz1 hk1 hS => ?_)
    try dsimp only at e_4
    have hP := zz_keep hP hk1
    clear hk1 hB ht hvm
    generalize H1 = H at hP hS ⊢
    refine zz_seti (zz_so (zz_cs fb nt (ka + (zz_len7.getD i7 0)))) e_4 ?_
    refine lv_iconst (v := 1) hx hb dX0_standsAt_49 (by decide) ?_
    refine lv_icmp_eq (tgt := 57) hx hb dX0_standsAt_50 (by decide) (fun c_5 => ?_) (fun c_5 => ?_)
    · have zc_5 := c_5
      rw [← Int32.toInt_inj] at zc_5
      try rw [show (1 : Int32).toInt = 1 from by decide] at zc_5
      refine lv_iconst (v := 0) hx hb dX0_standsAt_57 (by decide) ?_
      exact W.zret (v := 0) hx hb hr (rfl) (fun t ht hW => ⟨⟨0, (), rfl, (Or.inr ⟨rfl, fun h9 => h9.2 c_5⟩), trivial⟩, hS.F ht⟩) hS.2.2 dX0_standsAt_58
    · have zc_5 := c_5
      rw [← Int32.toInt_inj] at zc_5
      try rw [show (1 : Int32).toInt = 1 from by decide] at zc_5
      refine lv_iconst (v := 1) hx hb dX0_standsAt_53 (by decide) ?_
      refine lv_goto (tgt := 58) hx hb dX0_standsAt_54 (by decide) ?_
      exact W.zret (v := 1) hx hb hr (rfl) (fun t ht hW => ⟨⟨1, (), rfl, (Or.inl ⟨rfl, (fun j hj => im j (by omega)), c_5⟩), trivial⟩, hS.F ht⟩) hS.2.2 dX0_standsAt_58
  · have zc_2 := c_2
    rw [Int32.le_iff_toInt_le] at zc_2
    try rw [zz_toInt i (by omega)] at zc_2
    try rw [zz_toInt (zz_len7.getD i7 0) (by omega)] at zc_2
    refine lv_aload_n hx hb dX0_standsAt_14 rfl (lv_at hl 1 rfl) ?_
    refine lv_iload_n hx hb dX0_standsAt_15 rfl (lv_at hl 2 rfl) ?_
    refine lv_iload hx hb dX0_standsAt_16 (lv_at hl 4 rfl) ?_
    refine lv_iadd hx hb dX0_standsAt_18 ?_
    refine zz_seti (nI (ka + i)) (nI_add _ _) ?_
    obtain ⟨hPc, hDc⟩ := zz_sub2 (ws' := [(a 24, .inr (6, [.ref (a 25), .int (nI nt)])), (a 25, .inl (cI, 200, .inl fb))]) hP hD [0, 1] (by decide) rfl
    have hKc := hK.sub (tys' := [(cI, .int)]) [0] rfl
    have hFc := zz_free0 hS hA
    refine va_calli (va_runVN (As := [.int (nI (ka + i))]) (rest := []) ⟨hx, hb, hml, hown, hw⟩ (kx_at l dC dI a cI nt fb (nI (ka + i)) H.size (by omega)) ⟨va_cnB 1 hw (zz_good tw_353) rfl rfl rfl (hN.1 _ zz_n48) (hw _ tw_99) (by decide +kernel) ⟨Nat.le_of_ble_eq_true rfl, Nat.le_of_ble_eq_true rfl⟩, (hw _ tw_354), (hw _ tw_355)⟩ ⟨zz_blind, va_recv hKc hPc (ci := 6) (q0 := 0) rfl rfl, zz_pre hPc hKc hDc hN⟩ rfl rfl hl.1 rfl (lv_room (Nat.le_of_ble_eq_true rfl)) dX0_standsAt_19 ⟨Nat.le_of_ble_eq_true rfl, Nat.le_of_ble_eq_true rfl⟩) hS (fun q _ h => hFc q h) hFc (fun r_6 u_6 t H1 locs ht hvm e_6 hB hz1 hk1 hS => ?_)
    try dsimp only at e_6
    have hP := zz_keep hP hk1
    clear hk1 hB ht hvm
    generalize H1 = H at hP hS ⊢
    refine zz_seti (zz_cs fb nt (ka + i)) (e_6.trans (zz_ca_n (by omega))) ?_
    refine lv_aload_n hx hb dX0_standsAt_22 rfl (lv_at hl 0 rfl) ?_
    refine lv_iload hx hb dX0_standsAt_23 (lv_at hl 4 rfl) ?_
    obtain ⟨hPc, hDc⟩ := zz_sub2 (ws' := []) hP hD [] (by decide) rfl
    have hKc := hK.sub (tys' := []) [] rfl
    have hFc := zz_free0 hS hA
    refine va_calli (va_runV (As := [.int (nI i)]) (rest := [.int (zz_cs fb nt (ka + i))]) ⟨hx, hb, hml, hown, hw⟩ (kx_charAt l dC dI b0 b1 b2 adK adV i7 i H.size h7 (by omega) (by omega)) ⟨callB_of 1 hw (zz_good tw_365) rfl rfl rfl (hw _ tw_333) (hw _ tw_366) (by decide +kernel) ⟨Nat.le_of_ble_eq_true rfl, Nat.le_of_ble_eq_true rfl⟩, (hw _ tw_367), (hw _ tw_368)⟩ ⟨zz_blindG, vk_recv hU.2.2.2.2.2.2.2.1 h7 hS, zz_preG hPc hKc hDc hN hU hS hFc⟩ rfl rfl hl.1 rfl (lv_room (Nat.le_of_ble_eq_true rfl)) dX0_standsAt_25 ⟨Nat.le_of_ble_eq_true rfl, Nat.le_of_ble_eq_true rfl⟩) hS (fun q _ h => hFc q h) hFc (fun r_7 u_7 t H1 locs ht hvm e_7 hB hz1 hk1 hS => ?_)
    try dsimp only at e_7
    have hP := zz_keep hP hk1
    clear hk1 hB ht hvm
    generalize H1 = H at hP hS ⊢
    refine zz_seti ((zz_byt7.getD i7 []).getD i 0) (e_7.trans (zz_byt255 i7 h7 i (by omega))) ?_
    refine lv_icmp_eq (tgt := 33) hx hb dX0_standsAt_28 (by decide) (fun c_8 => ?_) (fun c_8 => ?_)
    · have zc_8 := c_8
      rw [← Int32.toInt_inj] at zc_8
      refine lv_iinc (v := (nI (i + 1))) (lv' := [(4, .int (nI (i + 1))), (0, .ref (adK i7)), (1, .ref (a 24)), (2, .int (nI ka)), (3, .int (nI (zz_len7.getD i7 0)))]) hx hb dX0_standsAt_33 hl (k := 4) rfl (nI_1 _) (by decide) rfl (fun ls hl => ?_)
      refine lv_goto (tgt := 8) hx hb dX0_standsAt_36 (by decide) ?_
      exact ih_8 (i + 1) ⟨by omega, zz_mt_ext im c_8⟩ (show (zz_len7.getD i7 0) - (i + 1) < (zz_len7.getD i7 0) - i from by omega) _ _ _ (hP.sub [0, 1] rfl) (hD.sub [0, 1] (by decide) rfl) hS (lv_sub hl [1, 2, 3, 4, 0] rfl)
    · have zc_8 := c_8
      rw [← Int32.toInt_inj] at zc_8
      refine lv_iconst (v := 0) hx hb dX0_standsAt_31 (by decide) ?_
      exact W.zret (v := 0) hx hb hr (rfl) (fun t ht hW => ⟨⟨0, (), rfl, (Or.inr ⟨rfl, zz_mt_no (by omega) c_8⟩), trivial⟩, hS.F ht⟩) hS.2.2 dX0_standsAt_32
theorem zz_no_ext {P : Nat → Prop} {i : Nat} (h : ∀ u : Nat, u < i → ¬ P u) (hi : ¬ P i) : ∀ u : Nat, u < i + 1 → ¬ P u := by
  intro u hu
  by_cases e : u = i
  · subst e; exact hi
  · exact h u (by omega)
set_option maxHeartbeats 4000000 in
set_option maxRecDepth 100000 in
theorem kx_wordAt (l : Launch) (dC : Nat → ClassId) (dI : Nat → Nat → Nat) (b0 : Nat) (b1 : Nat) (b2 : Nat) (adK : Nat → Nat) (adV : Nat → Nat) (a : Nat → Nat) (cI : ClassId) (nt : Nat) (fb : Nat → Int32) (ka : Nat) (sz : Nat) (hnt : nt ≤ 200) (hka : ka < 200) : Met l yX0_wordAt (zz_w yX0_wordAt cX0_wordAt 3 (some .int)) ({ frames := 5, cells := 0, slots := 0, locals := 109 }) (va_Pc [.ref (a 24), .int (nI ka)] (zz_BG (dC, dI) sz b0 b1 b2 adK adV [(a 24, .inr (6, [.ref (a 25), .int (nI nt)])), (a 25, .inl (cI, 200, .inl fb))] [(cI, .int)] [])) (va_Qi (fun (r : Int32) (_ : Unit) => r = zz_wd (zz_cs fb nt) ka) (fun _ _ => True) (va_A [] sz)) 0 0 (va_A [] sz) := by
  refine Met.ofW (cc := cX0_wordAt) (maxL := 3) (ret := (some .int)) (by decide) rfl ?_
  intro p e s m args below meth c s₁ B hml hv
  obtain ⟨rfl, ⟨hsz, hP, hK, hD0, hN⟩, hU⟩ := hv
  have hx := B.exec
  have hb := B.bytes
  have hr := B.returns
  have hts := atoms_spec (ws := zz_w yX0_wordAt cX0_wordAt 3 (some .int)) B.pre
  have hw : ∀ w ∈ zz_all, w.before _ s = true := fun w h => hts w (List.mem_cons_of_mem _ h)
  have hown : s.vm.findClass RX0 = some m.cls := findClass_of_methodNamed B.named
  have hlocks := B.notSynchronized
  subst hsz
  have hD := hD0
  generalize hAe : va_A [] s.heap.size = A at hU ⊢
  have hA : ∀ q : Nat, s.heap.size ≤ q → A q := fun q h => by rw [← hAe]; exact Or.inr h
  have hS : va_S A s.heap s.heap [] := va_S.rf
  have hP : va_P (dC, dI) vwCl [(a 24, .inr (6, [.ref (a 25), .int (nI nt)])), (a 25, .inl (cI, 200, .inl fb))] s.heap := hP
  have hl := lv_entry ([.ref (a 24), .int (nI ka)]) (n := 3) (Nat.le_of_ble_eq_true rfl)
  rw [lg_entry_eq]
  generalize (lg_sl ([.ref (a 24), .int (nI ka)]) ++ List.replicate (3 - (lg_sl ([.ref (a 24), .int (nI ka)])).length) Slot.unset).toArray = ls at hl ⊢
  have hl : lv_has ls 3 [(0, .ref (a 24)), (1, .int (nI ka))] := hl
  refine lv_iconst (v := 0) hx hb dX0_wordAt_0 (by decide) ?_
  refine lv_istore_n (lv' := [(2, .int 0), (0, .ref (a 24)), (1, .int (nI ka))]) hx hb dX0_wordAt_1 rfl hl (by decide) rfl (fun ls hl => ?_)
  refine zz_loopS (fun (i : (Nat)) => [(a 24, .inr (6, [.ref (a 25), .int (nI nt)])), (a 25, .inl (cI, 200, .inl fb))]) (fun (i : (Nat)) => [(0, .ref (a 24)), (1, .int (nI ka)), (2, .int (nI i))]) (fun (i : (Nat)) => i ≤ 7 ∧ ∀ u : Nat, u < i → ¬ zz_mt (zz_cs fb nt) u ka) (fun (i : (Nat)) => 7 - i) (fun u hI H locs ls hP hD hS hl ih_2 => ?_) 0 ⟨by omega, fun u hu => absurd hu (by omega)⟩ _ _ _ (hP.sub [0, 1] rfl) (hD.sub [0, 1] (by decide) rfl) hS (lv_sub hl [1, 2, 0] rfl)
  obtain ⟨i, rfl⟩ : ∃ z, z = u := ⟨_, rfl⟩
  obtain ⟨hP, hD⟩ := zz_ty (D := (dC, dI)) (cl := vwCl) (A := (fun _ => True)) (H := H) [(a 24, .inr (6, [.ref (a 25), .int (nI nt)])), (a 25, .inl (cI, 200, .inl fb))] hP hD rfl
  have hl : lv_has ls 3 [(0, .ref (a 24)), (1, .int (nI ka)), (2, .int (nI i))] := hl
  have hI : i ≤ 7 ∧ ∀ u : Nat, u < i → ¬ zz_mt (zz_cs fb nt) u ka := hI
  obtain ⟨ii, iu⟩ := hI
  refine lv_iload_n hx hb dX0_wordAt_2 rfl (lv_at hl 2 rfl) ?_
  refine lv_bipush (v := 7) hx hb dX0_wordAt_3 (by decide) ?_
  refine lv_icmp_ge (tgt := 28) hx hb dX0_wordAt_5 (by decide) (fun c_1 => ?_) (fun c_1 => ?_)
  · have zc_1 := c_1
    rw [Int32.le_iff_toInt_le] at zc_1
    try rw [zz_toInt i (by omega)] at zc_1
    try rw [show (7 : Int32).toInt = 7 from by decide] at zc_1
    refine lv_iconst (v := (-1)) hx hb dX0_wordAt_28 (by decide) ?_
    exact W.iret (v := (-1)) hx hb hr (fun t ht hW => ⟨⟨(-1), (), rfl, (zz_wdF_no 7 0 (fun u _ hu => iu u (by omega))).symm, trivial⟩, hS.F ht⟩) hS.2.2 dX0_wordAt_29
  · have zc_1 := c_1
    rw [Int32.le_iff_toInt_le] at zc_1
    try rw [zz_toInt i (by omega)] at zc_1
    try rw [show (7 : Int32).toInt = 7 from by decide] at zc_1
    refine lv_iload_n hx hb dX0_wordAt_8 rfl (lv_at hl 2 rfl) ?_
    obtain ⟨hPc, hDc⟩ := zz_sub2 (ws' := []) hP hD [] (by decide) rfl
    have hKc := hK.sub (tys' := []) [] rfl
    have hFc := zz_free0 hS hA
    refine va_callq (va_runS (As := [.int (nI i)]) (rest := []) ⟨hx, hb, hml, hown, hw⟩ (k_spelling l dC dI b0 b1 b2 adK adV i H.size (by omega)) ⟨callB_of 1 hw (zz_good tw_369) rfl rfl rfl (hw _ tw_357) (hw _ tw_370) (by decide +kernel) ⟨Nat.le_of_ble_eq_true rfl, Nat.le_of_ble_eq_true rfl⟩, (hw _ tw_371)⟩ ⟨zz_blindG, zz_preG hPc hKc hDc hN hU hS hFc⟩ rfl rfl hl.1 rfl (lv_room (Nat.le_of_ble_eq_true rfl)) dX0_wordAt_9 ⟨Nat.le_of_ble_eq_true rfl, Nat.le_of_ble_eq_true rfl⟩) hS (fun q _ h => hFc q h) hFc (fun r_2 u_2 t H1 locs ht hvm e_2 hB hz1 hk1 hS => ?_)
    try dsimp only at e_2
    have hP := zz_keep hP hk1
    clear hk1 hB ht hvm
    generalize H1 = H at hP hS ⊢
    refine zz_setv (.ref (adK i)) (congrArg va_rf e_2) ?_
    refine lv_aload_n hx hb dX0_wordAt_12 rfl (lv_at hl 0 rfl) ?_
    refine lv_iload_n hx hb dX0_wordAt_13 rfl (lv_at hl 1 rfl) ?_
    obtain ⟨hPc, hDc⟩ := zz_sub2 (ws' := [(a 24, .inr (6, [.ref (a 25), .int (nI nt)])), (a 25, .inl (cI, 200, .inl fb))]) hP hD [0, 1] (by decide) rfl
    have hKc := hK.sub (tys' := [(cI, .int)]) [0] rfl
    have hFc := zz_free0 hS hA
    refine va_calli (va_runS (As := [.ref (adK i), .ref (a 24), .int (nI ka)]) (rest := []) ⟨hx, hb, hml, hown, hw⟩ (kx_standsAt l dC dI b0 b1 b2 adK adV i a cI nt fb ka H.size (by omega) (by omega) (by omega)) ⟨callB_of 3 hw (zz_good tw_372) rfl rfl rfl (hw _ tw_357) (hw _ tw_373) (by decide +kernel) ⟨Nat.le_of_ble_eq_true rfl, Nat.le_of_ble_eq_true rfl⟩, (hw _ tw_374)⟩ ⟨zz_blindG, zz_preG hPc hKc hDc hN hU hS hFc⟩ rfl rfl hl.1 rfl (lv_room (Nat.le_of_ble_eq_true rfl)) dX0_wordAt_14 ⟨Nat.le_of_ble_eq_true rfl, Nat.le_of_ble_eq_true rfl⟩) hS (fun q _ h => hFc q h) hFc (fun r_3 u_3 t H1 locs ht hvm e_3 hB hz1 hk1 hS => ?_)
    try dsimp only at e_3
    have hP := zz_keep hP hk1
    clear hk1 hB ht hvm
    generalize H1 = H at hP hS ⊢
    rcases e_3 with ⟨er_3, bt_3⟩ | ⟨er_3, bt_3⟩
    · refine zz_seti 1 er_3 ?_
      refine lv_if_eq (tgt := 22) hx hb dX0_wordAt_17 (by decide) (fun c_9 => absurd c_9 (by decide)) (fun _ => ?_)
      refine lv_iload_n hx hb dX0_wordAt_20 rfl (lv_at hl 2 rfl) ?_
      exact W.iret (v := (nI i)) hx hb hr (fun t ht hW => ⟨⟨(nI i), (), rfl, (zz_wdF_hit 7 0 i (Nat.zero_le _) (by omega) bt_3 (fun u _ hu => iu u hu)).symm, trivial⟩, hS.F ht⟩) hS.2.2 dX0_wordAt_21
    · refine zz_seti 0 er_3 ?_
      refine lv_if_eq (tgt := 22) hx hb dX0_wordAt_17 (by decide) (fun _ => ?_) (fun c_9 => absurd c_9 (by decide))
      refine lv_iinc (v := (nI (i + 1))) (lv' := [(2, .int (nI (i + 1))), (0, .ref (a 24)), (1, .int (nI ka))]) hx hb dX0_wordAt_22 hl (k := 2) rfl (nI_1 _) (by decide) rfl (fun ls hl => ?_)
      refine lv_goto (tgt := 2) hx hb dX0_wordAt_25 (by decide) ?_
      exact ih_2 (i + 1) ⟨by omega, zz_no_ext iu bt_3⟩ (show 7 - (i + 1) < 7 - i from by omega) _ _ _ (hP.sub [0, 1] rfl) (hD.sub [0, 1] (by decide) rfl) hS (lv_sub hl [1, 2, 0] rfl)
