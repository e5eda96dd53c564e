set_option maxHeartbeats 4000000 in
set_option maxRecDepth 100000 in
theorem kx_takeToken (l : Launch) (dC : Nat → ClassId) (dI : Nat → Nat → Nat) (b0 : Nat) (b1 : Nat) (b2 : Nat) (adK : Nat → Nat) (adV : Nat → Nat) (a : Nat → Nat) (cI : ClassId) (nt : Nat) (fb : Nat → Int32) (cu0 : Int32) (cu1 : Int32) (cu2 : Int32) (cu3 : Int32) (cu4 : Int32) (cu5 : Int32) (fdr : Nat → Int32) (ka : Nat) (q : zz_Q) (sz : Nat) (hnt : nt ≤ 200) (hkn : ka < nt) (hqr : zz_qr q cu2 cu3 cu4 cu5 fdr) : Met l yX0_takeToken (zz_w yX0_takeToken cX0_takeToken 3 (some .int)) ({ frames := 7, cells := 0, slots := 0, locals := 153 }) (va_Pc [.ref (a 26), .ref (a 24), .int (nI ka)] (zz_BG (dC, dI) sz b0 b1 b2 adK adV [(a 26, .inr (0, [.ref (a 27), .ref (a 28), .int cu0, .int cu1, .int cu2, .int cu3, .int cu4, .int cu5])), (a 28, .inl (cI, 7, .inl fdr)), (a 24, .inr (6, [.ref (a 25), .int (nI nt)])), (a 25, .inl (cI, 200, .inl fb))] [(cI, .int)] [(a 26, .inr (0, [.ref (a 27), .ref (a 28), .int cu0, .int cu1, .int cu2, .int cu3, .int cu4, .int cu5])), (a 28, .inl (cI, 7, .inl fdr)), (a 24, .inr (6, [.ref (a 25), .int (nI nt)])), (a 25, .inl (cI, 200, .inl fb))])) (va_Qi (fun (r : Int32) (u : Int32 × Int32 × Int32 × Int32 × (Nat → Int32)) => match u with | (d2, d3, d4, d5, f2) => r = nI (zz_tk (zz_cs fb nt) nt ka q).1 ∧ (r = 0 → zz_qr (zz_tk (zz_cs fb nt) nt ka q).2 d2 d3 d4 d5 f2)) (fun (u : Int32 × Int32 × Int32 × Int32 × (Nat → Int32)) (t : State) => match u with | (u0, u1, u2, u3, u4) => va_P (dC, dI) vwCl [(a 26, .inr (0, [.ref (a 27), .ref (a 28), .int cu0, .int cu1, .int u0, .int u1, .int u2, .int u3])), (a 28, .inl (cI, 7, .inl u4)), (a 24, .inr (6, [.ref (a 25), .int (nI nt)])), (a 25, .inl (cI, 200, .inl fb))] t.heap ∧ va_K (dC, dI) vwCl [(cI, .int)] t ∧ va_D (va_A [(a 26, .inr (0, [.ref (a 27), .ref (a 28), .int cu0, .int cu1, .int cu2, .int cu3, .int cu4, .int cu5])), (a 28, .inl (cI, 7, .inl fdr)), (a 24, .inr (6, [.ref (a 25), .int (nI nt)])), (a 25, .inl (cI, 200, .inl fb))] sz) [(a 26, .inr (0, [.ref (a 27), .ref (a 28), .int cu0, .int cu1, .int u0, .int u1, .int u2, .int u3])), (a 28, .inl (cI, 7, .inl u4)), (a 24, .inr (6, [.ref (a 25), .int (nI nt)])), (a 25, .inl (cI, 200, .inl fb))]) (va_A [(a 26, .inr (0, [.ref (a 27), .ref (a 28), .int cu0, .int cu1, .int cu2, .int cu3, .int cu4, .int cu5])), (a 28, .inl (cI, 7, .inl fdr)), (a 24, .inr (6, [.ref (a 25), .int (nI nt)])), (a 25, .inl (cI, 200, .inl fb))] sz)) 0 0 (va_A [(a 26, .inr (0, [.ref (a 27), .ref (a 28), .int cu0, .int cu1, .int cu2, .int cu3, .int cu4, .int cu5])), (a 28, .inl (cI, 7, .inl fdr)), (a 24, .inr (6, [.ref (a 25), .int (nI nt)])), (a 25, .inl (cI, 200, .inl fb))] sz) := by
  refine Met.ofW (cc := cX0_takeToken) (maxL := 3) (ret := (some .int)) (by decide) rfl ?_
  intro p e s m args below meth c s₁ B hml hv
  obtain ⟨rfl, ⟨hsz, hP, hK, hD0, hN⟩, hU⟩ := hv
  have hx := B.exec
  have hb := B.bytes
  have hr := B.returns
  have hts := atoms_spec (ws := zz_w yX0_takeToken cX0_takeToken 3 (some .int)) B.pre
  have hw : ∀ w ∈ zz_all, w.before _ s = true := fun w h => hts w (List.mem_cons_of_mem _ h)
  have hown : s.vm.findClass RX0 = some m.cls := findClass_of_methodNamed B.named
  have hlocks := B.notSynchronized
  subst hsz
  have hD := hD0.self (sz := s.heap.size)
  generalize hAe : va_A [(a 26, .inr (0, [.ref (a 27), .ref (a 28), .int cu0, .int cu1, .int cu2, .int cu3, .int cu4, .int cu5])), (a 28, .inl (cI, 7, .inl fdr)), (a 24, .inr (6, [.ref (a 25), .int (nI nt)])), (a 25, .inl (cI, 200, .inl fb))] s.heap.size = A at hD hU ⊢
  have hA : ∀ q : Nat, s.heap.size ≤ q → A q := fun q h => by rw [← hAe]; exact Or.inr h
  have hS : va_S A s.heap s.heap [] := va_S.rf
  have hP : va_P (dC, dI) vwCl [(a 26, .inr (0, [.ref (a 27), .ref (a 28), .int cu0, .int cu1, .int cu2, .int cu3, .int cu4, .int cu5])), (a 28, .inl (cI, 7, .inl fdr)), (a 24, .inr (6, [.ref (a 25), .int (nI nt)])), (a 25, .inl (cI, 200, .inl fb))] s.heap := hP
  have hl := lv_entry ([.ref (a 26), .ref (a 24), .int (nI ka)]) (n := 3) (Nat.le_of_ble_eq_true rfl)
  rw [lg_entry_eq]
  generalize (lg_sl ([.ref (a 26), .ref (a 24), .int (nI ka)]) ++ List.replicate (3 - (lg_sl ([.ref (a 26), .ref (a 24), .int (nI ka)])).length) Slot.unset).toArray = ls at hl ⊢
  have hl : lv_has ls 3 [(0, .ref (a 26)), (1, .ref (a 24)), (2, .int (nI ka))] := hl
  refine lv_aload_n hx hb dX0_takeToken_0 rfl (lv_at hl 1 rfl) ?_
  refine lv_iload_n hx hb dX0_takeToken_1 rfl (lv_at hl 2 rfl) ?_
  obtain ⟨hPc, hDc⟩ := zz_sub2 (ws' := [(a 24, .inr (6, [.ref (a 25), .int (nI nt)])), (a 25, .inl (cI, 200, .inl fb))]) hP hD [2, 3] (by decide) rfl
  have hKc := hK.sub (tys' := [(cI, .int)]) [0] rfl
  have hFc := zz_free0 hS hA
  refine va_calli (va_runVN (As := [.int (nI ka)]) (rest := []) ⟨hx, hb, hml, hown, hw⟩ (kx_at l dC dI a cI nt fb (nI ka) s.heap.size (by omega)) ⟨va_cnB 1 hw (zz_good tw_353) rfl rfl rfl (hN.1 _ zz_n48) (hw _ tw_99) (by decide +kernel) ⟨Nat.le_of_ble_eq_true rfl, Nat.le_of_ble_eq_true rfl⟩, (hw _ tw_354), (hw _ tw_355)⟩ ⟨zz_blind, va_recv hKc hPc (ci := 6) (q0 := 0) rfl rfl, zz_pre hPc hKc hDc hN⟩ rfl rfl hl.1 rfl (lv_room (Nat.le_of_ble_eq_true rfl)) dX0_takeToken_2 ⟨Nat.le_of_ble_eq_true rfl, Nat.le_of_ble_eq_true rfl⟩) hS (fun q _ h => hFc q h) hFc (fun r_1 u_1 t H1 locs ht hvm e_1 hB hz1 hk1 hS => ?_)
  try dsimp only at e_1
  have hP := zz_keep hP hk1
  clear hk1 hB ht hvm
  generalize H1 = H at hP hS ⊢
  refine zz_seti (zz_cs fb nt ka) (e_1.trans (zz_ca_n (by omega))) ?_
  obtain ⟨hPc, hDc⟩ := zz_sub2 (ws' := []) hP hD [] (by decide) rfl
  have hKc := hK.sub (tys' := []) [] rfl
  have hFc := zz_free0 hS hA
  refine va_calli (va_runS (As := [.int (zz_cs fb nt ka)]) (rest := []) ⟨hx, hb, hml, hown, hw⟩ (kx_sortOf l dC dI (zz_cs fb nt ka) H.size) ⟨callB_of 1 hw (zz_good tw_356) rfl rfl rfl (hw _ tw_357) (hw _ tw_358) (by decide +kernel) ⟨Nat.le_of_ble_eq_true rfl, Nat.le_of_ble_eq_true rfl⟩, (hw _ tw_359)⟩ ⟨zz_blind, zz_pre hPc hKc hDc hN⟩ rfl rfl hl.1 rfl (lv_room (Nat.le_of_ble_eq_true rfl)) dX0_takeToken_5 ⟨Nat.le_of_ble_eq_true rfl, Nat.le_of_ble_eq_true rfl⟩) hS (fun q _ h => hFc q h) hFc (fun r_2 u_2 t H1 locs ht hvm e_2 hB hz1 hk1 hS => ?_)
  try dsimp only at e_2
  have hP := zz_keep hP hk1
  clear hk1 hB ht hvm
  generalize H1 = H at hP hS ⊢
  refine zz_seti (zz_so (zz_cs fb nt ka)) e_2 ?_
  refine lv_aload_n hx hb dX0_takeToken_8 rfl (lv_at hl 0 rfl) ?_
  refine va_get (D := (dC, dI)) (ci := 0) (v := .int cu2) (C := RX0) (T := TX0) (N := 8) hx hb hw zz_inX0 hown hK hP 0 rfl rfl 4 (by decide) (hw _ tw_380) (fun _ h9 => h9) rfl dX0_takeToken_9 ?_
  refine lv_icmp_eq (tgt := 17) hx hb dX0_takeToken_12 (by decide) (fun c_3 => ?_) (fun c_3 => ?_)
  · have zc_3 := c_3
    rw [← Int32.toInt_inj] at zc_3
    refine lv_aload_n hx hb dX0_takeToken_17 rfl (lv_at hl 0 rfl) ?_
    refine va_get (D := (dC, dI)) (ci := 0) (v := .int cu2) (C := RX0) (T := TX0) (N := 8) hx hb hw zz_inX0 hown hK hP 0 rfl rfl 4 (by decide) (hw _ tw_380) (fun _ h9 => h9) rfl dX0_takeToken_18 ?_
    by_cases c_4 : cu2 = 1
    · have zc_4 := c_4
      rw [← Int32.toInt_inj] at zc_4
      try rw [show (1 : Int32).toInt = 1 from by decide] at zc_4
      refine lv_lookup (off := 27) (tgt := 48) hx hb dX0_takeToken_21 (by decide) (by rw [c_4]; decide) (by decide) ?_
      have hq1 : q.1 = 1 := zz_nI_inj (by have := hqr.2.1; omega) (by decide) (hqr.1.symm.trans c_4)
      have hso1 : zz_so (zz_cs fb nt ka) = 1 := c_3.trans c_4
      refine lv_aload_n hx hb dX0_takeToken_48 rfl (lv_at hl 0 rfl) ?_
      refine lv_aload_n hx hb dX0_takeToken_49 rfl (lv_at hl 1 rfl) ?_
      refine lv_iload_n hx hb dX0_takeToken_50 rfl (lv_at hl 2 rfl) ?_
      obtain ⟨hPc, hDc⟩ := zz_sub2 (ws' := [(a 26, .inr (0, [.ref (a 27), .ref (a 28), .int cu0, .int cu1, .int cu2, .int cu3, .int cu4, .int cu5])), (a 24, .inr (6, [.ref (a 25), .int (nI nt)])), (a 25, .inl (cI, 200, .inl fb))]) hP hD [0, 2, 3] (by decide) rfl
      have hKc := hK.sub (tys' := [(cI, .int)]) [0] rfl
      have hFc := zz_free1 hDc hS hA
      refine va_calli (va_runV (As := [.ref (a 24), .int (nI ka)]) (rest := []) ⟨hx, hb, hml, hown, hw⟩ (kx_takeWord l dC dI b0 b1 b2 adK adV a cI nt fb cu0 cu1 cu2 cu3 cu4 cu5 fdr ka q H.size (by omega) (by omega) hqr hq1 hso1) ⟨callB_of 2 hw (zz_good tw_385) rfl rfl rfl (hw _ tw_357) (hw _ tw_386) (by decide +kernel) ⟨Nat.le_of_ble_eq_true rfl, Nat.le_of_ble_eq_true rfl⟩, (hw _ tw_387), (hw _ tw_388)⟩ ⟨zz_blindG, va_recv hKc hPc (ci := 0) (q0 := 0) rfl rfl, zz_preG hPc hKc hDc hN hU hS hFc⟩ rfl rfl hl.1 rfl (lv_room (Nat.le_of_ble_eq_true rfl)) dX0_takeToken_51 ⟨Nat.le_of_ble_eq_true rfl, Nat.le_of_ble_eq_true rfl⟩) hS (fun q _ h => hFc q h) hFc (fun r_5 u_5 t H1 locs ht hvm e_5 hB hz1 hk1 hS => ?_)
      try dsimp only at e_5
      obtain ⟨v_5_0, v_5_1, v_5_2⟩ := u_5
      obtain ⟨hP1, hK1, hD1⟩ := hB
      rw [ht] at hP1
      have hK1 := va_K.moved hvm.symm hK1
      try dsimp only at e_5
      obtain ⟨hP, hD⟩ := va_join (wr := [(a 28, .inl (cI, 7, .inl fdr))]) (w1 := [(a 26, .inr (0, [.ref (a 27), .ref (a 28), .int cu0, .int cu1, .int v_5_0, .int v_5_1, .int v_5_2, .int cu5])), (a 24, .inr (6, [.ref (a 25), .int (nI nt)])), (a 25, .inl (cI, 200, .inl fb))]) hP hD [0, 2, 3] [1] rfl rfl (by decide) (by decide) hk1 hFc hP1 hD1
      clear hk1 ht hvm
      generalize H1 = H at hP hS ⊢
      obtain ⟨hP, hD⟩ := zz_ty (D := (dC, dI)) (cl := vwCl) (A := A) (H := H) [(a 28, .inl (cI, 7, .inl fdr)), (a 26, .inr (0, [.ref (a 27), .ref (a 28), .int cu0, .int cu1, .int v_5_0, .int v_5_1, .int v_5_2, .int cu5])), (a 24, .inr (6, [.ref (a 25), .int (nI nt)])), (a 25, .inl (cI, 200, .inl fb))] hP hD rfl
      obtain ⟨hP9, hD9⟩ := zz_sub2 (ws' := [(a 26, .inr (0, [.ref (a 27), .ref (a 28), .int cu0, .int cu1, .int v_5_0, .int v_5_1, .int v_5_2, .int cu5])), (a 28, .inl (cI, 7, .inl fdr)), (a 24, .inr (6, [.ref (a 25), .int (nI nt)])), (a 25, .inl (cI, 200, .inl fb))]) hP hD [1, 0, 2, 3] (by decide) rfl
      have hK9 := hK.sub (tys' := [(cI, .int)]) [0] rfl
      exact W.iret (v := r_5) hx hb hr (fun t ht hW => ⟨⟨r_5, (v_5_0, v_5_1, v_5_2, cu5, fdr), rfl, e_5, by rw [ht]; exact hP9, va_K.moved hW.alike hK9, hD9⟩, hS.F ht⟩) hS.2.2 dX0_takeToken_54
    by_cases c_6 : cu2 = 2
    · have zc_6 := c_6
      rw [← Int32.toInt_inj] at zc_6
      try rw [show (2 : Int32).toInt = 2 from by decide] at zc_6
      refine lv_lookup (off := 34) (tgt := 55) hx hb dX0_takeToken_21 (by decide) (by rw [c_6]; decide) (by decide) ?_
      have hq2 : q.1 = 2 := zz_nI_inj (by have := hqr.2.1; omega) (by decide) (hqr.1.symm.trans c_6)
      have hso2 : zz_so (zz_cs fb nt ka) = 2 := c_3.trans c_6
      refine lv_aload_n hx hb dX0_takeToken_55 rfl (lv_at hl 0 rfl) ?_
      refine lv_aload_n hx hb dX0_takeToken_56 rfl (lv_at hl 1 rfl) ?_
      refine lv_iload_n hx hb dX0_takeToken_57 rfl (lv_at hl 2 rfl) ?_
      obtain ⟨hPc, hDc⟩ := zz_sub2 (ws' := [(a 26, .inr (0, [.ref (a 27), .ref (a 28), .int cu0, .int cu1, .int cu2, .int cu3, .int cu4, .int cu5])), (a 28, .inl (cI, 7, .inl fdr)), (a 24, .inr (6, [.ref (a 25), .int (nI nt)])), (a 25, .inl (cI, 200, .inl fb))]) hP hD [0, 1, 2, 3] (by decide) rfl
      have hKc := hK.sub (tys' := [(cI, .int)]) [0] rfl
      have hFc := zz_free1 hDc hS hA
      refine va_calli (va_runV (As := [.ref (a 24), .int (nI ka)]) (rest := []) ⟨hx, hb, hml, hown, hw⟩ (kx_takeNumber l dC dI b0 b1 b2 adK adV a cI nt fb cu0 cu1 cu2 cu3 cu4 cu5 fdr ka q H.size (by omega) (by omega) hqr hq2 hso2) ⟨callB_of 2 hw (zz_good tw_389) rfl rfl rfl (hw _ tw_357) (hw _ tw_390) (by decide +kernel) ⟨Nat.le_of_ble_eq_true rfl, Nat.le_of_ble_eq_true rfl⟩, (hw _ tw_391), (hw _ tw_392)⟩ ⟨zz_blindG, va_recv hKc hPc (ci := 0) (q0 := 0) rfl rfl, zz_preG hPc hKc hDc hN hU hS hFc⟩ rfl rfl hl.1 rfl (lv_room (Nat.le_of_ble_eq_true rfl)) dX0_takeToken_58 ⟨Nat.le_of_ble_eq_true rfl, Nat.le_of_ble_eq_true rfl⟩) hS (fun q _ h => hFc q h) hFc (fun r_7 u_7 t H1 locs ht hvm e_7 hB hz1 hk1 hS => ?_)
      try dsimp only at e_7
      obtain ⟨v_7_0, v_7_1⟩ := u_7
      obtain ⟨hP1, hK1, hD1⟩ := hB
      rw [ht] at hP1
      have hK1 := va_K.moved hvm.symm hK1
      try dsimp only at e_7
      obtain ⟨hP, hD⟩ := va_join (wr := []) (w1 := [(a 26, .inr (0, [.ref (a 27), .ref (a 28), .int cu0, .int cu1, .int v_7_0, .int cu3, .int cu4, .int cu5])), (a 28, .inl (cI, 7, .inl v_7_1)), (a 24, .inr (6, [.ref (a 25), .int (nI nt)])), (a 25, .inl (cI, 200, .inl fb))]) hP hD [0, 1, 2, 3] [] rfl rfl (by decide) (by decide) hk1 hFc hP1 hD1
      clear hk1 ht hvm
      generalize H1 = H at hP hS ⊢
      obtain ⟨hP, hD⟩ := zz_ty (D := (dC, dI)) (cl := vwCl) (A := A) (H := H) [(a 26, .inr (0, [.ref (a 27), .ref (a 28), .int cu0, .int cu1, .int v_7_0, .int cu3, .int cu4, .int cu5])), (a 28, .inl (cI, 7, .inl v_7_1)), (a 24, .inr (6, [.ref (a 25), .int (nI nt)])), (a 25, .inl (cI, 200, .inl fb))] hP hD rfl
      obtain ⟨hP9, hD9⟩ := zz_sub2 (ws' := [(a 26, .inr (0, [.ref (a 27), .ref (a 28), .int cu0, .int cu1, .int v_7_0, .int cu3, .int cu4, .int cu5])), (a 28, .inl (cI, 7, .inl v_7_1)), (a 24, .inr (6, [.ref (a 25), .int (nI nt)])), (a 25, .inl (cI, 200, .inl fb))]) hP hD [0, 1, 2, 3] (by decide) rfl
      have hK9 := hK.sub (tys' := [(cI, .int)]) [0] rfl
      exact W.iret (v := r_7) hx hb hr (fun t ht hW => ⟨⟨r_7, (v_7_0, cu3, cu4, cu5, v_7_1), rfl, e_7, by rw [ht]; exact hP9, va_K.moved hW.alike hK9, hD9⟩, hS.F ht⟩) hS.2.2 dX0_takeToken_61
    refine lv_lookup (off := 41) (tgt := 62) hx hb dX0_takeToken_21 (by decide) (by have n_0 := zz_ne c_4; rw [show (1 : Int32).toInt = 1 from by decide] at n_0; have n_1 := zz_ne c_6; rw [show (2 : Int32).toInt = 2 from by decide] at n_1; simp [Op.lookupswitch.offset, n_0, Ne.symm n_0, n_1, Ne.symm n_1]) (by decide) ?_
    have zc_4 := c_4
    rw [← Int32.toInt_inj] at zc_4
    try rw [show (1 : Int32).toInt = 1 from by decide] at zc_4
    have zc_6 := c_6
    rw [← Int32.toInt_inj] at zc_6
    try rw [show (2 : Int32).toInt = 2 from by decide] at zc_6
    have hq3 : q.1 = 3 := by
      rcases hqr.2.1 with z | z | z
      · exact absurd (by rw [hqr.1, z]; rfl) c_4
      · exact absurd (by rw [hqr.1, z]; rfl) c_6
      · exact z
    have hso3 : zz_so (zz_cs fb nt ka) = 3 := by rw [c_3, hqr.1, hq3]; rfl
    refine lv_aload_n hx hb dX0_takeToken_62 rfl (lv_at hl 0 rfl) ?_
    refine lv_dup hx hb dX0_takeToken_63 rfl ?_
    refine va_get (D := (dC, dI)) (ci := 0) (v := .int cu5) (C := RX0) (T := TX0) (N := 8) hx hb hw zz_inX0 hown hK hP 0 rfl rfl 7 (by decide) (hw _ tw_393) (fun _ h9 => h9) rfl dX0_takeToken_64 ?_
    refine lv_iconst (v := 1) hx hb dX0_takeToken_67 (by decide) ?_
    refine lv_iadd hx hb dX0_takeToken_68 ?_
    refine va_put (D := (dC, dI)) (ci := 0) (v := .int (cu5 + 1)) (ty := .int) (C := RX0) (T := TX0) (N := 8) hx hb hw zz_inX0 tyX0 tyX0_ok nmX0 hown hK hP hD hS 0 rfl rfl 7 (by decide) (hw _ tw_393) (fun _ h9 => h9) rfl (by decide +kernel) rfl rfl (Nat.le_of_ble_eq_true rfl) dX0_takeToken_69 (fun H locs hP hD hS => ?_)
    obtain ⟨hP, hD⟩ := zz_ty (D := (dC, dI)) (cl := vwCl) (A := A) (H := H) [(a 26, .inr (0, [.ref (a 27), .ref (a 28), .int cu0, .int cu1, .int cu2, .int cu3, .int cu4, .int (cu5 + 1)])), (a 28, .inl (cI, 7, .inl fdr)), (a 24, .inr (6, [.ref (a 25), .int (nI nt)])), (a 25, .inl (cI, 200, .inl fb))] hP hD rfl
    refine lv_aload_n hx hb dX0_takeToken_72 rfl (lv_at hl 0 rfl) ?_
    refine lv_iconst (v := 1) hx hb dX0_takeToken_73 (by decide) ?_
    refine va_put (D := (dC, dI)) (ci := 0) (v := .int 1) (ty := .int) (C := RX0) (T := TX0) (N := 8) hx hb hw zz_inX0 tyX0 tyX0_ok nmX0 hown hK hP hD hS 0 rfl rfl 4 (by decide) (hw _ tw_380) (fun _ h9 => h9) rfl (by decide +kernel) rfl rfl (Nat.le_of_ble_eq_true rfl) dX0_takeToken_74 (fun H locs hP hD hS => ?_)
    obtain ⟨hP, hD⟩ := zz_ty (D := (dC, dI)) (cl := vwCl) (A := A) (H := H) [(a 26, .inr (0, [.ref (a 27), .ref (a 28), .int cu0, .int cu1, .int 1, .int cu3, .int cu4, .int (cu5 + 1)])), (a 28, .inl (cI, 7, .inl fdr)), (a 24, .inr (6, [.ref (a 25), .int (nI nt)])), (a 25, .inl (cI, 200, .inl fb))] hP hD rfl
    refine lv_iconst (v := 0) hx hb dX0_takeToken_77 (by decide) ?_
    obtain ⟨hP9, hD9⟩ := zz_sub2 (ws' := [(a 26, .inr (0, [.ref (a 27), .ref (a 28), .int cu0, .int cu1, .int 1, .int cu3, .int cu4, .int (cu5 + 1)])), (a 28, .inl (cI, 7, .inl fdr)), (a 24, .inr (6, [.ref (a 25), .int (nI nt)])), (a 25, .inl (cI, 200, .inl fb))]) hP hD [0, 1, 2, 3] (by decide) rfl
    have hK9 := hK.sub (tys' := [(cI, .int)]) [0] rfl
    exact W.iret (v := 0) hx hb hr (fun t ht hW => ⟨⟨0, (1, cu3, cu4, (cu5 + 1), fdr), rfl, ⟨(by rw [zz_tk_s hso3 hq3]; rfl), fun _ => (by rw [zz_tk_s hso3 hq3]; exact zz_qr_s hqr)⟩, by rw [ht]; exact hP9, va_K.moved hW.alike hK9, hD9⟩, hS.F ht⟩) hS.2.2 dX0_takeToken_78
  · have zc_3 := c_3
    rw [← Int32.toInt_inj] at zc_3
    refine lv_iconst (v := 1) hx hb dX0_takeToken_15 (by decide) ?_
    obtain ⟨hP9, hD9⟩ := zz_sub2 (ws' := [(a 26, .inr (0, [.ref (a 27), .ref (a 28), .int cu0, .int cu1, .int cu2, .int cu3, .int cu4, .int cu5])), (a 28, .inl (cI, 7, .inl fdr)), (a 24, .inr (6, [.ref (a 25), .int (nI nt)])), (a 25, .inl (cI, 200, .inl fb))]) hP hD [0, 1, 2, 3] (by decide) rfl
    have hK9 := hK.sub (tys' := [(cI, .int)]) [0] rfl
    exact W.iret (v := 1) hx hb hr (fun t ht hW => ⟨⟨1, (cu2, cu3, cu4, cu5, fdr), rfl, ⟨(by rw [zz_tk_ne (fun z => c_3 (z.trans hqr.1.symm))]; rfl), fun h9 => absurd h9 (by decide)⟩, by rw [ht]; exact hP9, va_K.moved hW.alike hK9, hD9⟩, hS.F ht⟩) hS.2.2 dX0_takeToken_16
set_option maxHeartbeats 4000000 in
set_option maxRecDepth 100000 in
theorem kx_note (l : Launch) (dC : Nat → ClassId) (dI : Nat → Nat → Nat) (a : Nat → Nat) (cu0 : Int32) (cu1 : Int32) (cu2 : Int32) (cu3 : Int32) (cu4 : Int32) (cu5 : Int32) (p0 : Int32) (p1 : Int32) (sz : Nat) : Met l yX0_note (zz_w yX0_note cX0_note 3 none) ({ frames := 0, cells := 0, slots := 0, locals := 0 }) (va_Pc [.ref (a 26), .int p0, .int p1] (zz_B (dC, dI) sz [(a 26, .inr (0, [.ref (a 27), .ref (a 28), .int cu0, .int cu1, .int cu2, .int cu3, .int cu4, .int cu5]))] [])) (va_Qv (fun (u : Int32 × Int32) => match u with | (d0, d1) => (p0 = 0 ∧ d0 = cu0 ∧ d1 = cu1) ∨ (¬ p0 = 0 ∧ d0 = p0 ∧ d1 = p1)) (fun (u : Int32 × Int32) (t : State) => match u with | (u0, u1) => va_P (dC, dI) vwCl [(a 26, .inr (0, [.ref (a 27), .ref (a 28), .int u0, .int u1, .int cu2, .int cu3, .int cu4, .int cu5]))] t.heap ∧ va_K (dC, dI) vwCl [] t ∧ va_D (va_A [(a 26, .inr (0, [.ref (a 27), .ref (a 28), .int cu0, .int cu1, .int cu2, .int cu3, .int cu4, .int cu5]))] sz) [(a 26, .inr (0, [.ref (a 27), .ref (a 28), .int u0, .int u1, .int cu2, .int cu3, .int cu4, .int cu5]))]) (va_A [(a 26, .inr (0, [.ref (a 27), .ref (a 28), .int cu0, .int cu1, .int cu2, .int cu3, .int cu4, .int cu5]))] sz)) 0 0 (va_A [(a 26, .inr (0, [.ref (a 27), .ref (a 28), .int cu0, .int cu1, .int cu2, .int cu3, .int cu4, .int cu5]))] sz) := by
  refine Met.ofW (cc := cX0_note) (maxL := 3) (ret := none) (by decide) rfl ?_
  intro p e s m args below meth c s₁ B hml hv
  obtain ⟨rfl, hsz, hP, hK, hD0, hN⟩ := hv
  have hx := B.exec
  have hb := B.bytes
  have hr := B.returns
  have hts := atoms_spec (ws := zz_w yX0_note cX0_note 3 none) B.pre
  have hw : ∀ w ∈ zz_all, w.before _ s = true := fun w h => hts w (List.mem_cons_of_mem _ h)
  have hown : s.vm.findClass RX0 = some m.cls := findClass_of_methodNamed B.named
  have hlocks := B.notSynchronized
  subst hsz
  have hD := hD0.self (sz := s.heap.size)
  generalize hAe : va_A [(a 26, .inr (0, [.ref (a 27), .ref (a 28), .int cu0, .int cu1, .int cu2, .int cu3, .int cu4, .int cu5]))] s.heap.size = A at hD ⊢
  have hA : ∀ q : Nat, s.heap.size ≤ q → A q := fun q h => by rw [← hAe]; exact Or.inr h
  have hS : va_S A s.heap s.heap [] := va_S.rf
  have hP : va_P (dC, dI) vwCl [(a 26, .inr (0, [.ref (a 27), .ref (a 28), .int cu0, .int cu1, .int cu2, .int cu3, .int cu4, .int cu5]))] s.heap := hP
  have hl := lv_entry ([.ref (a 26), .int p0, .int p1]) (n := 3) (Nat.le_of_ble_eq_true rfl)
  rw [lg_entry_eq]
  generalize (lg_sl ([.ref (a 26), .int p0, .int p1]) ++ List.replicate (3 - (lg_sl ([.ref (a 26), .int p0, .int p1])).length) Slot.unset).toArray = ls at hl ⊢
  have hl : lv_has ls 3 [(0, .ref (a 26)), (1, .int p0), (2, .int p1)] := hl
  refine lv_iload_n hx hb dX0_note_0 rfl (lv_at hl 1 rfl) ?_
  refine lv_if_eq (tgt := 14) hx hb dX0_note_1 (by decide) (fun c_1 => ?_) (fun c_1 => ?_)
  · have zc_1 := c_1
    rw [← Int32.toInt_inj] at zc_1
    try rw [show (0 : Int32).toInt = 0 from by decide] at zc_1
    obtain ⟨hP9, hD9⟩ := zz_sub2 (ws' := [(a 26, .inr (0, [.ref (a 27), .ref (a 28), .int cu0, .int cu1, .int cu2, .int cu3, .int cu4, .int cu5]))]) hP hD [0] (by decide) rfl
    have hK9 := hK.sub (tys' := []) [] rfl
    exact W.vret hx hb hr (fun t ht hW => ⟨⟨(cu0, cu1), rfl, (Or.inl ⟨c_1, rfl, rfl⟩), by rw [ht]; exact hP9, va_K.moved hW.alike hK9, hD9⟩, hS.F ht⟩) hS.2.2 dX0_note_14
  · have zc_1 := c_1
    rw [← Int32.toInt_inj] at zc_1
    try rw [show (0 : Int32).toInt = 0 from by decide] at zc_1
    refine lv_aload_n hx hb dX0_note_4 rfl (lv_at hl 0 rfl) ?_
    refine lv_iload_n hx hb dX0_note_5 rfl (lv_at hl 1 rfl) ?_
    refine va_put (D := (dC, dI)) (ci := 0) (v := .int p0) (ty := .int) (C := RX0) (T := TX0) (N := 8) hx hb hw zz_inX0 tyX0 tyX0_ok nmX0 hown hK hP hD hS 0 rfl rfl 2 (by decide) (hw _ tw_394) (fun _ h9 => h9) rfl (by decide +kernel) rfl rfl (Nat.le_of_ble_eq_true rfl) dX0_note_6 (fun H locs hP hD hS => ?_)
    obtain ⟨hP, hD⟩ := zz_ty (D := (dC, dI)) (cl := vwCl) (A := A) (H := H) [(a 26, .inr (0, [.ref (a 27), .ref (a 28), .int p0, .int cu1, .int cu2, .int cu3, .int cu4, .int cu5]))] hP hD rfl
    refine lv_aload_n hx hb dX0_note_9 rfl (lv_at hl 0 rfl) ?_
    refine lv_iload_n hx hb dX0_note_10 rfl (lv_at hl 2 rfl) ?_
    refine va_put (D := (dC, dI)) (ci := 0) (v := .int p1) (ty := .int) (C := RX0) (T := TX0) (N := 8) hx hb hw zz_inX0 tyX0 tyX0_ok nmX0 hown hK hP hD hS 0 rfl rfl 3 (by decide) (hw _ tw_395) (fun _ h9 => h9) rfl (by decide +kernel) rfl rfl (Nat.le_of_ble_eq_true rfl) dX0_note_11 (fun H locs hP hD hS => ?_)
    obtain ⟨hP, hD⟩ := zz_ty (D := (dC, dI)) (cl := vwCl) (A := A) (H := H) [(a 26, .inr (0, [.ref (a 27), .ref (a 28), .int p0, .int p1, .int cu2, .int cu3, .int cu4, .int cu5]))] hP hD rfl
    obtain ⟨hP9, hD9⟩ := zz_sub2 (ws' := [(a 26, .inr (0, [.ref (a 27), .ref (a 28), .int p0, .int p1, .int cu2, .int cu3, .int cu4, .int cu5]))]) hP hD [0] (by decide) rfl
    have hK9 := hK.sub (tys' := []) [] rfl
    exact W.vret hx hb hr (fun t ht hW => ⟨⟨(p0, p1), rfl, (Or.inr ⟨c_1, rfl, rfl⟩), by rw [ht]; exact hP9, va_K.moved hW.alike hK9, hD9⟩, hS.F ht⟩) hS.2.2 dX0_note_14
