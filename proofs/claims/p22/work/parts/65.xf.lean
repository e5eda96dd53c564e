set_option maxHeartbeats 4000000 in
set_option maxRecDepth 100000 in
theorem kx_takeWord (l : Launch) (dC : Nat → ClassId) (dI : Nat → Nat → Nat) (b0 : Nat) (b1 : Nat) (b2 : Nat) (adK : Nat → Nat) (adV : Nat → Nat) (a : Nat → Nat) (cI : ClassId) (nt : Nat) (fb : Nat → Int32) (cu0 : Int32) (cu1 : Int32) (cu2 : Int32) (cu3 : Int32) (cu4 : Int32) (cu5 : Int32) (fdr : Nat → Int32) (ka : Nat) (q : zz_Q) (sz : Nat) (hnt : nt ≤ 200) (hka : ka < 200) (hqr : zz_qr q cu2 cu3 cu4 cu5 fdr) (hq1 : q.1 = 1) (hso : zz_so (zz_cs fb nt ka) = 1) : Met l yX0_takeWord (zz_w yX0_takeWord cX0_takeWord 3 (some .int)) ({ frames := 6, cells := 0, slots := 0, locals := 131 }) (va_Pc [.ref (a 26), .ref (a 24), .int (nI ka)] (zz_BG (dC, dI) sz b0 b1 b2 adK adV [(a 26, .inr (0, [.ref (a 27), .ref (a 28), .int cu0, .int cu1, .int cu2, .int cu3, .int cu4, .int cu5])), (a 24, .inr (6, [.ref (a 25), .int (nI nt)])), (a 25, .inl (cI, 200, .inl fb))] [(cI, .int)] [(a 26, .inr (0, [.ref (a 27), .ref (a 28), .int cu0, .int cu1, .int cu2, .int cu3, .int cu4, .int cu5])), (a 24, .inr (6, [.ref (a 25), .int (nI nt)])), (a 25, .inl (cI, 200, .inl fb))])) (va_Qi (fun (r : Int32) (u : Int32 × Int32 × Int32) => match u with | (d2, d3, d4) => r = nI (zz_tk (zz_cs fb nt) nt ka q).1 ∧ (r = 0 → zz_qr (zz_tk (zz_cs fb nt) nt ka q).2 d2 d3 d4 cu5 fdr)) (fun (u : Int32 × Int32 × Int32) (t : State) => match u with | (u0, u1, u2) => va_P (dC, dI) vwCl [(a 26, .inr (0, [.ref (a 27), .ref (a 28), .int cu0, .int cu1, .int u0, .int u1, .int u2, .int cu5])), (a 24, .inr (6, [.ref (a 25), .int (nI nt)])), (a 25, .inl (cI, 200, .inl fb))] t.heap ∧ va_K (dC, dI) vwCl [(cI, .int)] t ∧ va_D (va_A [(a 26, .inr (0, [.ref (a 27), .ref (a 28), .int cu0, .int cu1, .int cu2, .int cu3, .int cu4, .int cu5])), (a 24, .inr (6, [.ref (a 25), .int (nI nt)])), (a 25, .inl (cI, 200, .inl fb))] sz) [(a 26, .inr (0, [.ref (a 27), .ref (a 28), .int cu0, .int cu1, .int u0, .int u1, .int u2, .int cu5])), (a 24, .inr (6, [.ref (a 25), .int (nI nt)])), (a 25, .inl (cI, 200, .inl fb))]) (va_A [(a 26, .inr (0, [.ref (a 27), .ref (a 28), .int cu0, .int cu1, .int cu2, .int cu3, .int cu4, .int cu5])), (a 24, .inr (6, [.ref (a 25), .int (nI nt)])), (a 25, .inl (cI, 200, .inl fb))] sz)) 0 0 (va_A [(a 26, .inr (0, [.ref (a 27), .ref (a 28), .int cu0, .int cu1, .int cu2, .int cu3, .int cu4, .int cu5])), (a 24, .inr (6, [.ref (a 25), .int (nI nt)])), (a 25, .inl (cI, 200, .inl fb))] sz) := by
  refine Met.ofW (cc := cX0_takeWord) (maxL := 3) (ret := (some .int)) (by decide) rfl ?_
  intro p e s m args below meth c s₁ B hml hv
  obtain ⟨rfl, ⟨hsz, hP, hK, hD0, hN⟩, hU⟩ := hv
  have hx := B.exec
  have hb := B.bytes
  have hr := B.returns
  have hts := atoms_spec (ws := zz_w yX0_takeWord cX0_takeWord 3 (some .int)) B.pre
  have hw : ∀ w ∈ zz_all, w.before _ s = true := fun w h => hts w (List.mem_cons_of_mem _ h)
  have hown : s.vm.findClass RX0 = some m.cls := findClass_of_methodNamed B.named
  have hlocks := B.notSynchronized
  subst hsz
  have hD := hD0.self (sz := s.heap.size)
  generalize hAe : va_A [(a 26, .inr (0, [.ref (a 27), .ref (a 28), .int cu0, .int cu1, .int cu2, .int cu3, .int cu4, .int cu5])), (a 24, .inr (6, [.ref (a 25), .int (nI nt)])), (a 25, .inl (cI, 200, .inl fb))] s.heap.size = A at hD hU ⊢
  have hA : ∀ q : Nat, s.heap.size ≤ q → A q := fun q h => by rw [← hAe]; exact Or.inr h
  have hS : va_S A s.heap s.heap [] := va_S.rf
  have hP : va_P (dC, dI) vwCl [(a 26, .inr (0, [.ref (a 27), .ref (a 28), .int cu0, .int cu1, .int cu2, .int cu3, .int cu4, .int cu5])), (a 24, .inr (6, [.ref (a 25), .int (nI nt)])), (a 25, .inl (cI, 200, .inl fb))] s.heap := hP
  have hl := lv_entry ([.ref (a 26), .ref (a 24), .int (nI ka)]) (n := 3) (Nat.le_of_ble_eq_true rfl)
  rw [lg_entry_eq]
  generalize (lg_sl ([.ref (a 26), .ref (a 24), .int (nI ka)]) ++ List.replicate (3 - (lg_sl ([.ref (a 26), .ref (a 24), .int (nI ka)])).length) Slot.unset).toArray = ls at hl ⊢
  have hl : lv_has ls 3 [(0, .ref (a 26)), (1, .ref (a 24)), (2, .int (nI ka))] := hl
  refine lv_aload_n hx hb dX0_takeWord_0 rfl (lv_at hl 0 rfl) ?_
  refine lv_aload_n hx hb dX0_takeWord_1 rfl (lv_at hl 1 rfl) ?_
  refine lv_iload_n hx hb dX0_takeWord_2 rfl (lv_at hl 2 rfl) ?_
  obtain ⟨hPc, hDc⟩ := zz_sub2 (ws' := [(a 24, .inr (6, [.ref (a 25), .int (nI nt)])), (a 25, .inl (cI, 200, .inl fb))]) hP hD [1, 2] (by decide) rfl
  have hKc := hK.sub (tys' := [(cI, .int)]) [0] rfl
  have hFc := zz_free0 hS hA
  refine va_calli (va_runS (As := [.ref (a 24), .int (nI ka)]) (rest := [.ref (a 26)]) ⟨hx, hb, hml, hown, hw⟩ (kx_wordAt l dC dI b0 b1 b2 adK adV a cI nt fb ka s.heap.size (by omega) (by omega)) ⟨callB_of 2 hw (zz_good tw_375) rfl rfl rfl (hw _ tw_357) (hw _ tw_376) (by decide +kernel) ⟨Nat.le_of_ble_eq_true rfl, Nat.le_of_ble_eq_true rfl⟩, (hw _ tw_377)⟩ ⟨zz_blindG, zz_preG hPc hKc hDc hN hU hS hFc⟩ rfl rfl hl.1 rfl (lv_room (Nat.le_of_ble_eq_true rfl)) dX0_takeWord_3 ⟨Nat.le_of_ble_eq_true rfl, Nat.le_of_ble_eq_true rfl⟩) hS (fun q _ h => hFc q h) hFc (fun r_1 u_1 t H1 locs ht hvm e_1 hB hz1 hk1 hS => ?_)
  try dsimp only at e_1
  have hP := zz_keep hP hk1
  clear hk1 hB ht hvm
  generalize H1 = H at hP hS ⊢
  rcases zz_wd_r (zz_cs fb nt) ka with hwd | ⟨w7, hw7, hwd⟩
  · refine zz_seti (-1) (e_1.trans hwd) ?_
    refine va_put (D := (dC, dI)) (ci := 0) (v := .int (-1)) (ty := .int) (C := RX0) (T := TX0) (N := 8) hx hb hw zz_inX0 tyX0 tyX0_ok nmX0 hown hK hP hD hS 0 rfl rfl 5 (by decide) (hw _ tw_378) (fun _ h9 => h9) rfl (by decide +kernel) rfl rfl (Nat.le_of_ble_eq_true rfl) dX0_takeWord_6 (fun H locs hP hD hS => ?_)
    obtain ⟨hP, hD⟩ := zz_ty (D := (dC, dI)) (cl := vwCl) (A := A) (H := H) [(a 26, .inr (0, [.ref (a 27), .ref (a 28), .int cu0, .int cu1, .int cu2, .int (-1), .int cu4, .int cu5])), (a 24, .inr (6, [.ref (a 25), .int (nI nt)])), (a 25, .inl (cI, 200, .inl fb))] hP hD rfl
    refine lv_aload_n hx hb dX0_takeWord_9 rfl (lv_at hl 0 rfl) ?_
    refine va_get (D := (dC, dI)) (ci := 0) (v := .int (-1)) (C := RX0) (T := TX0) (N := 8) hx hb hw zz_inX0 hown hK hP 0 rfl rfl 5 (by decide) (hw _ tw_378) (fun _ h9 => h9) rfl dX0_takeWord_10 ?_
    refine lv_iconst (v := (-1)) hx hb dX0_takeWord_13 (by decide) ?_
    refine lv_icmp_ne (tgt := 19) hx hb dX0_takeWord_14 (by decide) (fun c_9 => absurd c_9 (by decide)) (fun _ => ?_)
    refine lv_iconst (v := 1) hx hb dX0_takeWord_17 (by decide) ?_
    obtain ⟨hP9, hD9⟩ := zz_sub2 (ws' := [(a 26, .inr (0, [.ref (a 27), .ref (a 28), .int cu0, .int cu1, .int cu2, .int (-1), .int cu4, .int cu5])), (a 24, .inr (6, [.ref (a 25), .int (nI nt)])), (a 25, .inl (cI, 200, .inl fb))]) hP hD [0, 1, 2] (by decide) rfl
    have hK9 := hK.sub (tys' := [(cI, .int)]) [0] rfl
    exact W.iret (v := 1) hx hb hr (fun t ht hW => ⟨⟨1, (cu2, (-1), cu4), rfl, ⟨(by rw [zz_tk_w1 hso hq1 hwd]; rfl), fun h9 => absurd h9 (by decide)⟩, by rw [ht]; exact hP9, va_K.moved hW.alike hK9, hD9⟩, hS.F ht⟩) hS.2.2 dX0_takeWord_18
  · refine zz_seti (nI w7) (e_1.trans hwd) ?_
    refine va_put (D := (dC, dI)) (ci := 0) (v := .int (nI w7)) (ty := .int) (C := RX0) (T := TX0) (N := 8) hx hb hw zz_inX0 tyX0 tyX0_ok nmX0 hown hK hP hD hS 0 rfl rfl 5 (by decide) (hw _ tw_378) (fun _ h9 => h9) rfl (by decide +kernel) rfl rfl (Nat.le_of_ble_eq_true rfl) dX0_takeWord_6 (fun H locs hP hD hS => ?_)
    obtain ⟨hP, hD⟩ := zz_ty (D := (dC, dI)) (cl := vwCl) (A := A) (H := H) [(a 26, .inr (0, [.ref (a 27), .ref (a 28), .int cu0, .int cu1, .int cu2, .int (nI w7), .int cu4, .int cu5])), (a 24, .inr (6, [.ref (a 25), .int (nI nt)])), (a 25, .inl (cI, 200, .inl fb))] hP hD rfl
    refine lv_aload_n hx hb dX0_takeWord_9 rfl (lv_at hl 0 rfl) ?_
    refine va_get (D := (dC, dI)) (ci := 0) (v := .int (nI w7)) (C := RX0) (T := TX0) (N := 8) hx hb hw zz_inX0 hown hK hP 0 rfl rfl 5 (by decide) (hw _ tw_378) (fun _ h9 => h9) rfl dX0_takeWord_10 ?_
    refine lv_iconst (v := (-1)) hx hb dX0_takeWord_13 (by decide) ?_
    refine lv_icmp_ne (tgt := 19) hx hb dX0_takeWord_14 (by decide) (fun _ => ?_) (fun c_3 => absurd c_3 (by rw [← Int32.toInt_inj, zz_toInt w7 (by omega), show ((-1) : Int32).toInt = -1 from by decide]; omega))
    refine lv_aload_n hx hb dX0_takeWord_19 rfl (lv_at hl 0 rfl) ?_
    refine va_get (D := (dC, dI)) (ci := 0) (v := .int cu4) (C := RX0) (T := TX0) (N := 8) hx hb hw zz_inX0 hown hK hP 0 rfl rfl 6 (by decide) (hw _ tw_379) (fun _ h9 => h9) rfl dX0_takeWord_20 ?_
    refine lv_iconst (v := 1) hx hb dX0_takeWord_23 (by decide) ?_
    refine lv_aload_n hx hb dX0_takeWord_24 rfl (lv_at hl 0 rfl) ?_
    refine va_get (D := (dC, dI)) (ci := 0) (v := .int (nI w7)) (C := RX0) (T := TX0) (N := 8) hx hb hw zz_inX0 hown hK hP 0 rfl rfl 5 (by decide) (hw _ tw_378) (fun _ h9 => h9) rfl dX0_takeWord_25 ?_
    refine lv_ishl hx hb dX0_takeWord_28 ?_
    refine lv_iand hx hb dX0_takeWord_29 ?_
    refine lv_if_eq (tgt := 35) hx hb dX0_takeWord_30 (by decide) (fun c_4 => ?_) (fun c_4 => ?_)
    · have zc_4 := c_4
      rw [← Int32.toInt_inj] at zc_4
      try rw [show (0 : Int32).toInt = 0 from by decide] at zc_4
      refine lv_aload_n hx hb dX0_takeWord_35 rfl (lv_at hl 0 rfl) ?_
      refine lv_dup hx hb dX0_takeWord_36 rfl ?_
      refine va_get (D := (dC, dI)) (ci := 0) (v := .int cu4) (C := RX0) (T := TX0) (N := 8) hx hb hw zz_inX0 hown hK hP 0 rfl rfl 6 (by decide) (hw _ tw_379) (fun _ h9 => h9) rfl dX0_takeWord_37 ?_
      refine lv_iconst (v := 1) hx hb dX0_takeWord_40 (by decide) ?_
      refine lv_aload_n hx hb dX0_takeWord_41 rfl (lv_at hl 0 rfl) ?_
      refine va_get (D := (dC, dI)) (ci := 0) (v := .int (nI w7)) (C := RX0) (T := TX0) (N := 8) hx hb hw zz_inX0 hown hK hP 0 rfl rfl 5 (by decide) (hw _ tw_378) (fun _ h9 => h9) rfl dX0_takeWord_42 ?_
      refine lv_ishl hx hb dX0_takeWord_45 ?_
      refine lv_ior hx hb dX0_takeWord_46 ?_
      refine va_put (D := (dC, dI)) (ci := 0) (v := .int (cu4 ||| (1 <<< ((nI w7) &&& 31)))) (ty := .int) (C := RX0) (T := TX0) (N := 8) hx hb hw zz_inX0 tyX0 tyX0_ok nmX0 hown hK hP hD hS 0 rfl rfl 6 (by decide) (hw _ tw_379) (fun _ h9 => h9) rfl (by decide +kernel) rfl rfl (Nat.le_of_ble_eq_true rfl) dX0_takeWord_47 (fun H locs hP hD hS => ?_)
      obtain ⟨hP, hD⟩ := zz_ty (D := (dC, dI)) (cl := vwCl) (A := A) (H := H) [(a 26, .inr (0, [.ref (a 27), .ref (a 28), .int cu0, .int cu1, .int cu2, .int (nI w7), .int (cu4 ||| (1 <<< ((nI w7) &&& 31))), .int cu5])), (a 24, .inr (6, [.ref (a 25), .int (nI nt)])), (a 25, .inl (cI, 200, .inl fb))] hP hD rfl
      refine lv_aload_n hx hb dX0_takeWord_50 rfl (lv_at hl 0 rfl) ?_
      refine lv_iconst (v := 2) hx hb dX0_takeWord_51 (by decide) ?_
      refine va_put (D := (dC, dI)) (ci := 0) (v := .int 2) (ty := .int) (C := RX0) (T := TX0) (N := 8) hx hb hw zz_inX0 tyX0 tyX0_ok nmX0 hown hK hP hD hS 0 rfl rfl 4 (by decide) (hw _ tw_380) (fun _ h9 => h9) rfl (by decide +kernel) rfl rfl (Nat.le_of_ble_eq_true rfl) dX0_takeWord_52 (fun H locs hP hD hS => ?_)
      obtain ⟨hP, hD⟩ := zz_ty (D := (dC, dI)) (cl := vwCl) (A := A) (H := H) [(a 26, .inr (0, [.ref (a 27), .ref (a 28), .int cu0, .int cu1, .int 2, .int (nI w7), .int (cu4 ||| (1 <<< ((nI w7) &&& 31))), .int cu5])), (a 24, .inr (6, [.ref (a 25), .int (nI nt)])), (a 25, .inl (cI, 200, .inl fb))] hP hD rfl
      refine lv_iconst (v := 0) hx hb dX0_takeWord_55 (by decide) ?_
      obtain ⟨hP9, hD9⟩ := zz_sub2 (ws' := [(a 26, .inr (0, [.ref (a 27), .ref (a 28), .int cu0, .int cu1, .int 2, .int (nI w7), .int (cu4 ||| (1 <<< ((nI w7) &&& 31))), .int cu5])), (a 24, .inr (6, [.ref (a 25), .int (nI nt)])), (a 25, .inl (cI, 200, .inl fb))]) hP hD [0, 1, 2] (by decide) rfl
      have hK9 := hK.sub (tys' := [(cI, .int)]) [0] rfl
      exact W.iret (v := 0) hx hb hr (fun t ht hW => ⟨⟨0, (2, (nI w7), (cu4 ||| (1 <<< ((nI w7) &&& 31)))), rfl, ⟨(by rw [zz_tk_w0 hso hq1 hw7 hwd ((hqr.2.2.2.1 w7 hw7).mp c_4)]; rfl), fun _ => (by rw [zz_tk_w0 hso hq1 hw7 hwd ((hqr.2.2.2.1 w7 hw7).mp c_4)]; exact zz_qr_w hqr hw7)⟩, by rw [ht]; exact hP9, va_K.moved hW.alike hK9, hD9⟩, hS.F ht⟩) hS.2.2 dX0_takeWord_56
    · have zc_4 := c_4
      rw [← Int32.toInt_inj] at zc_4
      try rw [show (0 : Int32).toInt = 0 from by decide] at zc_4
      refine lv_iconst (v := 2) hx hb dX0_takeWord_33 (by decide) ?_
      obtain ⟨hP9, hD9⟩ := zz_sub2 (ws' := [(a 26, .inr (0, [.ref (a 27), .ref (a 28), .int cu0, .int cu1, .int cu2, .int (nI w7), .int cu4, .int cu5])), (a 24, .inr (6, [.ref (a 25), .int (nI nt)])), (a 25, .inl (cI, 200, .inl fb))]) hP hD [0, 1, 2] (by decide) rfl
      have hK9 := hK.sub (tys' := [(cI, .int)]) [0] rfl
      exact W.iret (v := 2) hx hb hr (fun t ht hW => ⟨⟨2, (cu2, (nI w7), cu4), rfl, ⟨(by rw [zz_tk_w2 hso hq1 hw7 hwd (Classical.byContradiction (fun h9 => c_4 ((hqr.2.2.2.1 w7 hw7).mpr h9)))]; rfl), fun h9 => absurd h9 (by decide)⟩, by rw [ht]; exact hP9, va_K.moved hW.alike hK9, hD9⟩, hS.F ht⟩) hS.2.2 dX0_takeWord_34
set_option maxHeartbeats 4000000 in
set_option maxRecDepth 100000 in
theorem kx_takeNumber (l : Launch) (dC : Nat → ClassId) (dI : Nat → Nat → Nat) (b0 : Nat) (b1 : Nat) (b2 : Nat) (adK : Nat → Nat) (adV : Nat → Nat) (a : Nat → Nat) (cI : ClassId) (nt : Nat) (fb : Nat → Int32) (cu0 : Int32) (cu1 : Int32) (cu2 : Int32) (cu3 : Int32) (cu4 : Int32) (cu5 : Int32) (fdr : Nat → Int32) (ka : Nat) (q : zz_Q) (sz : Nat) (hnt : nt ≤ 200) (hkn : ka < nt) (hqr : zz_qr q cu2 cu3 cu4 cu5 fdr) (hq2 : q.1 = 2) (hso : zz_so (zz_cs fb nt ka) = 2) : Met l yX0_takeNumber (zz_w yX0_takeNumber cX0_takeNumber 4 (some .int)) ({ frames := 2, cells := 0, slots := 0, locals := 44 }) (va_Pc [.ref (a 26), .ref (a 24), .int (nI ka)] (zz_BG (dC, dI) sz b0 b1 b2 adK adV [(a 26, .inr (0, [.ref (a 27), .ref (a 28), .int cu0, .int cu1, .int cu2, .int cu3, .int cu4, .int cu5])), (a 28, .inl (cI, 7, .inl fdr)), (a 24, .inr (6, [.ref (a 25), .int (nI nt)])), (a 25, .inl (cI, 200, .inl fb))] [(cI, .int)] [(a 26, .inr (0, [.ref (a 27), .ref (a 28), .int cu0, .int cu1, .int cu2, .int cu3, .int cu4, .int cu5])), (a 28, .inl (cI, 7, .inl fdr)), (a 24, .inr (6, [.ref (a 25), .int (nI nt)])), (a 25, .inl (cI, 200, .inl fb))])) (va_Qi (fun (r : Int32) (u : Int32 × (Nat → Int32)) => match u with | (d2, f2) => r = nI (zz_tk (zz_cs fb nt) nt ka q).1 ∧ (r = 0 → zz_qr (zz_tk (zz_cs fb nt) nt ka q).2 d2 cu3 cu4 cu5 f2)) (fun (u : Int32 × (Nat → Int32)) (t : State) => match u with | (u0, u1) => va_P (dC, dI) vwCl [(a 26, .inr (0, [.ref (a 27), .ref (a 28), .int cu0, .int cu1, .int u0, .int cu3, .int cu4, .int cu5])), (a 28, .inl (cI, 7, .inl u1)), (a 24, .inr (6, [.ref (a 25), .int (nI nt)])), (a 25, .inl (cI, 200, .inl fb))] t.heap ∧ va_K (dC, dI) vwCl [(cI, .int)] t ∧ va_D (va_A [(a 26, .inr (0, [.ref (a 27), .ref (a 28), .int cu0, .int cu1, .int cu2, .int cu3, .int cu4, .int cu5])), (a 28, .inl (cI, 7, .inl fdr)), (a 24, .inr (6, [.ref (a 25), .int (nI nt)])), (a 25, .inl (cI, 200, .inl fb))] sz) [(a 26, .inr (0, [.ref (a 27), .ref (a 28), .int cu0, .int cu1, .int u0, .int cu3, .int cu4, .int cu5])), (a 28, .inl (cI, 7, .inl u1)), (a 24, .inr (6, [.ref (a 25), .int (nI nt)])), (a 25, .inl (cI, 200, .inl fb))]) (va_A [(a 26, .inr (0, [.ref (a 27), .ref (a 28), .int cu0, .int cu1, .int cu2, .int cu3, .int cu4, .int cu5])), (a 28, .inl (cI, 7, .inl fdr)), (a 24, .inr (6, [.ref (a 25), .int (nI nt)])), (a 25, .inl (cI, 200, .inl fb))] sz)) 0 0 (va_A [(a 26, .inr (0, [.ref (a 27), .ref (a 28), .int cu0, .int cu1, .int cu2, .int cu3, .int cu4, .int cu5])), (a 28, .inl (cI, 7, .inl fdr)), (a 24, .inr (6, [.ref (a 25), .int (nI nt)])), (a 25, .inl (cI, 200, .inl fb))] sz) := by
  refine Met.ofW (cc := cX0_takeNumber) (maxL := 4) (ret := (some .int)) (by decide) rfl ?_
  intro p e s m args below meth c s₁ B hml hv
  obtain ⟨rfl, ⟨hsz, hP, hK, hD0, hN⟩, hU⟩ := hv
  have hx := B.exec
  have hb := B.bytes
  have hr := B.returns
  have hts := atoms_spec (ws := zz_w yX0_takeNumber cX0_takeNumber 4 (some .int)) B.pre
  have hw : ∀ w ∈ zz_all, w.before _ s = true := fun w h => hts w (List.mem_cons_of_mem _ h)
  have hown : s.vm.findClass RX0 = some m.cls := findClass_of_methodNamed B.named
  have hlocks := B.notSynchronized
  subst hsz
  have hD := hD0.self (sz := s.heap.size)
  generalize hAe : va_A [(a 26, .inr (0, [.ref (a 27), .ref (a 28), .int cu0, .int cu1, .int cu2, .int cu3, .int cu4, .int cu5])), (a 28, .inl (cI, 7, .inl fdr)), (a 24, .inr (6, [.ref (a 25), .int (nI nt)])), (a 25, .inl (cI, 200, .inl fb))] s.heap.size = A at hD hU ⊢
  have hA : ∀ q : Nat, s.heap.size ≤ q → A q := fun q h => by rw [← hAe]; exact Or.inr h
  have hS : va_S A s.heap s.heap [] := va_S.rf
  have hP : va_P (dC, dI) vwCl [(a 26, .inr (0, [.ref (a 27), .ref (a 28), .int cu0, .int cu1, .int cu2, .int cu3, .int cu4, .int cu5])), (a 28, .inl (cI, 7, .inl fdr)), (a 24, .inr (6, [.ref (a 25), .int (nI nt)])), (a 25, .inl (cI, 200, .inl fb))] s.heap := hP
  have hl := lv_entry ([.ref (a 26), .ref (a 24), .int (nI ka)]) (n := 4) (Nat.le_of_ble_eq_true rfl)
  rw [lg_entry_eq]
  generalize (lg_sl ([.ref (a 26), .ref (a 24), .int (nI ka)]) ++ List.replicate (4 - (lg_sl ([.ref (a 26), .ref (a 24), .int (nI ka)])).length) Slot.unset).toArray = ls at hl ⊢
  have hl : lv_has ls 4 [(0, .ref (a 26)), (1, .ref (a 24)), (2, .int (nI ka))] := hl
  have hw7 := (hqr.2.2.1 hq2).2
  have hwq := (hqr.2.2.1 hq2).1
  subst hwq
  have hnv := zz_nv_b (cs := (zz_cs fb nt)) (k := ka) (zz_rl (zz_cs fb nt) 2 (nt - ka) ka)
  obtain ⟨hP, hD⟩ := zz_ty (D := (dC, dI)) (cl := vwCl) (A := A) (H := s.heap) [(a 26, .inr (0, [.ref (a 27), .ref (a 28), .int cu0, .int cu1, .int cu2, .int (nI q.2.1), .int cu4, .int cu5])), (a 28, .inl (cI, 7, .inl fdr)), (a 24, .inr (6, [.ref (a 25), .int (nI nt)])), (a 25, .inl (cI, 200, .inl fb))] hP hD rfl
  refine lv_aload_n hx hb dX0_takeNumber_0 rfl (lv_at hl 1 rfl) ?_
  refine lv_iload_n hx hb dX0_takeNumber_1 rfl (lv_at hl 2 rfl) ?_
  obtain ⟨hPc, hDc⟩ := zz_sub2 (ws' := [(a 24, .inr (6, [.ref (a 25), .int (nI nt)])), (a 25, .inl (cI, 200, .inl fb))]) hP hD [2, 3] (by decide) rfl
  have hKc := hK.sub (tys' := [(cI, .int)]) [0] rfl
  have hFc := zz_free0 hS hA
  refine va_calli (va_runS (As := [.ref (a 24), .int (nI ka)]) (rest := []) ⟨hx, hb, hml, hown, hw⟩ (kx_numberAt l dC dI a cI nt fb ka s.heap.size (by omega) (by omega)) ⟨callB_of 2 hw (zz_good tw_381) rfl rfl rfl (hw _ tw_357) (hw _ tw_382) (by decide +kernel) ⟨Nat.le_of_ble_eq_true rfl, Nat.le_of_ble_eq_true rfl⟩, (hw _ tw_383)⟩ ⟨zz_blind, zz_pre hPc hKc hDc hN⟩ rfl rfl hl.1 rfl (lv_room (Nat.le_of_ble_eq_true rfl)) dX0_takeNumber_2 ⟨Nat.le_of_ble_eq_true rfl, Nat.le_of_ble_eq_true rfl⟩) hS (fun q _ h => hFc q h) hFc (fun r_1 u_1 t H1 locs ht hvm e_1 hB hz1 hk1 hS => ?_)
  try dsimp only at e_1
  have hP := zz_keep hP hk1
  clear hk1 hB ht hvm
  generalize H1 = H at hP hS ⊢
  refine zz_seti (nI (zz_nv (zz_cs fb nt) ka (zz_rl (zz_cs fb nt) 2 (nt - ka) ka))) e_1 ?_
  refine lv_istore_n (lv' := [(3, .int (nI (zz_nv (zz_cs fb nt) ka (zz_rl (zz_cs fb nt) 2 (nt - ka) ka)))), (0, .ref (a 26)), (1, .ref (a 24)), (2, .int (nI ka))]) hx hb dX0_takeNumber_5 rfl hl (by decide) rfl (fun ls hl => ?_)
  refine lv_aload_n hx hb dX0_takeNumber_6 rfl (lv_at hl 1 rfl) ?_
  refine va_get (D := (dC, dI)) (ci := 0) (v := .int (nI q.2.1)) (C := RX0) (T := TX0) (N := 8) hx hb hw zz_inX0 hown hK hP 0 rfl rfl 5 (by decide) (hw _ tw_378) (fun _ h9 => h9) rfl dX0_takeNumber_7 ?_
  refine lv_iconst (v := 0) hx hb dX0_takeNumber_10 (by decide) ?_
  refine lv_bipush (v := 6) hx hb dX0_takeNumber_11 (by decide) ?_
  obtain ⟨hPc, hDc⟩ := zz_sub2 (ws' := []) hP hD [] (by decide) rfl
  have hKc := hK.sub (tys' := []) [] rfl
  have hFc := zz_free0 hS hA
  refine va_calli (va_runSN (As := [.int (nI q.2.1), .int 0, .int 6]) (rest := []) ⟨hx, hb, hml, hown, hw⟩ (k_within l dC dI (nI q.2.1) 0 6 H.size) ⟨va_cnB 3 hw (zz_good tw_1) rfl rfl rfl (hN.1 _ zz_n49) (hw _ tw_2) (by decide +kernel) ⟨Nat.le_of_ble_eq_true rfl, Nat.le_of_ble_eq_true rfl⟩, (hw _ tw_4), trivial⟩ ⟨zz_blind, zz_pre hPc hKc hDc hN⟩ rfl rfl hl.1 rfl (lv_room (Nat.le_of_ble_eq_true rfl)) dX0_takeNumber_13 ⟨Nat.le_of_ble_eq_true rfl, Nat.le_of_ble_eq_true rfl⟩) hS (fun q _ h => hFc q h) hFc (fun r_2 u_2 t H1 locs ht hvm e_2 hB hz1 hk1 hS => ?_)
  try dsimp only at e_2
  have hP := zz_keep hP hk1
  clear hk1 hB ht hvm
  generalize H1 = H at hP hS ⊢
  refine lv_if_eq (tgt := 42) hx hb dX0_takeNumber_16 (by decide) (fun c_3 => ?_) (fun c_3 => ?_)
  · have zc_3 := c_3
    rw [e_2, zz_in0, Int32.le_iff_toInt_le, Int32.le_iff_toInt_le] at zc_3
    try rw [zz_toInt q.2.1 (by omega)] at zc_3
    try rw [show (0 : Int32).toInt = 0 from by decide] at zc_3
    try rw [show (6 : Int32).toInt = 6 from by decide] at zc_3
    refine lv_iconst (v := 3) hx hb dX0_takeNumber_42 (by decide) ?_
    obtain ⟨hP9, hD9⟩ := zz_sub2 (ws' := [(a 26, .inr (0, [.ref (a 27), .ref (a 28), .int cu0, .int cu1, .int cu2, .int (nI q.2.1), .int cu4, .int cu5])), (a 28, .inl (cI, 7, .inl fdr)), (a 24, .inr (6, [.ref (a 25), .int (nI nt)])), (a 25, .inl (cI, 200, .inl fb))]) hP hD [0, 1, 2, 3] (by decide) rfl
    have hK9 := hK.sub (tys' := [(cI, .int)]) [0] rfl
    exact W.iret (v := 3) hx hb hr (fun t ht hW => ⟨⟨3, (cu2, fdr), rfl, (by first | exact ⟨(by rw [zz_tk_n3 hso hq2 (by omega)]; rfl), fun h9 => absurd h9 (by decide)⟩ | (exfalso; omega)), by rw [ht]; exact hP9, va_K.moved hW.alike hK9, hD9⟩, hS.F ht⟩) hS.2.2 dX0_takeNumber_43
  · have zc_3 := c_3
    rw [e_2, zz_in0, Int32.le_iff_toInt_le, Int32.le_iff_toInt_le] at zc_3
    try rw [zz_toInt q.2.1 (by omega)] at zc_3
    try rw [show (0 : Int32).toInt = 0 from by decide] at zc_3
    try rw [show (6 : Int32).toInt = 6 from by decide] at zc_3
    refine lv_iload_n hx hb dX0_takeNumber_19 rfl (lv_at hl 0 rfl) ?_
    refine va_getsN hx hb hU.2.1 hS hown (hN.use zz_n50) (fun _ h9 => h9) dX0_takeNumber_20 ?_
    refine lv_aload_n hx hb dX0_takeNumber_23 rfl (lv_at hl 1 rfl) ?_
    refine va_get (D := (dC, dI)) (ci := 0) (v := .int (nI q.2.1)) (C := RX0) (T := TX0) (N := 8) hx hb hw zz_inX0 hown hK hP 0 rfl rfl 5 (by decide) (hw _ tw_378) (fun _ h9 => h9) rfl dX0_takeNumber_24 ?_
    refine va_ti (v := .int (zz_lo7 (Int32.toNatClampNeg (nI q.2.1)))) hx hb hU.2.2.1 hS (vp_in_iff.mpr (by rw [zz_toInt q.2.1 (by omega)]; constructor <;> omega)) rfl dX0_takeNumber_27 ?_
    refine zz_seti (zz_lo7 q.2.1) (by rw [zz_cl (by omega)]) ?_
    refine va_getsN hx hb hU.2.2.2.1 hS hown (hN.use zz_n51) (fun _ h9 => h9) dX0_takeNumber_28 ?_
    refine lv_aload_n hx hb dX0_takeNumber_31 rfl (lv_at hl 1 rfl) ?_
    refine va_get (D := (dC, dI)) (ci := 0) (v := .int (nI q.2.1)) (C := RX0) (T := TX0) (N := 8) hx hb hw zz_inX0 hown hK hP 0 rfl rfl 5 (by decide) (hw _ tw_378) (fun _ h9 => h9) rfl dX0_takeNumber_32 ?_
    refine va_ti (v := .int (zz_hi7 (Int32.toNatClampNeg (nI q.2.1)))) hx hb hU.2.2.2.2.1 hS (vp_in_iff.mpr (by rw [zz_toInt q.2.1 (by omega)]; constructor <;> omega)) rfl dX0_takeNumber_35 ?_
    refine zz_seti (zz_hi7 q.2.1) (by rw [zz_cl (by omega)]) ?_
    obtain ⟨hPc, hDc⟩ := zz_sub2 (ws' := []) hP hD [] (by decide) rfl
    have hKc := hK.sub (tys' := []) [] rfl
    have hFc := zz_free0 hS hA
    refine va_calli (va_runSN (As := [.int (nI (zz_nv (zz_cs fb nt) ka (zz_rl (zz_cs fb nt) 2 (nt - ka) ka))), .int (zz_lo7 q.2.1), .int (zz_hi7 q.2.1)]) (rest := []) ⟨hx, hb, hml, hown, hw⟩ (k_within l dC dI (nI (zz_nv (zz_cs fb nt) ka (zz_rl (zz_cs fb nt) 2 (nt - ka) ka))) (zz_lo7 q.2.1) (zz_hi7 q.2.1) H.size) ⟨va_cnB 3 hw (zz_good tw_1) rfl rfl rfl (hN.1 _ zz_n49) (hw _ tw_2) (by decide +kernel) ⟨Nat.le_of_ble_eq_true rfl, Nat.le_of_ble_eq_true rfl⟩, (hw _ tw_4), trivial⟩ ⟨zz_blind, zz_pre hPc hKc hDc hN⟩ rfl rfl hl.1 rfl (lv_room (Nat.le_of_ble_eq_true rfl)) dX0_takeNumber_36 ⟨Nat.le_of_ble_eq_true rfl, Nat.le_of_ble_eq_true rfl⟩) hS (fun q _ h => hFc q h) hFc (fun r_4 u_4 t H1 locs ht hvm e_4 hB hz1 hk1 hS => ?_)
    try dsimp only at e_4
    have hP := zz_keep hP hk1
    clear hk1 hB ht hvm
    generalize H1 = H at hP hS ⊢
    refine lv_if_ne (tgt := 44) hx hb dX0_takeNumber_39 (by decide) (fun c_5 => ?_) (fun c_5 => ?_)
    · have zc_5 := c_5
      rw [e_4, zz_in0, Int32.le_iff_toInt_le, Int32.le_iff_toInt_le] at zc_5
      try rw [zz_toInt (zz_nv (zz_cs fb nt) ka (zz_rl (zz_cs fb nt) 2 (nt - ka) ka)) (by omega)] at zc_5
      refine lv_aload_n hx hb dX0_takeNumber_44 rfl (lv_at hl 1 rfl) ?_
      refine va_get (D := (dC, dI)) (ci := 0) (v := .ref (a 28)) (C := RX0) (T := TX0) (N := 8) hx hb hw zz_inX0 hown hK hP 0 rfl rfl 1 (by decide) (hw _ tw_384) (fun _ h9 => h9) rfl dX0_takeNumber_45 ?_
      refine lv_aload_n hx hb dX0_takeNumber_48 rfl (lv_at hl 1 rfl) ?_
      refine va_get (D := (dC, dI)) (ci := 0) (v := .int (nI q.2.1)) (C := RX0) (T := TX0) (N := 8) hx hb hw zz_inX0 hown hK hP 0 rfl rfl 5 (by decide) (hw _ tw_378) (fun _ h9 => h9) rfl dX0_takeNumber_49 ?_
      refine lv_iload_n hx hb dX0_takeNumber_52 rfl (lv_at hl 0 rfl) ?_
      refine va_iast hx hb hK hP hD hS 1 0 rfl rfl (vp_in_iff.mpr (by rw [zz_toInt q.2.1 (by omega)]; constructor <;> omega)) dX0_takeNumber_53 (fun H locs hP hD hS => ?_)
      obtain ⟨hP, hD⟩ := zz_ty (D := (dC, dI)) (cl := vwCl) (A := A) (H := H) [(a 26, .inr (0, [.ref (a 27), .ref (a 28), .int cu0, .int cu1, .int cu2, .int (nI q.2.1), .int cu4, .int cu5])), (a 28, .inl (cI, 7, .inl (upd fdr (Int32.toNatClampNeg (nI q.2.1)) (nI (zz_nv (zz_cs fb nt) ka (zz_rl (zz_cs fb nt) 2 (nt - ka) ka)))))), (a 24, .inr (6, [.ref (a 25), .int (nI nt)])), (a 25, .inl (cI, 200, .inl fb))] hP hD rfl
      refine lv_aload_n hx hb dX0_takeNumber_54 rfl (lv_at hl 1 rfl) ?_
      refine lv_iconst (v := 3) hx hb dX0_takeNumber_55 (by decide) ?_
      refine va_put (D := (dC, dI)) (ci := 0) (v := .int 3) (ty := .int) (C := RX0) (T := TX0) (N := 8) hx hb hw zz_inX0 tyX0 tyX0_ok nmX0 hown hK hP hD hS 0 rfl rfl 4 (by decide) (hw _ tw_380) (fun _ h9 => h9) rfl (by decide +kernel) rfl rfl (Nat.le_of_ble_eq_true rfl) dX0_takeNumber_56 (fun H locs hP hD hS => ?_)
      obtain ⟨hP, hD⟩ := zz_ty (D := (dC, dI)) (cl := vwCl) (A := A) (H := H) [(a 26, .inr (0, [.ref (a 27), .ref (a 28), .int cu0, .int cu1, .int 3, .int (nI q.2.1), .int cu4, .int cu5])), (a 28, .inl (cI, 7, .inl (upd fdr (Int32.toNatClampNeg (nI q.2.1)) (nI (zz_nv (zz_cs fb nt) ka (zz_rl (zz_cs fb nt) 2 (nt - ka) ka)))))), (a 24, .inr (6, [.ref (a 25), .int (nI nt)])), (a 25, .inl (cI, 200, .inl fb))] hP hD rfl
      refine lv_iconst (v := 0) hx hb dX0_takeNumber_59 (by decide) ?_
      obtain ⟨hP9, hD9⟩ := zz_sub2 (ws' := [(a 26, .inr (0, [.ref (a 27), .ref (a 28), .int cu0, .int cu1, .int 3, .int (nI q.2.1), .int cu4, .int cu5])), (a 28, .inl (cI, 7, .inl (upd fdr (Int32.toNatClampNeg (nI q.2.1)) (nI (zz_nv (zz_cs fb nt) ka (zz_rl (zz_cs fb nt) 2 (nt - ka) ka)))))), (a 24, .inr (6, [.ref (a 25), .int (nI nt)])), (a 25, .inl (cI, 200, .inl fb))]) hP hD [0, 1, 2, 3] (by decide) rfl
      have hK9 := hK.sub (tys' := [(cI, .int)]) [0] rfl
      exact W.iret (v := 0) hx hb hr (fun t ht hW => ⟨⟨0, (3, (upd fdr (Int32.toNatClampNeg (nI q.2.1)) (nI (zz_nv (zz_cs fb nt) ka (zz_rl (zz_cs fb nt) 2 (nt - ka) ka))))), rfl, ⟨(by rw [zz_tk_n0 hso hq2 (by omega)]; rfl), fun _ => (by rw [zz_tk_n0 hso hq2 (by omega)]; exact zz_qr_n hqr hq2)⟩, by rw [ht]; exact hP9, va_K.moved hW.alike hK9, hD9⟩, hS.F ht⟩) hS.2.2 dX0_takeNumber_60
    · have zc_5 := c_5
      rw [e_4, zz_in0, Int32.le_iff_toInt_le, Int32.le_iff_toInt_le] at zc_5
      try rw [zz_toInt (zz_nv (zz_cs fb nt) ka (zz_rl (zz_cs fb nt) 2 (nt - ka) ka)) (by omega)] at zc_5
      refine lv_iconst (v := 3) hx hb dX0_takeNumber_42 (by decide) ?_
      obtain ⟨hP9, hD9⟩ := zz_sub2 (ws' := [(a 26, .inr (0, [.ref (a 27), .ref (a 28), .int cu0, .int cu1, .int cu2, .int (nI q.2.1), .int cu4, .int cu5])), (a 28, .inl (cI, 7, .inl fdr)), (a 24, .inr (6, [.ref (a 25), .int (nI nt)])), (a 25, .inl (cI, 200, .inl fb))]) hP hD [0, 1, 2, 3] (by decide) rfl
      have hK9 := hK.sub (tys' := [(cI, .int)]) [0] rfl
      exact W.iret (v := 3) hx hb hr (fun t ht hW => ⟨⟨3, (cu2, fdr), rfl, (by first | exact ⟨(by rw [zz_tk_n3 hso hq2 (by omega)]; rfl), fun h9 => absurd h9 (by decide)⟩ | (exfalso; omega)), by rw [ht]; exact hP9, va_K.moved hW.alike hK9, hD9⟩, hS.F ht⟩) hS.2.2 dX0_takeNumber_43
