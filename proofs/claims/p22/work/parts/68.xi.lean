set_option maxHeartbeats 4000000 in
set_option maxRecDepth 100000 in
theorem kx_read (l : Launch) (dC : Nat → ClassId) (dI : Nat → Nat → Nat) (b0 : Nat) (b1 : Nat) (b2 : Nat) (adK : Nat → Nat) (adV : Nat → Nat) (a : Nat → Nat) (cI : ClassId) (nt : Nat) (fb : Nat → Int32) (cu0 : Int32) (cu1 : Int32) (cu2 : Int32) (cu3 : Int32) (cu4 : Int32) (cu5 : Int32) (fdr : Nat → Int32) (ft : Nat → Int32) (sz : Nat) (hnt : nt ≤ 200) : Met l yX0_read (zz_w yX0_read cX0_read 3 (some .int)) ({ frames := 8, cells := 0, slots := 0, locals := 175 }) (va_Pc [.ref (a 26), .ref (a 24)] (zz_BG (dC, dI) sz b0 b1 b2 adK adV [(a 26, .inr (0, [.ref (a 27), .ref (a 28), .int cu0, .int cu1, .int cu2, .int cu3, .int cu4, .int cu5])), (a 28, .inl (cI, 7, .inl fdr)), (a 27, .inl (cI, 7, .inl ft)), (a 24, .inr (6, [.ref (a 25), .int (nI nt)])), (a 25, .inl (cI, 200, .inl fb))] [(cI, .int)] [(a 26, .inr (0, [.ref (a 27), .ref (a 28), .int cu0, .int cu1, .int cu2, .int cu3, .int cu4, .int cu5])), (a 28, .inl (cI, 7, .inl fdr)), (a 27, .inl (cI, 7, .inl ft)), (a 24, .inr (6, [.ref (a 25), .int (nI nt)])), (a 25, .inl (cI, 200, .inl fb))])) (va_Qi (fun (r : Int32) (u : Int32 × Int32 × Int32 × Int32 × Int32 × Int32 × (Nat → Int32) × (Nat → Int32)) => match u with | (d0, d1, _, _, _, _, _, f2) => zz_rp (zz_R (zz_cs fb nt) nt 0 ((1, 0, (fun _ => false), 0, zz_un) : zz_Q)) r d0 d1 ft f2) (fun (u : Int32 × Int32 × Int32 × Int32 × Int32 × Int32 × (Nat → Int32) × (Nat → Int32)) (t : State) => match u with | (u0, u1, u2, u3, u4, u5, u6, u7) => va_P (dC, dI) vwCl [(a 26, .inr (0, [.ref (a 27), .ref (a 28), .int u0, .int u1, .int u2, .int u3, .int u4, .int u5])), (a 28, .inl (cI, 7, .inl u6)), (a 27, .inl (cI, 7, .inl u7)), (a 24, .inr (6, [.ref (a 25), .int (nI nt)])), (a 25, .inl (cI, 200, .inl fb))] t.heap ∧ va_K (dC, dI) vwCl [(cI, .int)] t ∧ va_D (va_A [(a 26, .inr (0, [.ref (a 27), .ref (a 28), .int cu0, .int cu1, .int cu2, .int cu3, .int cu4, .int cu5])), (a 28, .inl (cI, 7, .inl fdr)), (a 27, .inl (cI, 7, .inl ft)), (a 24, .inr (6, [.ref (a 25), .int (nI nt)])), (a 25, .inl (cI, 200, .inl fb))] sz) [(a 26, .inr (0, [.ref (a 27), .ref (a 28), .int u0, .int u1, .int u2, .int u3, .int u4, .int u5])), (a 28, .inl (cI, 7, .inl u6)), (a 27, .inl (cI, 7, .inl u7)), (a 24, .inr (6, [.ref (a 25), .int (nI nt)])), (a 25, .inl (cI, 200, .inl fb))]) (va_A [(a 26, .inr (0, [.ref (a 27), .ref (a 28), .int cu0, .int cu1, .int cu2, .int cu3, .int cu4, .int cu5])), (a 28, .inl (cI, 7, .inl fdr)), (a 27, .inl (cI, 7, .inl ft)), (a 24, .inr (6, [.ref (a 25), .int (nI nt)])), (a 25, .inl (cI, 200, .inl fb))] sz)) 0 0 (va_A [(a 26, .inr (0, [.ref (a 27), .ref (a 28), .int cu0, .int cu1, .int cu2, .int cu3, .int cu4, .int cu5])), (a 28, .inl (cI, 7, .inl fdr)), (a 27, .inl (cI, 7, .inl ft)), (a 24, .inr (6, [.ref (a 25), .int (nI nt)])), (a 25, .inl (cI, 200, .inl fb))] sz) := by
  refine Met.ofW (cc := cX0_read) (maxL := 3) (ret := (some .int)) (by decide) rfl ?_
  intro p e s m args below meth c s₁ B hml hv
  obtain ⟨rfl, ⟨hsz, hP, hK, hD0, hN⟩, hU⟩ := hv
  have hx := B.exec
  have hb := B.bytes
  have hr := B.returns
  have hts := atoms_spec (ws := zz_w yX0_read cX0_read 3 (some .int)) B.pre
  have hw : ∀ w ∈ zz_all, w.before _ s = true := fun w h => hts w (List.mem_cons_of_mem _ h)
  have hown : s.vm.findClass RX0 = some m.cls := findClass_of_methodNamed B.named
  have hlocks := B.notSynchronized
  subst hsz
  have hD := hD0.self (sz := s.heap.size)
  generalize hAe : va_A [(a 26, .inr (0, [.ref (a 27), .ref (a 28), .int cu0, .int cu1, .int cu2, .int cu3, .int cu4, .int cu5])), (a 28, .inl (cI, 7, .inl fdr)), (a 27, .inl (cI, 7, .inl ft)), (a 24, .inr (6, [.ref (a 25), .int (nI nt)])), (a 25, .inl (cI, 200, .inl fb))] s.heap.size = A at hD hU ⊢
  have hA : ∀ q : Nat, s.heap.size ≤ q → A q := fun q h => by rw [← hAe]; exact Or.inr h
  have hS : va_S A s.heap s.heap [] := va_S.rf
  have hP : va_P (dC, dI) vwCl [(a 26, .inr (0, [.ref (a 27), .ref (a 28), .int cu0, .int cu1, .int cu2, .int cu3, .int cu4, .int cu5])), (a 28, .inl (cI, 7, .inl fdr)), (a 27, .inl (cI, 7, .inl ft)), (a 24, .inr (6, [.ref (a 25), .int (nI nt)])), (a 25, .inl (cI, 200, .inl fb))] s.heap := hP
  have hl := lv_entry ([.ref (a 26), .ref (a 24)]) (n := 3) (Nat.le_of_ble_eq_true rfl)
  rw [lg_entry_eq]
  generalize (lg_sl ([.ref (a 26), .ref (a 24)]) ++ List.replicate (3 - (lg_sl ([.ref (a 26), .ref (a 24)])).length) Slot.unset).toArray = ls at hl ⊢
  have hl : lv_has ls 3 [(0, .ref (a 26)), (1, .ref (a 24))] := hl
  refine va_getsN hx hb hU.1.1 hS hown (hN.use zz_n25) (fun _ h9 => h9) dX0_read_0 ?_
  refine lv_iconst (v := 0) hx hb dX0_read_3 (by decide) ?_
  refine lv_aload_n hx hb dX0_read_4 rfl (lv_at hl 0 rfl) ?_
  refine va_get (D := (dC, dI)) (ci := 0) (v := .ref (a 28)) (C := RX0) (T := TX0) (N := 8) hx hb hw zz_inX0 hown hK hP 0 rfl rfl 1 (by decide) (hw _ tw_384) (fun _ h9 => h9) rfl dX0_read_5 ?_
  refine lv_iconst (v := 0) hx hb dX0_read_8 (by decide) ?_
  refine lv_bipush (v := 7) hx hb dX0_read_9 (by decide) ?_
  refine va_copyx hx hb (by rw [hml]; exact hl.1.symm) hown (hw _ tw_396) (hw _ tw_397) (hw _ tw_398) (hw _ tw_399) hK hP hD hS hU.1.2.1 hU.1.2.2.1 hU.1.2.2.2 1 0 rfl rfl (by decide) (by decide) (by decide) (by decide) (by decide) (Nat.le_of_ble_eq_true rfl) (Nat.le_of_ble_eq_true rfl) dX0_read_11 (fun H locs hP hD hS => ?_)
  obtain ⟨hP, hD⟩ := zz_ty (D := (dC, dI)) (cl := vwCl) (A := A) (H := H) [(a 26, .inr (0, [.ref (a 27), .ref (a 28), .int cu0, .int cu1, .int cu2, .int cu3, .int cu4, .int cu5])), (a 28, .inl (cI, 7, .inl (va_cpy zz_un fdr (Int32.toNatClampNeg 0) (Int32.toNatClampNeg 0) (Int32.toNatClampNeg 7)))), (a 27, .inl (cI, 7, .inl ft)), (a 24, .inr (6, [.ref (a 25), .int (nI nt)])), (a 25, .inl (cI, 200, .inl fb))] hP hD rfl
  refine lv_aload_n hx hb dX0_read_14 rfl (lv_at hl 0 rfl) ?_
  refine lv_iconst (v := 0) hx hb dX0_read_15 (by decide) ?_
  refine va_put (D := (dC, dI)) (ci := 0) (v := .int 0) (ty := .int) (C := RX0) (T := TX0) (N := 8) hx hb hw zz_inX0 tyX0 tyX0_ok nmX0 hown hK hP hD hS 0 rfl rfl 2 (by decide) (hw _ tw_394) (fun _ h9 => h9) rfl (by decide +kernel) rfl rfl (Nat.le_of_ble_eq_true rfl) dX0_read_16 (fun H locs hP hD hS => ?_)
  obtain ⟨hP, hD⟩ := zz_ty (D := (dC, dI)) (cl := vwCl) (A := A) (H := H) [(a 26, .inr (0, [.ref (a 27), .ref (a 28), .int 0, .int cu1, .int cu2, .int cu3, .int cu4, .int cu5])), (a 28, .inl (cI, 7, .inl (va_cpy zz_un fdr (Int32.toNatClampNeg 0) (Int32.toNatClampNeg 0) (Int32.toNatClampNeg 7)))), (a 27, .inl (cI, 7, .inl ft)), (a 24, .inr (6, [.ref (a 25), .int (nI nt)])), (a 25, .inl (cI, 200, .inl fb))] hP hD rfl
  refine lv_aload_n hx hb dX0_read_19 rfl (lv_at hl 0 rfl) ?_
  refine lv_iconst (v := (-1)) hx hb dX0_read_20 (by decide) ?_
  refine va_put (D := (dC, dI)) (ci := 0) (v := .int (-1)) (ty := .int) (C := RX0) (T := TX0) (N := 8) hx hb hw zz_inX0 tyX0 tyX0_ok nmX0 hown hK hP hD hS 0 rfl rfl 3 (by decide) (hw _ tw_395) (fun _ h9 => h9) rfl (by decide +kernel) rfl rfl (Nat.le_of_ble_eq_true rfl) dX0_read_21 (fun H locs hP hD hS => ?_)
  obtain ⟨hP, hD⟩ := zz_ty (D := (dC, dI)) (cl := vwCl) (A := A) (H := H) [(a 26, .inr (0, [.ref (a 27), .ref (a 28), .int 0, .int (-1), .int cu2, .int cu3, .int cu4, .int cu5])), (a 28, .inl (cI, 7, .inl (va_cpy zz_un fdr (Int32.toNatClampNeg 0) (Int32.toNatClampNeg 0) (Int32.toNatClampNeg 7)))), (a 27, .inl (cI, 7, .inl ft)), (a 24, .inr (6, [.ref (a 25), .int (nI nt)])), (a 25, .inl (cI, 200, .inl fb))] hP hD rfl
  refine lv_aload_n hx hb dX0_read_24 rfl (lv_at hl 0 rfl) ?_
  refine lv_iconst (v := 1) hx hb dX0_read_25 (by decide) ?_
  refine va_put (D := (dC, dI)) (ci := 0) (v := .int 1) (ty := .int) (C := RX0) (T := TX0) (N := 8) hx hb hw zz_inX0 tyX0 tyX0_ok nmX0 hown hK hP hD hS 0 rfl rfl 4 (by decide) (hw _ tw_380) (fun _ h9 => h9) rfl (by decide +kernel) rfl rfl (Nat.le_of_ble_eq_true rfl) dX0_read_26 (fun H locs hP hD hS => ?_)
  obtain ⟨hP, hD⟩ := zz_ty (D := (dC, dI)) (cl := vwCl) (A := A) (H := H) [(a 26, .inr (0, [.ref (a 27), .ref (a 28), .int 0, .int (-1), .int 1, .int cu3, .int cu4, .int cu5])), (a 28, .inl (cI, 7, .inl (va_cpy zz_un fdr (Int32.toNatClampNeg 0) (Int32.toNatClampNeg 0) (Int32.toNatClampNeg 7)))), (a 27, .inl (cI, 7, .inl ft)), (a 24, .inr (6, [.ref (a 25), .int (nI nt)])), (a 25, .inl (cI, 200, .inl fb))] hP hD rfl
  refine lv_aload_n hx hb dX0_read_29 rfl (lv_at hl 0 rfl) ?_
  refine lv_iconst (v := (-1)) hx hb dX0_read_30 (by decide) ?_
  refine va_put (D := (dC, dI)) (ci := 0) (v := .int (-1)) (ty := .int) (C := RX0) (T := TX0) (N := 8) hx hb hw zz_inX0 tyX0 tyX0_ok nmX0 hown hK hP hD hS 0 rfl rfl 5 (by decide) (hw _ tw_378) (fun _ h9 => h9) rfl (by decide +kernel) rfl rfl (Nat.le_of_ble_eq_true rfl) dX0_read_31 (fun H locs hP hD hS => ?_)
  obtain ⟨hP, hD⟩ := zz_ty (D := (dC, dI)) (cl := vwCl) (A := A) (H := H) [(a 26, .inr (0, [.ref (a 27), .ref (a 28), .int 0, .int (-1), .int 1, .int (-1), .int cu4, .int cu5])), (a 28, .inl (cI, 7, .inl (va_cpy zz_un fdr (Int32.toNatClampNeg 0) (Int32.toNatClampNeg 0) (Int32.toNatClampNeg 7)))), (a 27, .inl (cI, 7, .inl ft)), (a 24, .inr (6, [.ref (a 25), .int (nI nt)])), (a 25, .inl (cI, 200, .inl fb))] hP hD rfl
  refine lv_aload_n hx hb dX0_read_34 rfl (lv_at hl 0 rfl) ?_
  refine lv_iconst (v := 0) hx hb dX0_read_35 (by decide) ?_
  refine va_put (D := (dC, dI)) (ci := 0) (v := .int 0) (ty := .int) (C := RX0) (T := TX0) (N := 8) hx hb hw zz_inX0 tyX0 tyX0_ok nmX0 hown hK hP hD hS 0 rfl rfl 6 (by decide) (hw _ tw_379) (fun _ h9 => h9) rfl (by decide +kernel) rfl rfl (Nat.le_of_ble_eq_true rfl) dX0_read_36 (fun H locs hP hD hS => ?_)
  obtain ⟨hP, hD⟩ := zz_ty (D := (dC, dI)) (cl := vwCl) (A := A) (H := H) [(a 26, .inr (0, [.ref (a 27), .ref (a 28), .int 0, .int (-1), .int 1, .int (-1), .int 0, .int cu5])), (a 28, .inl (cI, 7, .inl (va_cpy zz_un fdr (Int32.toNatClampNeg 0) (Int32.toNatClampNeg 0) (Int32.toNatClampNeg 7)))), (a 27, .inl (cI, 7, .inl ft)), (a 24, .inr (6, [.ref (a 25), .int (nI nt)])), (a 25, .inl (cI, 200, .inl fb))] hP hD rfl
  refine lv_aload_n hx hb dX0_read_39 rfl (lv_at hl 0 rfl) ?_
  refine lv_iconst (v := 0) hx hb dX0_read_40 (by decide) ?_
  refine va_put (D := (dC, dI)) (ci := 0) (v := .int 0) (ty := .int) (C := RX0) (T := TX0) (N := 8) hx hb hw zz_inX0 tyX0 tyX0_ok nmX0 hown hK hP hD hS 0 rfl rfl 7 (by decide) (hw _ tw_393) (fun _ h9 => h9) rfl (by decide +kernel) rfl rfl (Nat.le_of_ble_eq_true rfl) dX0_read_41 (fun H locs hP hD hS => ?_)
  obtain ⟨hP, hD⟩ := zz_ty (D := (dC, dI)) (cl := vwCl) (A := A) (H := H) [(a 26, .inr (0, [.ref (a 27), .ref (a 28), .int 0, .int (-1), .int 1, .int (-1), .int 0, .int 0])), (a 28, .inl (cI, 7, .inl (va_cpy zz_un fdr (Int32.toNatClampNeg 0) (Int32.toNatClampNeg 0) (Int32.toNatClampNeg 7)))), (a 27, .inl (cI, 7, .inl ft)), (a 24, .inr (6, [.ref (a 25), .int (nI nt)])), (a 25, .inl (cI, 200, .inl fb))] hP hD rfl
  refine lv_iconst (v := 0) hx hb dX0_read_44 (by decide) ?_
  refine lv_istore_n (lv' := [(2, .int 0), (0, .ref (a 26)), (1, .ref (a 24))]) hx hb dX0_read_45 rfl hl (by decide) rfl (fun ls hl => ?_)
  refine zz_loopS (fun (u : (Nat) × (Int32) × (Int32) × (Int32) × (Int32) × (Int32) × (Int32) × (Nat → Int32)) => match u with | (k, d0, d1, d2, d3, d4, d5, gd) => [(a 26, .inr (0, [.ref (a 27), .ref (a 28), .int d0, .int d1, .int d2, .int d3, .int d4, .int d5])), (a 28, .inl (cI, 7, .inl gd)), (a 27, .inl (cI, 7, .inl ft)), (a 24, .inr (6, [.ref (a 25), .int (nI nt)])), (a 25, .inl (cI, 200, .inl fb))]) (fun (u : (Nat) × (Int32) × (Int32) × (Int32) × (Int32) × (Int32) × (Int32) × (Nat → Int32)) => match u with | (k, d0, d1, d2, d3, d4, d5, gd) => [(0, .ref (a 26)), (1, .ref (a 24)), (2, .int (nI k))]) (fun (u : (Nat) × (Int32) × (Int32) × (Int32) × (Int32) × (Int32) × (Int32) × (Nat → Int32)) => match u with | (k, d0, d1, d2, d3, d4, d5, gd) => k ≤ nt ∧ zz_ri (zz_cs fb nt) nt k (zz_R (zz_cs fb nt) nt 0 ((1, 0, (fun _ => false), 0, zz_un) : zz_Q)) d0 d1 d2 d3 d4 d5 gd) (fun (u : (Nat) × (Int32) × (Int32) × (Int32) × (Int32) × (Int32) × (Int32) × (Nat → Int32)) => match u with | (k, d0, d1, d2, d3, d4, d5, gd) => nt - k) (fun u hI H locs ls hP hD hS hl ih_46 => ?_) (0, 0, (-1), 1, (-1), 0, 0, (va_cpy zz_un fdr (Int32.toNatClampNeg 0) (Int32.toNatClampNeg 0) (Int32.toNatClampNeg 7))) ⟨by omega, Or.inl ⟨rfl, rfl, _, zz_qr_0 (cu := 0) (fun w hw => by rcases (show w = 0 ∨ w = 1 ∨ w = 2 ∨ w = 3 ∨ w = 4 ∨ w = 5 ∨ w = 6 by omega) with rfl | rfl | rfl | rfl | rfl | rfl | rfl <;> rfl), rfl⟩⟩ _ _ _ (hP.sub [0, 1, 2, 3, 4] rfl) (hD.sub [0, 1, 2, 3, 4] (by decide) rfl) hS (lv_sub hl [1, 2, 0] rfl)
  obtain ⟨k, d0, d1, d2, d3, d4, d5, gd⟩ := u
  obtain ⟨hP, hD⟩ := zz_ty (D := (dC, dI)) (cl := vwCl) (A := A) (H := H) [(a 26, .inr (0, [.ref (a 27), .ref (a 28), .int d0, .int d1, .int d2, .int d3, .int d4, .int d5])), (a 28, .inl (cI, 7, .inl gd)), (a 27, .inl (cI, 7, .inl ft)), (a 24, .inr (6, [.ref (a 25), .int (nI nt)])), (a 25, .inl (cI, 200, .inl fb))] hP hD rfl
  have hl : lv_has ls 3 [(0, .ref (a 26)), (1, .ref (a 24)), (2, .int (nI k))] := hl
  have hI : k ≤ nt ∧ zz_ri (zz_cs fb nt) nt k (zz_R (zz_cs fb nt) nt 0 ((1, 0, (fun _ => false), 0, zz_un) : zz_Q)) d0 d1 d2 d3 d4 d5 gd := hI
  obtain ⟨ik, iri⟩ := hI
  refine lv_iload_n hx hb dX0_read_46 rfl (lv_at hl 2 rfl) ?_
  refine lv_aload_n hx hb dX0_read_47 rfl (lv_at hl 1 rfl) ?_
  refine va_getN (D := (dC, dI)) (ci := 6) (v := .int (nI nt)) (C := RX6) (T := TX6) (N := 2) hx hb hw zz_inX6 hown hK hP 3 rfl rfl 1 (by decide) (hN.use zz_n22) (fun _ h9 => h9) rfl dX0_read_48 ?_
  refine lv_icmp_ge (tgt := 86) hx hb dX0_read_51 (by decide) (fun c_1 => ?_) (fun c_1 => ?_)
  · have zc_1 := c_1
    rw [Int32.le_iff_toInt_le] at zc_1
    try rw [zz_toInt k (by omega)] at zc_1
    try rw [zz_toInt nt (by omega)] at zc_1
    refine lv_aload_n hx hb dX0_read_86 rfl (lv_at hl 0 rfl) ?_
    refine va_get (D := (dC, dI)) (ci := 0) (v := .int d0) (C := RX0) (T := TX0) (N := 8) hx hb hw zz_inX0 hown hK hP 0 rfl rfl 2 (by decide) (hw _ tw_394) (fun _ h9 => h9) rfl dX0_read_87 ?_
    refine lv_if_ne (tgt := 110) hx hb dX0_read_90 (by decide) (fun c_2 => ?_) (fun c_2 => ?_)
    · have zc_2 := c_2
      rw [← Int32.toInt_inj] at zc_2
      try rw [show (0 : Int32).toInt = 0 from by decide] at zc_2
      refine lv_aload_n hx hb dX0_read_110 rfl (lv_at hl 0 rfl) ?_
      refine va_get (D := (dC, dI)) (ci := 0) (v := .int d0) (C := RX0) (T := TX0) (N := 8) hx hb hw zz_inX0 hown hK hP 0 rfl rfl 2 (by decide) (hw _ tw_394) (fun _ h9 => h9) rfl dX0_read_111 ?_
      refine lv_if_eq (tgt := 119) hx hb dX0_read_114 (by decide) (fun c_3 => absurd c_3 c_2) (fun _ => ?_)
      refine lv_iconst (v := (-1)) hx hb dX0_read_117 (by decide) ?_
      obtain ⟨hP9, hD9⟩ := zz_sub2 (ws' := [(a 26, .inr (0, [.ref (a 27), .ref (a 28), .int d0, .int d1, .int d2, .int d3, .int d4, .int d5])), (a 28, .inl (cI, 7, .inl gd)), (a 27, .inl (cI, 7, .inl ft)), (a 24, .inr (6, [.ref (a 25), .int (nI nt)])), (a 25, .inl (cI, 200, .inl fb))]) hP hD [0, 1, 2, 3, 4] (by decide) rfl
      have hK9 := hK.sub (tys' := [(cI, .int)]) [0] rfl
      exact W.iret (v := (-1)) hx hb hr (fun t ht hW => ⟨⟨(-1), (d0, d1, d2, d3, d4, d5, gd, ft), rfl, (iri.elim (fun h9 => absurd h9.1 c_2) (fun h9 => zz_rp_bad h9.1 h9.2.1 h9.2.2)), by rw [ht]; exact hP9, va_K.moved hW.alike hK9, hD9⟩, hS.F ht⟩) hS.2.2 dX0_read_118
    · have zc_2 := c_2
      rw [← Int32.toInt_inj] at zc_2
      try rw [show (0 : Int32).toInt = 0 from by decide] at zc_2
      rcases iri with ⟨e0, e1, q, iq, hF⟩ | ⟨e0, _⟩
      · rw [show k = nt from by omega] at hF
        refine lv_aload_n hx hb dX0_read_93 rfl (lv_at hl 0 rfl) ?_
        refine va_get (D := (dC, dI)) (ci := 0) (v := .int d2) (C := RX0) (T := TX0) (N := 8) hx hb hw zz_inX0 hown hK hP 0 rfl rfl 4 (by decide) (hw _ tw_380) (fun _ h9 => h9) rfl dX0_read_94 ?_
        refine lv_iconst (v := 1) hx hb dX0_read_97 (by decide) ?_
        refine lv_icmp_eq (tgt := 110) hx hb dX0_read_98 (by decide) (fun c_4 => ?_) (fun c_4 => ?_)
        · have zc_4 := c_4
          rw [← Int32.toInt_inj] at zc_4
          try rw [show (1 : Int32).toInt = 1 from by decide] at zc_4
          refine lv_aload_n hx hb dX0_read_110 rfl (lv_at hl 0 rfl) ?_
          refine va_get (D := (dC, dI)) (ci := 0) (v := .int d0) (C := RX0) (T := TX0) (N := 8) hx hb hw zz_inX0 hown hK hP 0 rfl rfl 2 (by decide) (hw _ tw_394) (fun _ h9 => h9) rfl dX0_read_111 ?_
          refine lv_if_eq (tgt := 119) hx hb dX0_read_114 (by decide) (fun _ => ?_) (fun c_5 => absurd c_5 (fun h9 => h9 c_2))
          refine lv_aload_n hx hb dX0_read_119 rfl (lv_at hl 0 rfl) ?_
          refine va_get (D := (dC, dI)) (ci := 0) (v := .ref (a 28)) (C := RX0) (T := TX0) (N := 8) hx hb hw zz_inX0 hown hK hP 0 rfl rfl 1 (by decide) (hw _ tw_384) (fun _ h9 => h9) rfl dX0_read_120 ?_
          refine lv_iconst (v := 0) hx hb dX0_read_123 (by decide) ?_
          refine lv_aload_n hx hb dX0_read_124 rfl (lv_at hl 0 rfl) ?_
          refine va_get (D := (dC, dI)) (ci := 0) (v := .ref (a 27)) (C := RX0) (T := TX0) (N := 8) hx hb hw zz_inX0 hown hK hP 0 rfl rfl 0 (by decide) (hw _ tw_400) (fun _ h9 => h9) rfl dX0_read_125 ?_
          refine lv_iconst (v := 0) hx hb dX0_read_128 (by decide) ?_
          refine lv_bipush (v := 7) hx hb dX0_read_129 (by decide) ?_
          refine va_copyi hx hb (by rw [hml]; exact hl.1.symm) hown (hw _ tw_396) (hw _ tw_397) (hw _ tw_398) (hw _ tw_399) hK hP hD hS 1 2 0 0 rfl rfl rfl rfl rfl (by decide) (by decide) (by decide) (by decide) (by decide) (fun _ _ => rfl) (Nat.le_of_ble_eq_true rfl) (Nat.le_of_ble_eq_true rfl) dX0_read_131 (fun H locs hP hD hS => ?_)
          obtain ⟨hP, hD⟩ := zz_ty (D := (dC, dI)) (cl := vwCl) (A := A) (H := H) [(a 26, .inr (0, [.ref (a 27), .ref (a 28), .int d0, .int d1, .int d2, .int d3, .int d4, .int d5])), (a 28, .inl (cI, 7, .inl gd)), (a 27, .inl (cI, 7, .inl (va_cpy gd ft (Int32.toNatClampNeg 0) (Int32.toNatClampNeg 0) (Int32.toNatClampNeg 7)))), (a 24, .inr (6, [.ref (a 25), .int (nI nt)])), (a 25, .inl (cI, 200, .inl fb))] hP hD rfl
          refine lv_aload_n hx hb dX0_read_134 rfl (lv_at hl 0 rfl) ?_
          refine va_get (D := (dC, dI)) (ci := 0) (v := .int d5) (C := RX0) (T := TX0) (N := 8) hx hb hw zz_inX0 hown hK hP 0 rfl rfl 7 (by decide) (hw _ tw_393) (fun _ h9 => h9) rfl dX0_read_135 ?_
          obtain ⟨hP9, hD9⟩ := zz_sub2 (ws' := [(a 26, .inr (0, [.ref (a 27), .ref (a 28), .int d0, .int d1, .int d2, .int d3, .int d4, .int d5])), (a 28, .inl (cI, 7, .inl gd)), (a 27, .inl (cI, 7, .inl (va_cpy gd ft (Int32.toNatClampNeg 0) (Int32.toNatClampNeg 0) (Int32.toNatClampNeg 7)))), (a 24, .inr (6, [.ref (a 25), .int (nI nt)])), (a 25, .inl (cI, 200, .inl fb))]) hP hD [0, 1, 2, 3, 4] (by decide) rfl
          have hK9 := hK.sub (tys' := [(cI, .int)]) [0] rfl
          exact W.iret (v := d5) hx hb hr (fun t ht hW => ⟨⟨d5, (d0, d1, d2, d3, d4, d5, gd, (va_cpy gd ft (Int32.toNatClampNeg 0) (Int32.toNatClampNeg 0) (Int32.toNatClampNeg 7))), rfl, (zz_rp_ok hF iq c_4 e0 e1 (fun w hw => by rcases (show w = 0 ∨ w = 1 ∨ w = 2 ∨ w = 3 ∨ w = 4 ∨ w = 5 ∨ w = 6 by omega) with rfl | rfl | rfl | rfl | rfl | rfl | rfl <;> rfl)), by rw [ht]; exact hP9, va_K.moved hW.alike hK9, hD9⟩, hS.F ht⟩) hS.2.2 dX0_read_138
        · have zc_4 := c_4
          rw [← Int32.toInt_inj] at zc_4
          try rw [show (1 : Int32).toInt = 1 from by decide] at zc_4
          refine lv_aload_n hx hb dX0_read_101 rfl (lv_at hl 0 rfl) ?_
          refine lv_iconst (v := 1) hx hb dX0_read_102 (by decide) ?_
          refine lv_aload_n hx hb dX0_read_103 rfl (lv_at hl 1 rfl) ?_
          refine va_getN (D := (dC, dI)) (ci := 6) (v := .int (nI nt)) (C := RX6) (T := TX6) (N := 2) hx hb hw zz_inX6 hown hK hP 3 rfl rfl 1 (by decide) (hN.use zz_n22) (fun _ h9 => h9) rfl dX0_read_104 ?_
          obtain ⟨hPc, hDc⟩ := zz_sub2 (ws' := [(a 26, .inr (0, [.ref (a 27), .ref (a 28), .int d0, .int d1, .int d2, .int d3, .int d4, .int d5]))]) hP hD [0] (by decide) rfl
          have hKc := hK.sub (tys' := []) [] rfl
          have hFc := zz_free1 hDc hS hA
          refine va_callv (va_runV (As := [.int 1, .int (nI nt)]) (rest := []) ⟨hx, hb, hml, hown, hw⟩ (kx_note l dC dI a d0 d1 d2 d3 d4 d5 1 (nI nt) H.size) ⟨callB_of 2 hw (zz_good tw_401) rfl rfl rfl (hw _ tw_357) (hw _ tw_402) (by decide +kernel) ⟨Nat.le_of_ble_eq_true rfl, Nat.le_of_ble_eq_true rfl⟩, (hw _ tw_403), (hw _ tw_404)⟩ ⟨zz_blind, va_recv hKc hPc (ci := 0) (q0 := 0) rfl rfl, zz_pre hPc hKc hDc hN⟩ rfl rfl hl.1 rfl (lv_room (Nat.le_of_ble_eq_true rfl)) dX0_read_107 ⟨Nat.le_of_ble_eq_true rfl, Nat.le_of_ble_eq_true rfl⟩) hS (fun q _ h => hFc q h) hFc (fun u_6 t H1 locs ht hvm e_6 hB hz1 hk1 hS => ?_)
          try dsimp only at e_6
          obtain ⟨v_6_0, v_6_1⟩ := u_6
          obtain ⟨hP1, hK1, hD1⟩ := hB
          rw [ht] at hP1
          have hK1 := va_K.moved hvm.symm hK1
          try dsimp only at e_6
          obtain ⟨hP, hD⟩ := va_join (wr := [(a 28, .inl (cI, 7, .inl gd)), (a 27, .inl (cI, 7, .inl ft)), (a 24, .inr (6, [.ref (a 25), .int (nI nt)])), (a 25, .inl (cI, 200, .inl fb))]) (w1 := [(a 26, .inr (0, [.ref (a 27), .ref (a 28), .int v_6_0, .int v_6_1, .int d2, .int d3, .int d4, .int d5]))]) hP hD [0] [1, 2, 3, 4] rfl rfl (by decide) (by decide) hk1 hFc hP1 hD1
          clear hk1 ht hvm
          generalize H1 = H at hP hS ⊢
          obtain ⟨hP, hD⟩ := zz_ty (D := (dC, dI)) (cl := vwCl) (A := A) (H := H) [(a 28, .inl (cI, 7, .inl gd)), (a 27, .inl (cI, 7, .inl ft)), (a 24, .inr (6, [.ref (a 25), .int (nI nt)])), (a 25, .inl (cI, 200, .inl fb)), (a 26, .inr (0, [.ref (a 27), .ref (a 28), .int v_6_0, .int v_6_1, .int d2, .int d3, .int d4, .int d5]))] hP hD rfl
          obtain ⟨z0, z1⟩ : v_6_0 = 1 ∧ v_6_1 = nI nt := e_6.elim (fun h => absurd h.1 (by decide)) (fun h => h.2)
          have nz0 : ¬ v_6_0 = 0 := by rw [z0]; decide
          refine lv_aload_n hx hb dX0_read_110 rfl (lv_at hl 0 rfl) ?_
          refine va_get (D := (dC, dI)) (ci := 0) (v := .int v_6_0) (C := RX0) (T := TX0) (N := 8) hx hb hw zz_inX0 hown hK hP 4 rfl rfl 2 (by decide) (hw _ tw_394) (fun _ h9 => h9) rfl dX0_read_111 ?_
          refine lv_if_eq (tgt := 119) hx hb dX0_read_114 (by decide) (fun c_7 => absurd c_7 nz0) (fun _ => ?_)
          refine lv_iconst (v := (-1)) hx hb dX0_read_117 (by decide) ?_
          obtain ⟨hP9, hD9⟩ := zz_sub2 (ws' := [(a 26, .inr (0, [.ref (a 27), .ref (a 28), .int v_6_0, .int v_6_1, .int d2, .int d3, .int d4, .int d5])), (a 28, .inl (cI, 7, .inl gd)), (a 27, .inl (cI, 7, .inl ft)), (a 24, .inr (6, [.ref (a 25), .int (nI nt)])), (a 25, .inl (cI, 200, .inl fb))]) hP hD [4, 0, 1, 2, 3] (by decide) rfl
          have hK9 := hK.sub (tys' := [(cI, .int)]) [0] rfl
          exact W.iret (v := (-1)) hx hb hr (fun t ht hW => ⟨⟨(-1), (v_6_0, v_6_1, d2, d3, d4, d5, gd, ft), rfl, (zz_rp_end hF iq.2.1 iq.1 c_4 z0 z1), by rw [ht]; exact hP9, va_K.moved hW.alike hK9, hD9⟩, hS.F ht⟩) hS.2.2 dX0_read_118
      · exact absurd c_2 e0
  · have zc_1 := c_1
    rw [Int32.le_iff_toInt_le] at zc_1
    try rw [zz_toInt k (by omega)] at zc_1
    try rw [zz_toInt nt (by omega)] at zc_1
    refine lv_aload_n hx hb dX0_read_54 rfl (lv_at hl 0 rfl) ?_
    refine va_get (D := (dC, dI)) (ci := 0) (v := .int d0) (C := RX0) (T := TX0) (N := 8) hx hb hw zz_inX0 hown hK hP 0 rfl rfl 2 (by decide) (hw _ tw_394) (fun _ h9 => h9) rfl dX0_read_55 ?_
    refine lv_if_ne (tgt := 86) hx hb dX0_read_58 (by decide) (fun c_8 => ?_) (fun c_8 => ?_)
    · have zc_8 := c_8
      rw [← Int32.toInt_inj] at zc_8
      try rw [show (0 : Int32).toInt = 0 from by decide] at zc_8
      refine lv_aload_n hx hb dX0_read_86 rfl (lv_at hl 0 rfl) ?_
      refine va_get (D := (dC, dI)) (ci := 0) (v := .int d0) (C := RX0) (T := TX0) (N := 8) hx hb hw zz_inX0 hown hK hP 0 rfl rfl 2 (by decide) (hw _ tw_394) (fun _ h9 => h9) rfl dX0_read_87 ?_
      refine lv_if_ne (tgt := 110) hx hb dX0_read_90 (by decide) (fun _ => ?_) (fun c_9 => absurd c_9 c_8)
      refine lv_aload_n hx hb dX0_read_110 rfl (lv_at hl 0 rfl) ?_
      refine va_get (D := (dC, dI)) (ci := 0) (v := .int d0) (C := RX0) (T := TX0) (N := 8) hx hb hw zz_inX0 hown hK hP 0 rfl rfl 2 (by decide) (hw _ tw_394) (fun _ h9 => h9) rfl dX0_read_111 ?_
      refine lv_if_eq (tgt := 119) hx hb dX0_read_114 (by decide) (fun c_10 => absurd c_10 c_8) (fun _ => ?_)
      refine lv_iconst (v := (-1)) hx hb dX0_read_117 (by decide) ?_
      obtain ⟨hP9, hD9⟩ := zz_sub2 (ws' := [(a 26, .inr (0, [.ref (a 27), .ref (a 28), .int d0, .int d1, .int d2, .int d3, .int d4, .int d5])), (a 28, .inl (cI, 7, .inl gd)), (a 27, .inl (cI, 7, .inl ft)), (a 24, .inr (6, [.ref (a 25), .int (nI nt)])), (a 25, .inl (cI, 200, .inl fb))]) hP hD [0, 1, 2, 3, 4] (by decide) rfl
      have hK9 := hK.sub (tys' := [(cI, .int)]) [0] rfl
      exact W.iret (v := (-1)) hx hb hr (fun t ht hW => ⟨⟨(-1), (d0, d1, d2, d3, d4, d5, gd, ft), rfl, (iri.elim (fun h9 => absurd h9.1 c_8) (fun h9 => zz_rp_bad h9.1 h9.2.1 h9.2.2)), by rw [ht]; exact hP9, va_K.moved hW.alike hK9, hD9⟩, hS.F ht⟩) hS.2.2 dX0_read_118
    · have zc_8 := c_8
      rw [← Int32.toInt_inj] at zc_8
      try rw [show (0 : Int32).toInt = 0 from by decide] at zc_8
      rcases iri with ⟨e0, e1, q, iq, hF⟩ | ⟨e0, _⟩
      · refine lv_aload_n hx hb dX0_read_61 rfl (lv_at hl 1 rfl) ?_
        refine lv_iload_n hx hb dX0_read_62 rfl (lv_at hl 2 rfl) ?_
        obtain ⟨hPc, hDc⟩ := zz_sub2 (ws' := [(a 24, .inr (6, [.ref (a 25), .int (nI nt)])), (a 25, .inl (cI, 200, .inl fb))]) hP hD [3, 4] (by decide) rfl
        have hKc := hK.sub (tys' := [(cI, .int)]) [0] rfl
        have hFc := zz_free0 hS hA
        refine va_calli (va_runS (As := [.ref (a 24), .int (nI k)]) (rest := []) ⟨hx, hb, hml, hown, hw⟩ (kx_beginsToken l dC dI a cI nt fb k H.size (by omega) (by omega)) ⟨callB_of 2 hw (zz_good tw_405) rfl rfl rfl (hw _ tw_357) (hw _ tw_406) (by decide +kernel) ⟨Nat.le_of_ble_eq_true rfl, Nat.le_of_ble_eq_true rfl⟩, (hw _ tw_407)⟩ ⟨zz_blind, zz_pre hPc hKc hDc hN⟩ rfl rfl hl.1 rfl (lv_room (Nat.le_of_ble_eq_true rfl)) dX0_read_63 ⟨Nat.le_of_ble_eq_true rfl, Nat.le_of_ble_eq_true rfl⟩) hS (fun q _ h => hFc q h) hFc (fun r_11 u_11 t H1 locs ht hvm e_11 hB hz1 hk1 hS => ?_)
        try dsimp only at e_11
        have hP := zz_keep hP hk1
        clear hk1 hB ht hvm
        generalize H1 = H at hP hS ⊢
        rcases e_11 with ⟨er_11, bt_11⟩ | ⟨er_11, bt_11⟩
        · refine zz_seti 1 er_11 ?_
          refine lv_if_eq (tgt := 80) hx hb dX0_read_66 (by decide) (fun c_9 => absurd c_9 (by decide)) (fun _ => ?_)
          refine lv_aload_n hx hb dX0_read_69 rfl (lv_at hl 0 rfl) ?_
          refine lv_aload_n hx hb dX0_read_70 rfl (lv_at hl 0 rfl) ?_
          refine lv_aload_n hx hb dX0_read_71 rfl (lv_at hl 1 rfl) ?_
          refine lv_iload_n hx hb dX0_read_72 rfl (lv_at hl 2 rfl) ?_
          obtain ⟨hPc, hDc⟩ := zz_sub2 (ws' := [(a 26, .inr (0, [.ref (a 27), .ref (a 28), .int d0, .int d1, .int d2, .int d3, .int d4, .int d5])), (a 28, .inl (cI, 7, .inl gd)), (a 24, .inr (6, [.ref (a 25), .int (nI nt)])), (a 25, .inl (cI, 200, .inl fb))]) hP hD [0, 1, 3, 4] (by decide) rfl
          have hKc := hK.sub (tys' := [(cI, .int)]) [0] rfl
          have hFc := zz_free1 hDc hS hA
          refine va_calli (va_runV (As := [.ref (a 24), .int (nI k)]) (rest := [.ref (a 26)]) ⟨hx, hb, hml, hown, hw⟩ (kx_takeToken l dC dI b0 b1 b2 adK adV a cI nt fb d0 d1 d2 d3 d4 d5 gd k q H.size (by omega) (by omega) iq) ⟨callB_of 2 hw (zz_good tw_408) rfl rfl rfl (hw _ tw_357) (hw _ tw_409) (by decide +kernel) ⟨Nat.le_of_ble_eq_true rfl, Nat.le_of_ble_eq_true rfl⟩, (hw _ tw_410), (hw _ tw_411)⟩ ⟨zz_blindG, va_recv hKc hPc (ci := 0) (q0 := 0) rfl rfl, zz_preG hPc hKc hDc hN hU hS hFc⟩ rfl rfl hl.1 rfl (lv_room (Nat.le_of_ble_eq_true rfl)) dX0_read_73 ⟨Nat.le_of_ble_eq_true rfl, Nat.le_of_ble_eq_true rfl⟩) hS (fun q _ h => hFc q h) hFc (fun r_12 u_12 t H1 locs ht hvm e_12 hB hz1 hk1 hS => ?_)
          try dsimp only at e_12
          obtain ⟨v_12_0, v_12_1, v_12_2, v_12_3, v_12_4⟩ := u_12
          obtain ⟨hP1, hK1, hD1⟩ := hB
          rw [ht] at hP1
          have hK1 := va_K.moved hvm.symm hK1
          try dsimp only at e_12
          obtain ⟨hP, hD⟩ := va_join (wr := [(a 27, .inl (cI, 7, .inl ft))]) (w1 := [(a 26, .inr (0, [.ref (a 27), .ref (a 28), .int d0, .int d1, .int v_12_0, .int v_12_1, .int v_12_2, .int v_12_3])), (a 28, .inl (cI, 7, .inl v_12_4)), (a 24, .inr (6, [.ref (a 25), .int (nI nt)])), (a 25, .inl (cI, 200, .inl fb))]) hP hD [0, 1, 3, 4] [2] rfl rfl (by decide) (by decide) hk1 hFc hP1 hD1
          clear hk1 ht hvm
          generalize H1 = H at hP hS ⊢
          obtain ⟨hP, hD⟩ := zz_ty (D := (dC, dI)) (cl := vwCl) (A := A) (H := H) [(a 27, .inl (cI, 7, .inl ft)), (a 26, .inr (0, [.ref (a 27), .ref (a 28), .int d0, .int d1, .int v_12_0, .int v_12_1, .int v_12_2, .int v_12_3])), (a 28, .inl (cI, 7, .inl v_12_4)), (a 24, .inr (6, [.ref (a 25), .int (nI nt)])), (a 25, .inl (cI, 200, .inl fb))] hP hD rfl
          refine lv_iload_n hx hb dX0_read_76 rfl (lv_at hl 2 rfl) ?_
          obtain ⟨hPc, hDc⟩ := zz_sub2 (ws' := [(a 26, .inr (0, [.ref (a 27), .ref (a 28), .int d0, .int d1, .int v_12_0, .int v_12_1, .int v_12_2, .int v_12_3]))]) hP hD [1] (by decide) rfl
          have hKc := hK.sub (tys' := []) [] rfl
          have hFc := zz_free1 hDc hS hA
          refine va_callv (va_runV (As := [.int r_12, .int (nI k)]) (rest := []) ⟨hx, hb, hml, hown, hw⟩ (kx_note l dC dI a d0 d1 v_12_0 v_12_1 v_12_2 v_12_3 r_12 (nI k) H.size) ⟨callB_of 2 hw (zz_good tw_401) rfl rfl rfl (hw _ tw_357) (hw _ tw_402) (by decide +kernel) ⟨Nat.le_of_ble_eq_true rfl, Nat.le_of_ble_eq_true rfl⟩, (hw _ tw_403), (hw _ tw_404)⟩ ⟨zz_blind, va_recv hKc hPc (ci := 0) (q0 := 0) rfl rfl, zz_pre hPc hKc hDc hN⟩ rfl rfl hl.1 rfl (lv_room (Nat.le_of_ble_eq_true rfl)) dX0_read_77 ⟨Nat.le_of_ble_eq_true rfl, Nat.le_of_ble_eq_true rfl⟩) hS (fun q _ h => hFc q h) hFc (fun u_13 t H1 locs ht hvm e_13 hB hz1 hk1 hS => ?_)
          try dsimp only at e_13
          obtain ⟨v_13_0, v_13_1⟩ := u_13
          obtain ⟨hP1, hK1, hD1⟩ := hB
          rw [ht] at hP1
          have hK1 := va_K.moved hvm.symm hK1
          try dsimp only at e_13
          obtain ⟨hP, hD⟩ := va_join (wr := [(a 27, .inl (cI, 7, .inl ft)), (a 28, .inl (cI, 7, .inl v_12_4)), (a 24, .inr (6, [.ref (a 25), .int (nI nt)])), (a 25, .inl (cI, 200, .inl fb))]) (w1 := [(a 26, .inr (0, [.ref (a 27), .ref (a 28), .int v_13_0, .int v_13_1, .int v_12_0, .int v_12_1, .int v_12_2, .int v_12_3]))]) hP hD [1] [0, 2, 3, 4] rfl rfl (by decide) (by decide) hk1 hFc hP1 hD1
          clear hk1 ht hvm
          generalize H1 = H at hP hS ⊢
          obtain ⟨hP, hD⟩ := zz_ty (D := (dC, dI)) (cl := vwCl) (A := A) (H := H) [(a 27, .inl (cI, 7, .inl ft)), (a 28, .inl (cI, 7, .inl v_12_4)), (a 24, .inr (6, [.ref (a 25), .int (nI nt)])), (a 25, .inl (cI, 200, .inl fb)), (a 26, .inr (0, [.ref (a 27), .ref (a 28), .int v_13_0, .int v_13_1, .int v_12_0, .int v_12_1, .int v_12_2, .int v_12_3]))] hP hD rfl
          refine lv_iinc (v := (nI (k + 1))) (lv' := [(2, .int (nI (k + 1))), (0, .ref (a 26)), (1, .ref (a 24))]) hx hb dX0_read_80 hl (k := 2) rfl (nI_1 _) (by decide) rfl (fun ls hl => ?_)
          refine lv_goto (tgt := 46) hx hb dX0_read_83 (by decide) ?_
          exact ih_46 ((k + 1), v_13_0, v_13_1, v_12_0, v_12_1, v_12_2, v_12_3, v_12_4) ⟨by omega, zz_ri_step (by omega) bt_11 hF e0 e1 e_12.1 e_12.2 e_13⟩ (show nt - (k + 1) < nt - k from by omega) _ _ _ (hP.sub [4, 1, 0, 2, 3] rfl) (hD.sub [4, 1, 0, 2, 3] (by decide) rfl) hS (lv_sub hl [1, 2, 0] rfl)
        · refine zz_seti 0 er_11 ?_
          refine lv_if_eq (tgt := 80) hx hb dX0_read_66 (by decide) (fun _ => ?_) (fun c_9 => absurd c_9 (by decide))
          refine lv_iinc (v := (nI (k + 1))) (lv' := [(2, .int (nI (k + 1))), (0, .ref (a 26)), (1, .ref (a 24))]) hx hb dX0_read_80 hl (k := 2) rfl (nI_1 _) (by decide) rfl (fun ls hl => ?_)
          refine lv_goto (tgt := 46) hx hb dX0_read_83 (by decide) ?_
          exact ih_46 ((k + 1), d0, d1, d2, d3, d4, d5, gd) ⟨by omega, Or.inl ⟨e0, e1, q, iq, (zz_R_no (by omega) bt_11).symm.trans hF⟩⟩ (show nt - (k + 1) < nt - k from by omega) _ _ _ (hP.sub [0, 1, 2, 3, 4] rfl) (hD.sub [0, 1, 2, 3, 4] (by decide) rfl) hS (lv_sub hl [1, 2, 0] rfl)
      · exact absurd c_8 e0
set_option maxHeartbeats 4000000 in
set_option maxRecDepth 100000 in
theorem kx_custom (l : Launch) (dC : Nat → ClassId) (dI : Nat → Nat → Nat) (a : Nat → Nat) (nh : Nat) (nf : Nat) (clk : Int32) (hi : Int32) (b0 : Nat) (b1 : Nat) (b2 : Nat) (adK : Nat → Nat) (adV : Nat → Nat) (cI : ClassId) (nt : Nat) (fb : Nat → Int32) (cu0 : Int32) (cu1 : Int32) (cu2 : Int32) (cu3 : Int32) (cu4 : Int32) (cu5 : Int32) (fdr : Nat → Int32) (ft : Nat → Int32) (sz : Nat) (hnt : nt ≤ 200) : Met l yX7_custom (zz_w yX7_custom cX7_custom 2 (some .int)) ({ frames := 9, cells := 0, slots := 0, locals := 197 }) (va_Pc [.ref (a 0)] (zz_BG (dC, dI) sz b0 b1 b2 adK adV [(a 0, .inr (7, [.ref (a 1), .ref (a 10), .ref (a 23), .ref (a 24), .ref (a 26), .ref (a 29), .ref (a 34), .ref (a 43), .int (nI nh), .int (nI nf), .int clk, .int hi])), (a 26, .inr (0, [.ref (a 27), .ref (a 28), .int cu0, .int cu1, .int cu2, .int cu3, .int cu4, .int cu5])), (a 28, .inl (cI, 7, .inl fdr)), (a 27, .inl (cI, 7, .inl ft)), (a 24, .inr (6, [.ref (a 25), .int (nI nt)])), (a 25, .inl (cI, 200, .inl fb))] [(cI, .int)] [(a 0, .inr (7, [.ref (a 1), .ref (a 10), .ref (a 23), .ref (a 24), .ref (a 26), .ref (a 29), .ref (a 34), .ref (a 43), .int (nI nh), .int (nI nf), .int clk, .int hi])), (a 26, .inr (0, [.ref (a 27), .ref (a 28), .int cu0, .int cu1, .int cu2, .int cu3, .int cu4, .int cu5])), (a 28, .inl (cI, 7, .inl fdr)), (a 27, .inl (cI, 7, .inl ft)), (a 24, .inr (6, [.ref (a 25), .int (nI nt)])), (a 25, .inl (cI, 200, .inl fb))])) (va_Qi (fun (r : Int32) (u : Int32 × Int32 × Int32 × Int32 × Int32 × Int32 × (Nat → Int32) × (Nat → Int32)) => match u with | (d0, d1, _, _, _, _, _, f2) => zz_rp (zz_R (zz_cs fb nt) nt 0 ((1, 0, (fun _ => false), 0, zz_un) : zz_Q)) r d0 d1 ft f2) (fun (u : Int32 × Int32 × Int32 × Int32 × Int32 × Int32 × (Nat → Int32) × (Nat → Int32)) (t : State) => match u with | (u0, u1, u2, u3, u4, u5, u6, u7) => va_P (dC, dI) vwCl [(a 0, .inr (7, [.ref (a 1), .ref (a 10), .ref (a 23), .ref (a 24), .ref (a 26), .ref (a 29), .ref (a 34), .ref (a 43), .int (nI nh), .int (nI nf), .int clk, .int hi])), (a 26, .inr (0, [.ref (a 27), .ref (a 28), .int u0, .int u1, .int u2, .int u3, .int u4, .int u5])), (a 28, .inl (cI, 7, .inl u6)), (a 27, .inl (cI, 7, .inl u7)), (a 24, .inr (6, [.ref (a 25), .int (nI 0)])), (a 25, .inl (cI, 200, .inl fb))] t.heap ∧ va_K (dC, dI) vwCl [(cI, .int)] t ∧ va_D (va_A [(a 0, .inr (7, [.ref (a 1), .ref (a 10), .ref (a 23), .ref (a 24), .ref (a 26), .ref (a 29), .ref (a 34), .ref (a 43), .int (nI nh), .int (nI nf), .int clk, .int hi])), (a 26, .inr (0, [.ref (a 27), .ref (a 28), .int cu0, .int cu1, .int cu2, .int cu3, .int cu4, .int cu5])), (a 28, .inl (cI, 7, .inl fdr)), (a 27, .inl (cI, 7, .inl ft)), (a 24, .inr (6, [.ref (a 25), .int (nI nt)])), (a 25, .inl (cI, 200, .inl fb))] sz) [(a 0, .inr (7, [.ref (a 1), .ref (a 10), .ref (a 23), .ref (a 24), .ref (a 26), .ref (a 29), .ref (a 34), .ref (a 43), .int (nI nh), .int (nI nf), .int clk, .int hi])), (a 26, .inr (0, [.ref (a 27), .ref (a 28), .int u0, .int u1, .int u2, .int u3, .int u4, .int u5])), (a 28, .inl (cI, 7, .inl u6)), (a 27, .inl (cI, 7, .inl u7)), (a 24, .inr (6, [.ref (a 25), .int (nI 0)])), (a 25, .inl (cI, 200, .inl fb))]) (va_A [(a 0, .inr (7, [.ref (a 1), .ref (a 10), .ref (a 23), .ref (a 24), .ref (a 26), .ref (a 29), .ref (a 34), .ref (a 43), .int (nI nh), .int (nI nf), .int clk, .int hi])), (a 26, .inr (0, [.ref (a 27), .ref (a 28), .int cu0, .int cu1, .int cu2, .int cu3, .int cu4, .int cu5])), (a 28, .inl (cI, 7, .inl fdr)), (a 27, .inl (cI, 7, .inl ft)), (a 24, .inr (6, [.ref (a 25), .int (nI nt)])), (a 25, .inl (cI, 200, .inl fb))] sz)) 0 0 (va_A [(a 0, .inr (7, [.ref (a 1), .ref (a 10), .ref (a 23), .ref (a 24), .ref (a 26), .ref (a 29), .ref (a 34), .ref (a 43), .int (nI nh), .int (nI nf), .int clk, .int hi])), (a 26, .inr (0, [.ref (a 27), .ref (a 28), .int cu0, .int cu1, .int cu2, .int cu3, .int cu4, .int cu5])), (a 28, .inl (cI, 7, .inl fdr)), (a 27, .inl (cI, 7, .inl ft)), (a 24, .inr (6, [.ref (a 25), .int (nI nt)])), (a 25, .inl (cI, 200, .inl fb))] sz) := by
  refine Met.ofW (cc := cX7_custom) (maxL := 2) (ret := (some .int)) (by decide) rfl ?_
  intro p e s m args below meth c s₁ B hml hv
  obtain ⟨rfl, ⟨hsz, hP, hK, hD0, hN⟩, hU⟩ := hv
  have hx := B.exec
  have hb := B.bytes
  have hr := B.returns
  have hts := atoms_spec (ws := zz_w yX7_custom cX7_custom 2 (some .int)) B.pre
  have hw : ∀ w ∈ zz_all, w.before _ s = true := fun w h => hts w (List.mem_cons_of_mem _ h)
  have hown : s.vm.findClass RX7 = some m.cls := findClass_of_methodNamed B.named
  have hlocks := B.notSynchronized
  subst hsz
  have hD := hD0.self (sz := s.heap.size)
  generalize hAe : va_A [(a 0, .inr (7, [.ref (a 1), .ref (a 10), .ref (a 23), .ref (a 24), .ref (a 26), .ref (a 29), .ref (a 34), .ref (a 43), .int (nI nh), .int (nI nf), .int clk, .int hi])), (a 26, .inr (0, [.ref (a 27), .ref (a 28), .int cu0, .int cu1, .int cu2, .int cu3, .int cu4, .int cu5])), (a 28, .inl (cI, 7, .inl fdr)), (a 27, .inl (cI, 7, .inl ft)), (a 24, .inr (6, [.ref (a 25), .int (nI nt)])), (a 25, .inl (cI, 200, .inl fb))] s.heap.size = A at hD hU ⊢
  have hA : ∀ q : Nat, s.heap.size ≤ q → A q := fun q h => by rw [← hAe]; exact Or.inr h
  have hS : va_S A s.heap s.heap [] := va_S.rf
  have hP : va_P (dC, dI) vwCl [(a 0, .inr (7, [.ref (a 1), .ref (a 10), .ref (a 23), .ref (a 24), .ref (a 26), .ref (a 29), .ref (a 34), .ref (a 43), .int (nI nh), .int (nI nf), .int clk, .int hi])), (a 26, .inr (0, [.ref (a 27), .ref (a 28), .int cu0, .int cu1, .int cu2, .int cu3, .int cu4, .int cu5])), (a 28, .inl (cI, 7, .inl fdr)), (a 27, .inl (cI, 7, .inl ft)), (a 24, .inr (6, [.ref (a 25), .int (nI nt)])), (a 25, .inl (cI, 200, .inl fb))] s.heap := hP
  have hl := lv_entry ([.ref (a 0)]) (n := 2) (Nat.le_of_ble_eq_true rfl)
  rw [lg_entry_eq]
  generalize (lg_sl ([.ref (a 0)]) ++ List.replicate (2 - (lg_sl ([.ref (a 0)])).length) Slot.unset).toArray = ls at hl ⊢
  have hl : lv_has ls 2 [(0, .ref (a 0))] := hl
  refine lv_aload_n hx hb dX7_custom_0 rfl (lv_at hl 0 rfl) ?_
  refine va_get (D := (dC, dI)) (ci := 7) (v := .ref (a 26)) (C := RX7) (T := TX7) (N := 12) hx hb hw zz_inX7 hown hK hP 0 rfl rfl 4 (by decide) (hw _ tw_45) (fun _ h9 => h9) rfl dX7_custom_1 ?_
  refine lv_aload_n hx hb dX7_custom_4 rfl (lv_at hl 0 rfl) ?_
  refine va_get (D := (dC, dI)) (ci := 7) (v := .ref (a 24)) (C := RX7) (T := TX7) (N := 12) hx hb hw zz_inX7 hown hK hP 0 rfl rfl 3 (by decide) (hw _ tw_97) (fun _ h9 => h9) rfl dX7_custom_5 ?_
  obtain ⟨hPc, hDc⟩ := zz_sub2 (ws' := [(a 26, .inr (0, [.ref (a 27), .ref (a 28), .int cu0, .int cu1, .int cu2, .int cu3, .int cu4, .int cu5])), (a 28, .inl (cI, 7, .inl fdr)), (a 27, .inl (cI, 7, .inl ft)), (a 24, .inr (6, [.ref (a 25), .int (nI nt)])), (a 25, .inl (cI, 200, .inl fb))]) hP hD [1, 2, 3, 4, 5] (by decide) rfl
  have hKc := hK.sub (tys' := [(cI, .int)]) [0] rfl
  have hFc := zz_free1 hDc hS hA
  refine va_calli (va_runVN (As := [.ref (a 24)]) (rest := []) ⟨hx, hb, hml, hown, hw⟩ (kx_read l dC dI b0 b1 b2 adK adV a cI nt fb cu0 cu1 cu2 cu3 cu4 cu5 fdr ft s.heap.size (by omega)) ⟨va_cnB 1 hw (zz_good tw_412) rfl rfl rfl (hN.1 _ zz_n47) (hw _ tw_357) (by decide +kernel) ⟨Nat.le_of_ble_eq_true rfl, Nat.le_of_ble_eq_true rfl⟩, (hw _ tw_413), (hw _ tw_414)⟩ ⟨zz_blindG, va_recv hKc hPc (ci := 0) (q0 := 0) rfl rfl, zz_preG hPc hKc hDc hN hU hS hFc⟩ rfl rfl hl.1 rfl (lv_room (Nat.le_of_ble_eq_true rfl)) dX7_custom_8 ⟨Nat.le_of_ble_eq_true rfl, Nat.le_of_ble_eq_true rfl⟩) hS (fun q _ h => hFc q h) hFc (fun r_1 u_1 t H1 locs ht hvm e_1 hB hz1 hk1 hS => ?_)
  try dsimp only at e_1
  obtain ⟨v_1_0, v_1_1, v_1_2, v_1_3, v_1_4, v_1_5, v_1_6, v_1_7⟩ := u_1
  obtain ⟨hP1, hK1, hD1⟩ := hB
  rw [ht] at hP1
  have hK1 := va_K.moved hvm.symm hK1
  try dsimp only at e_1
  obtain ⟨hP, hD⟩ := va_join (wr := [(a 0, .inr (7, [.ref (a 1), .ref (a 10), .ref (a 23), .ref (a 24), .ref (a 26), .ref (a 29), .ref (a 34), .ref (a 43), .int (nI nh), .int (nI nf), .int clk, .int hi]))]) (w1 := [(a 26, .inr (0, [.ref (a 27), .ref (a 28), .int v_1_0, .int v_1_1, .int v_1_2, .int v_1_3, .int v_1_4, .int v_1_5])), (a 28, .inl (cI, 7, .inl v_1_6)), (a 27, .inl (cI, 7, .inl v_1_7)), (a 24, .inr (6, [.ref (a 25), .int (nI nt)])), (a 25, .inl (cI, 200, .inl fb))]) hP hD [1, 2, 3, 4, 5] [0] rfl rfl (by decide) (by decide) hk1 hFc hP1 hD1
  clear hk1 ht hvm
  generalize H1 = H at hP hS ⊢
  obtain ⟨hP, hD⟩ := zz_ty (D := (dC, dI)) (cl := vwCl) (A := A) (H := H) [(a 0, .inr (7, [.ref (a 1), .ref (a 10), .ref (a 23), .ref (a 24), .ref (a 26), .ref (a 29), .ref (a 34), .ref (a 43), .int (nI nh), .int (nI nf), .int clk, .int hi])), (a 26, .inr (0, [.ref (a 27), .ref (a 28), .int v_1_0, .int v_1_1, .int v_1_2, .int v_1_3, .int v_1_4, .int v_1_5])), (a 28, .inl (cI, 7, .inl v_1_6)), (a 27, .inl (cI, 7, .inl v_1_7)), (a 24, .inr (6, [.ref (a 25), .int (nI nt)])), (a 25, .inl (cI, 200, .inl fb))] hP hD rfl
  refine lv_istore_n (lv' := [(1, .int r_1), (0, .ref (a 0))]) hx hb dX7_custom_11 rfl hl (by decide) rfl (fun ls hl => ?_)
  refine lv_aload_n hx hb dX7_custom_12 rfl (lv_at hl 1 rfl) ?_
  refine va_get (D := (dC, dI)) (ci := 7) (v := .ref (a 24)) (C := RX7) (T := TX7) (N := 12) hx hb hw zz_inX7 hown hK hP 0 rfl rfl 3 (by decide) (hw _ tw_97) (fun _ h9 => h9) rfl dX7_custom_13 ?_
  refine lv_iconst (v := 0) hx hb dX7_custom_16 (by decide) ?_
  refine va_putN (D := (dC, dI)) (ci := 6) (v := .int 0) (ty := .int) (C := RX6) (T := TX6) (N := 2) hx hb hw zz_inX6 tyX6 tyX6_ok nmX6 hown hK hP hD hS 4 rfl rfl 1 (by decide) (hN.use zz_n23) (fun _ h9 => h9) rfl (by decide +kernel) rfl rfl (Nat.le_of_ble_eq_true rfl) dX7_custom_17 (fun H locs hP hD hS => ?_)
  obtain ⟨hP, hD⟩ := zz_ty (D := (dC, dI)) (cl := vwCl) (A := A) (H := H) [(a 0, .inr (7, [.ref (a 1), .ref (a 10), .ref (a 23), .ref (a 24), .ref (a 26), .ref (a 29), .ref (a 34), .ref (a 43), .int (nI nh), .int (nI nf), .int clk, .int hi])), (a 26, .inr (0, [.ref (a 27), .ref (a 28), .int v_1_0, .int v_1_1, .int v_1_2, .int v_1_3, .int v_1_4, .int v_1_5])), (a 28, .inl (cI, 7, .inl v_1_6)), (a 27, .inl (cI, 7, .inl v_1_7)), (a 24, .inr (6, [.ref (a 25), .int 0])), (a 25, .inl (cI, 200, .inl fb))] hP hD rfl
  refine lv_iload_n hx hb dX7_custom_20 rfl (lv_at hl 0 rfl) ?_
  obtain ⟨hP9, hD9⟩ := zz_sub2 (ws' := [(a 0, .inr (7, [.ref (a 1), .ref (a 10), .ref (a 23), .ref (a 24), .ref (a 26), .ref (a 29), .ref (a 34), .ref (a 43), .int (nI nh), .int (nI nf), .int clk, .int hi])), (a 26, .inr (0, [.ref (a 27), .ref (a 28), .int v_1_0, .int v_1_1, .int v_1_2, .int v_1_3, .int v_1_4, .int v_1_5])), (a 28, .inl (cI, 7, .inl v_1_6)), (a 27, .inl (cI, 7, .inl v_1_7)), (a 24, .inr (6, [.ref (a 25), .int 0])), (a 25, .inl (cI, 200, .inl fb))]) hP hD [0, 1, 2, 3, 4, 5] (by decide) rfl
  have hK9 := hK.sub (tys' := [(cI, .int)]) [0] rfl
  exact W.iret (v := r_1) hx hb hr (fun t ht hW => ⟨⟨r_1, (v_1_0, v_1_1, v_1_2, v_1_3, v_1_4, v_1_5, v_1_6, v_1_7), rfl, e_1, by rw [ht]; exact hP9, va_K.moved hW.alike hK9, hD9⟩, hS.F ht⟩) hS.2.2 dX7_custom_21
