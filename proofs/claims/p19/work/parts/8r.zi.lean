theorem zz_tns {fo fc fu h1 : Nat → Int32} {i nd : Nat} {bu : Int} (hn : nd ≤ 300) (hu : zz_rg fu nd 0 bu) (hb : bu ≤ 3100000) (ho : 0 ≤ (fo i).toInt ∧ (fo i).toInt ≤ 7) (hc : 0 ≤ (fc i).toInt ∧ (fc i).toInt ≤ 7) (hi : i < nd) (ih : ∀ h : Nat, h < 8 → (h1 h).toInt = zz_nt fo fc fu h i) : ∀ h : Nat, h < 8 → ((upd (upd h1 (Int32.toNatClampNeg (fo i)) ((h1 (Int32.toNatClampNeg (fo i))) - (fu i))) (Int32.toNatClampNeg (fc i)) (((upd h1 (Int32.toNatClampNeg (fo i)) ((h1 (Int32.toNatClampNeg (fo i))) - (fu i))) (Int32.toNatClampNeg (fc i))) + (fu i))) h).toInt = zz_nt fo fc fu h (i + 1) := by
  intro h hh
  have bo := zz_back ho.1
  have bc := zz_back hc.1
  have lo : Int32.toNatClampNeg (fo i) < 8 := by have := zz_clN ho.1; omega
  have lc : Int32.toNatClampNeg (fc i) < 8 := by have := zz_clN hc.1; omega
  generalize hO : Int32.toNatClampNeg (fo i) = o at bo lo ⊢
  generalize hC : Int32.toNatClampNeg (fc i) = c at bc lc ⊢
  have uo : ∀ x : Nat, x < 8 → (fo i = nI x ↔ x = o) := fun x hx => ⟨fun z => by rw [bo] at z; exact (zz_nI_inj (by omega) (by omega) z).symm, fun z => by rw [z]; exact bo⟩
  have uc : ∀ x : Nat, x < 8 → (fc i = nI x ↔ x = c) := fun x hx => ⟨fun z => by rw [bc] at z; exact (zz_nI_inj (by omega) (by omega) z).symm, fun z => by rw [z]; exact bc⟩
  have r := hu i hi
  have kb := fun x : Nat => zz_nt_b (mo := fo) (mr := fc) (h := x) hu hb i (by omega)
  have sb : ∀ x : Nat, x < 8 → (h1 x - fu i).toInt = (h1 x).toInt - (fu i).toInt := fun x hx => by
    have := kb x; have e := ih x hx
    rw [Int32.toInt_sub]
    rw [Int.bmod_eq_of_le] <;> omega
  have ad : ∀ x : Nat, x < 8 → (h1 x + fu i).toInt = (h1 x).toInt + (fu i).toInt := fun x hx => by
    have := kb x; have e := ih x hx
    rw [Int32.toInt_add]
    rw [Int.bmod_eq_of_le] <;> omega
  rw [zz_nt]
  by_cases e1 : h = c
  · rw [e1, zz_up_s, if_pos ((uc c lc).mpr rfl)]
    by_cases e2 : c = o
    · rw [e2, zz_up_s, Int32.sub_add_cancel, if_pos ((uo o lo).mpr rfl), ih o lo]; omega
    · rw [zz_up_n e2, ad c lc, if_neg (fun z => e2 ((uo c lc).mp z)), ih c lc]; omega
  · rw [zz_up_n e1, if_neg (fun z => e1 ((uc h hh).mp z))]
    by_cases e2 : h = o
    · rw [e2, zz_up_s, sb o lo, if_pos ((uo o lo).mpr rfl), ih o lo]; omega
    · rw [zz_up_n e2, if_neg (fun z => e2 ((uo h hh).mp z)), ih h hh]; omega
theorem zz_cpe {g e : Nat → Int32} {j : Nat} (h : ∀ i : Nat, i < j → g i = e i) (hj : g j = e j) : ∀ i : Nat, i < j + 1 → g i = e i := by
  intro i hi
  by_cases q : i = j
  · rw [q]; exact hj
  · exact h i (by omega)
set_option maxHeartbeats 4000000 in
set_option maxRecDepth 100000 in
theorem kx_takeNets (l : Launch) (dC : Nat → ClassId) (dI : Nat → Nat → Nat) (a : Nat → Nat) (cI : ClassId) (ne : Nat) (e0 : Nat → Int32) (e1 : Nat → Int32) (nd : Nat) (fo : Nat → Int32) (fc : Nat → Int32) (fs : Nat → Int32) (fu : Nat → Int32) (bu : Int) (sz : Nat) (hnd : nd ≤ 300) (hrd : zz_rg fo nd 0 7) (hrc : zz_rg fc nd 0 7) (hru : zz_rg fu nd 0 bu) (hbu : 0 ≤ bu ∧ bu ≤ 3100000) : Met l yX2_takeNets (zz_w yX2_takeNets cX2_takeNets 4 (some .boolean)) ({ frames := 1, cells := 0, slots := 0, locals := 22 }) (va_Pc [.ref (a 34), .ref (a 29)] (zz_B (dC, dI) sz [(a 34, .inr (2, [.ref (a 35), .ref (a 36), .ref (a 37), .ref (a 38), .ref (a 39), .ref (a 40), .ref (a 41), .ref (a 42), .int (nI ne)])), (a 35, .inl (cI, 8, .inl e0)), (a 36, .inl (cI, 8, .inl e1)), (a 29, .inr (1, [.ref (a 30), .ref (a 31), .ref (a 32), .ref (a 33), .int (nI nd)])), (a 30, .inl (cI, 300, .inl fo)), (a 31, .inl (cI, 300, .inl fc)), (a 32, .inl (cI, 300, .inl fs)), (a 33, .inl (cI, 300, .inl fu))] [(cI, .int)])) (va_Qi (fun (r : Int32) (u : (Nat → Int32) × (Nat → Int32)) => match u with | (u0, u1) => (r = 0 ∧ (∀ h : Nat, h < 8 → (u0 h).toInt = zz_nt fo fc fu h nd) ∧ u0 = e0) ∨ (r = 1 ∧ ∀ h : Nat, h < 8 → (u0 h).toInt = zz_nt fo fc fu h nd)) (fun (u : (Nat → Int32) × (Nat → Int32)) (t : State) => match u with | (u0, u1) => va_P (dC, dI) vwCl [(a 34, .inr (2, [.ref (a 35), .ref (a 36), .ref (a 37), .ref (a 38), .ref (a 39), .ref (a 40), .ref (a 41), .ref (a 42), .int (nI ne)])), (a 35, .inl (cI, 8, .inl u0)), (a 36, .inl (cI, 8, .inl u1)), (a 29, .inr (1, [.ref (a 30), .ref (a 31), .ref (a 32), .ref (a 33), .int (nI nd)])), (a 30, .inl (cI, 300, .inl fo)), (a 31, .inl (cI, 300, .inl fc)), (a 32, .inl (cI, 300, .inl fs)), (a 33, .inl (cI, 300, .inl fu))] t.heap ∧ va_K (dC, dI) vwCl [(cI, .int)] t ∧ va_D (va_A [(a 34, .inr (2, [.ref (a 35), .ref (a 36), .ref (a 37), .ref (a 38), .ref (a 39), .ref (a 40), .ref (a 41), .ref (a 42), .int (nI ne)])), (a 35, .inl (cI, 8, .inl e0)), (a 36, .inl (cI, 8, .inl e1)), (a 29, .inr (1, [.ref (a 30), .ref (a 31), .ref (a 32), .ref (a 33), .int (nI nd)])), (a 30, .inl (cI, 300, .inl fo)), (a 31, .inl (cI, 300, .inl fc)), (a 32, .inl (cI, 300, .inl fs)), (a 33, .inl (cI, 300, .inl fu))] sz) [(a 34, .inr (2, [.ref (a 35), .ref (a 36), .ref (a 37), .ref (a 38), .ref (a 39), .ref (a 40), .ref (a 41), .ref (a 42), .int (nI ne)])), (a 35, .inl (cI, 8, .inl u0)), (a 36, .inl (cI, 8, .inl u1)), (a 29, .inr (1, [.ref (a 30), .ref (a 31), .ref (a 32), .ref (a 33), .int (nI nd)])), (a 30, .inl (cI, 300, .inl fo)), (a 31, .inl (cI, 300, .inl fc)), (a 32, .inl (cI, 300, .inl fs)), (a 33, .inl (cI, 300, .inl fu))]) (va_A [(a 34, .inr (2, [.ref (a 35), .ref (a 36), .ref (a 37), .ref (a 38), .ref (a 39), .ref (a 40), .ref (a 41), .ref (a 42), .int (nI ne)])), (a 35, .inl (cI, 8, .inl e0)), (a 36, .inl (cI, 8, .inl e1)), (a 29, .inr (1, [.ref (a 30), .ref (a 31), .ref (a 32), .ref (a 33), .int (nI nd)])), (a 30, .inl (cI, 300, .inl fo)), (a 31, .inl (cI, 300, .inl fc)), (a 32, .inl (cI, 300, .inl fs)), (a 33, .inl (cI, 300, .inl fu))] sz)) 0 0 (va_A [(a 34, .inr (2, [.ref (a 35), .ref (a 36), .ref (a 37), .ref (a 38), .ref (a 39), .ref (a 40), .ref (a 41), .ref (a 42), .int (nI ne)])), (a 35, .inl (cI, 8, .inl e0)), (a 36, .inl (cI, 8, .inl e1)), (a 29, .inr (1, [.ref (a 30), .ref (a 31), .ref (a 32), .ref (a 33), .int (nI nd)])), (a 30, .inl (cI, 300, .inl fo)), (a 31, .inl (cI, 300, .inl fc)), (a 32, .inl (cI, 300, .inl fs)), (a 33, .inl (cI, 300, .inl fu))] sz) := by
  refine Met.ofW (cc := cX2_takeNets) (maxL := 4) (ret := (some .boolean)) (by decide) rfl ?_
  intro p e s m args below meth c s₁ B hml hv
  obtain ⟨rfl, hsz, hP, hK, hD0, hN⟩ := hv
  have hx := B.exec
  have hb := B.bytes
  have hr := B.returns
  have hts := atoms_spec (ws := zz_w yX2_takeNets cX2_takeNets 4 (some .boolean)) B.pre
  have hw : ∀ w ∈ zz_all, w.before _ s = true := fun w h => hts w (List.mem_cons_of_mem _ h)
  have hown : s.vm.findClass RX2 = some m.cls := findClass_of_methodNamed B.named
  have hlocks := B.notSynchronized
  subst hsz
  have hD := hD0.self (sz := s.heap.size)
  generalize hAe : va_A [(a 34, .inr (2, [.ref (a 35), .ref (a 36), .ref (a 37), .ref (a 38), .ref (a 39), .ref (a 40), .ref (a 41), .ref (a 42), .int (nI ne)])), (a 35, .inl (cI, 8, .inl e0)), (a 36, .inl (cI, 8, .inl e1)), (a 29, .inr (1, [.ref (a 30), .ref (a 31), .ref (a 32), .ref (a 33), .int (nI nd)])), (a 30, .inl (cI, 300, .inl fo)), (a 31, .inl (cI, 300, .inl fc)), (a 32, .inl (cI, 300, .inl fs)), (a 33, .inl (cI, 300, .inl fu))] s.heap.size = A at hD ⊢
  have hA : ∀ q : Nat, s.heap.size ≤ q → A q := fun q h => by rw [← hAe]; exact Or.inr h
  have hS : va_S A s.heap s.heap [] := va_S.rf
  have hP : va_P (dC, dI) vwCl [(a 34, .inr (2, [.ref (a 35), .ref (a 36), .ref (a 37), .ref (a 38), .ref (a 39), .ref (a 40), .ref (a 41), .ref (a 42), .int (nI ne)])), (a 35, .inl (cI, 8, .inl e0)), (a 36, .inl (cI, 8, .inl e1)), (a 29, .inr (1, [.ref (a 30), .ref (a 31), .ref (a 32), .ref (a 33), .int (nI nd)])), (a 30, .inl (cI, 300, .inl fo)), (a 31, .inl (cI, 300, .inl fc)), (a 32, .inl (cI, 300, .inl fs)), (a 33, .inl (cI, 300, .inl fu))] s.heap := hP
  have hl := lv_entry ([.ref (a 34), .ref (a 29)]) (n := 4) (Nat.le_of_ble_eq_true rfl)
  rw [lg_entry_eq]
  generalize (lg_sl ([.ref (a 34), .ref (a 29)]) ++ List.replicate (4 - (lg_sl ([.ref (a 34), .ref (a 29)])).length) Slot.unset).toArray = ls at hl ⊢
  have hl : lv_has ls 4 [(0, .ref (a 34)), (1, .ref (a 29))] := hl
  refine lv_iconst (v := 0) hx hb dX2_takeNets_0 (by decide) ?_
  refine lv_istore_n (lv' := [(2, .int 0), (0, .ref (a 34)), (1, .ref (a 29))]) hx hb dX2_takeNets_1 rfl hl (by decide) rfl (fun ls hl => ?_)
  refine lv_iconst (v := 0) hx hb dX2_takeNets_2 (by decide) ?_
  refine lv_istore_n (lv' := [(3, .int 0), (2, .int 0), (0, .ref (a 34)), (1, .ref (a 29))]) hx hb dX2_takeNets_3 rfl hl (by decide) rfl (fun ls hl => ?_)
  refine zz_loopS (fun (u : (Nat) × (Nat → Int32)) => match u with | (j, g1) => [(a 34, .inr (2, [.ref (a 35), .ref (a 36), .ref (a 37), .ref (a 38), .ref (a 39), .ref (a 40), .ref (a 41), .ref (a 42), .int (nI ne)])), (a 35, .inl (cI, 8, .inl e0)), (a 36, .inl (cI, 8, .inl g1)), (a 29, .inr (1, [.ref (a 30), .ref (a 31), .ref (a 32), .ref (a 33), .int (nI nd)])), (a 30, .inl (cI, 300, .inl fo)), (a 31, .inl (cI, 300, .inl fc)), (a 32, .inl (cI, 300, .inl fs)), (a 33, .inl (cI, 300, .inl fu))]) (fun (u : (Nat) × (Nat → Int32)) => match u with | (j, g1) => [(0, .ref (a 34)), (1, .ref (a 29)), (2, .int 0), (3, .int (nI j))]) (fun (u : (Nat) × (Nat → Int32)) => match u with | (j, g1) => j ≤ 8 ∧ ∀ h : Nat, h < j → g1 h = 0) (fun (u : (Nat) × (Nat → Int32)) => match u with | (j, g1) => 8 - j) (fun u hI H locs ls hP hD hS hl ih_4 => ?_) (0, e1) ⟨by omega, fun h hh => absurd hh (Nat.not_lt_zero _)⟩ _ _ _ (hP.sub [0, 1, 2, 3, 4, 5, 6, 7] rfl) (hD.sub [0, 1, 2, 3, 4, 5, 6, 7] (by decide) rfl) hS (lv_sub hl [2, 3, 1, 0] rfl)
  obtain ⟨j, g1⟩ := u
  obtain ⟨hP, hD⟩ := zz_ty (D := (dC, dI)) (cl := vwCl) (A := A) (H := H) [(a 34, .inr (2, [.ref (a 35), .ref (a 36), .ref (a 37), .ref (a 38), .ref (a 39), .ref (a 40), .ref (a 41), .ref (a 42), .int (nI ne)])), (a 35, .inl (cI, 8, .inl e0)), (a 36, .inl (cI, 8, .inl g1)), (a 29, .inr (1, [.ref (a 30), .ref (a 31), .ref (a 32), .ref (a 33), .int (nI nd)])), (a 30, .inl (cI, 300, .inl fo)), (a 31, .inl (cI, 300, .inl fc)), (a 32, .inl (cI, 300, .inl fs)), (a 33, .inl (cI, 300, .inl fu))] hP hD rfl
  have hl : lv_has ls 4 [(0, .ref (a 34)), (1, .ref (a 29)), (2, .int 0), (3, .int (nI j))] := hl
  have hI : j ≤ 8 ∧ ∀ h : Nat, h < j → g1 h = 0 := hI
  obtain ⟨ij, ig⟩ := hI
  refine lv_iload_n hx hb dX2_takeNets_4 rfl (lv_at hl 3 rfl) ?_
  refine lv_bipush (v := 8) hx hb dX2_takeNets_5 (by decide) ?_
  refine lv_icmp_ge (tgt := 23) hx hb dX2_takeNets_7 (by decide) (fun c_1 => ?_) (fun c_1 => ?_)
  · have zc_1 := c_1
    rw [Int32.le_iff_toInt_le] at zc_1
    try rw [zz_toInt j (by omega)] at zc_1
    try rw [show (8 : Int32).toInt = 8 from by decide] at zc_1
    refine lv_iconst (v := 0) hx hb dX2_takeNets_23 (by decide) ?_
    refine lv_istore_n (lv' := [(3, .int 0), (0, .ref (a 34)), (1, .ref (a 29)), (2, .int 0)]) hx hb dX2_takeNets_24 rfl hl (by decide) rfl (fun ls hl => ?_)
    refine zz_loopS (fun (u : (Nat) × (Nat → Int32)) => match u with | (i, h1) => [(a 34, .inr (2, [.ref (a 35), .ref (a 36), .ref (a 37), .ref (a 38), .ref (a 39), .ref (a 40), .ref (a 41), .ref (a 42), .int (nI ne)])), (a 35, .inl (cI, 8, .inl e0)), (a 36, .inl (cI, 8, .inl h1)), (a 29, .inr (1, [.ref (a 30), .ref (a 31), .ref (a 32), .ref (a 33), .int (nI nd)])), (a 30, .inl (cI, 300, .inl fo)), (a 31, .inl (cI, 300, .inl fc)), (a 32, .inl (cI, 300, .inl fs)), (a 33, .inl (cI, 300, .inl fu))]) (fun (u : (Nat) × (Nat → Int32)) => match u with | (i, h1) => [(0, .ref (a 34)), (1, .ref (a 29)), (2, .int 0), (3, .int (nI i))]) (fun (u : (Nat) × (Nat → Int32)) => match u with | (i, h1) => i ≤ nd ∧ ∀ h : Nat, h < 8 → (h1 h).toInt = zz_nt fo fc fu h i) (fun (u : (Nat) × (Nat → Int32)) => match u with | (i, h1) => nd - i) (fun u hI H locs ls hP hD hS hl ih_25 => ?_) (0, g1) ⟨by omega, fun h hh => (by rw [ig h (by omega)]; show (0 : Int32).toInt = 0; decide)⟩ _ _ _ (hP.sub [0, 1, 2, 3, 4, 5, 6, 7] rfl) (hD.sub [0, 1, 2, 3, 4, 5, 6, 7] (by decide) rfl) hS (lv_sub hl [1, 2, 3, 0] rfl)
    obtain ⟨i, h1⟩ := u
    obtain ⟨hP, hD⟩ := zz_ty (D := (dC, dI)) (cl := vwCl) (A := A) (H := H) [(a 34, .inr (2, [.ref (a 35), .ref (a 36), .ref (a 37), .ref (a 38), .ref (a 39), .ref (a 40), .ref (a 41), .ref (a 42), .int (nI ne)])), (a 35, .inl (cI, 8, .inl e0)), (a 36, .inl (cI, 8, .inl h1)), (a 29, .inr (1, [.ref (a 30), .ref (a 31), .ref (a 32), .ref (a 33), .int (nI nd)])), (a 30, .inl (cI, 300, .inl fo)), (a 31, .inl (cI, 300, .inl fc)), (a 32, .inl (cI, 300, .inl fs)), (a 33, .inl (cI, 300, .inl fu))] hP hD rfl
    have hl : lv_has ls 4 [(0, .ref (a 34)), (1, .ref (a 29)), (2, .int 0), (3, .int (nI i))] := hl
    have hI : i ≤ nd ∧ ∀ h : Nat, h < 8 → (h1 h).toInt = zz_nt fo fc fu h i := hI
    obtain ⟨ii, ih⟩ := hI
    refine lv_iload_n hx hb dX2_takeNets_25 rfl (lv_at hl 3 rfl) ?_
    refine lv_aload_n hx hb dX2_takeNets_26 rfl (lv_at hl 1 rfl) ?_
    refine va_getN (D := (dC, dI)) (ci := 1) (v := .int (nI nd)) (C := RX1) (T := TX1) (N := 5) hx hb hw zz_inX1 hown hK hP 3 rfl rfl 4 (by decide) (hN.use zz_n36) (fun _ h9 => h9) rfl dX2_takeNets_27 ?_
    refine lv_icmp_ge (tgt := 109) hx hb dX2_takeNets_30 (by decide) (fun c_2 => ?_) (fun c_2 => ?_)
    · have zc_2 := c_2
      rw [Int32.le_iff_toInt_le] at zc_2
      try rw [zz_toInt i (by omega)] at zc_2
      try rw [zz_toInt nd (by omega)] at zc_2
      refine lv_iconst (v := 0) hx hb dX2_takeNets_109 (by decide) ?_
      refine lv_istore_n (lv' := [(3, .int 0), (0, .ref (a 34)), (1, .ref (a 29)), (2, .int 0)]) hx hb dX2_takeNets_110 rfl hl (by decide) rfl (fun ls hl => ?_)
      refine zz_loopS (fun (u : (Nat) × (Int32) × (Nat → Int32)) => match u with | (k, y, h0) => [(a 34, .inr (2, [.ref (a 35), .ref (a 36), .ref (a 37), .ref (a 38), .ref (a 39), .ref (a 40), .ref (a 41), .ref (a 42), .int (nI ne)])), (a 35, .inl (cI, 8, .inl h0)), (a 36, .inl (cI, 8, .inl h1)), (a 29, .inr (1, [.ref (a 30), .ref (a 31), .ref (a 32), .ref (a 33), .int (nI nd)])), (a 30, .inl (cI, 300, .inl fo)), (a 31, .inl (cI, 300, .inl fc)), (a 32, .inl (cI, 300, .inl fs)), (a 33, .inl (cI, 300, .inl fu))]) (fun (u : (Nat) × (Int32) × (Nat → Int32)) => match u with | (k, y, h0) => [(0, .ref (a 34)), (1, .ref (a 29)), (2, .int y), (3, .int (nI k))]) (fun (u : (Nat) × (Int32) × (Nat → Int32)) => match u with | (k, y, h0) => k ≤ 8 ∧ ((y = 0 ∧ h0 = e0) ∨ y = 1) ∧ ∀ h : Nat, h < k → h0 h = h1 h) (fun (u : (Nat) × (Int32) × (Nat → Int32)) => match u with | (k, y, h0) => 8 - k) (fun u hI H locs ls hP hD hS hl ih_111 => ?_) (0, 0, e0) ⟨by omega, Or.inl ⟨rfl, rfl⟩, fun h hh => absurd hh (Nat.not_lt_zero _)⟩ _ _ _ (hP.sub [0, 1, 2, 3, 4, 5, 6, 7] rfl) (hD.sub [0, 1, 2, 3, 4, 5, 6, 7] (by decide) rfl) hS (lv_sub hl [1, 2, 3, 0] rfl)
      obtain ⟨k, y, h0⟩ := u
      obtain ⟨hP, hD⟩ := zz_ty (D := (dC, dI)) (cl := vwCl) (A := A) (H := H) [(a 34, .inr (2, [.ref (a 35), .ref (a 36), .ref (a 37), .ref (a 38), .ref (a 39), .ref (a 40), .ref (a 41), .ref (a 42), .int (nI ne)])), (a 35, .inl (cI, 8, .inl h0)), (a 36, .inl (cI, 8, .inl h1)), (a 29, .inr (1, [.ref (a 30), .ref (a 31), .ref (a 32), .ref (a 33), .int (nI nd)])), (a 30, .inl (cI, 300, .inl fo)), (a 31, .inl (cI, 300, .inl fc)), (a 32, .inl (cI, 300, .inl fs)), (a 33, .inl (cI, 300, .inl fu))] hP hD rfl
      have hl : lv_has ls 4 [(0, .ref (a 34)), (1, .ref (a 29)), (2, .int y), (3, .int (nI k))] := hl
      have hI : k ≤ 8 ∧ ((y = 0 ∧ h0 = e0) ∨ y = 1) ∧ ∀ h : Nat, h < k → h0 h = h1 h := hI
      obtain ⟨ik, iy, ie⟩ := hI
      refine lv_iload_n hx hb dX2_takeNets_111 rfl (lv_at hl 3 rfl) ?_
      refine lv_bipush (v := 8) hx hb dX2_takeNets_112 (by decide) ?_
      refine lv_icmp_ge (tgt := 152) hx hb dX2_takeNets_114 (by decide) (fun c_3 => ?_) (fun c_3 => ?_)
      · have zc_3 := c_3
        rw [Int32.le_iff_toInt_le] at zc_3
        try rw [zz_toInt k (by omega)] at zc_3
        try rw [show (8 : Int32).toInt = 8 from by decide] at zc_3
        refine lv_iload_n hx hb dX2_takeNets_152 rfl (lv_at hl 2 rfl) ?_
        obtain ⟨hP9, hD9⟩ := zz_sub2 (ws' := [(a 34, .inr (2, [.ref (a 35), .ref (a 36), .ref (a 37), .ref (a 38), .ref (a 39), .ref (a 40), .ref (a 41), .ref (a 42), .int (nI ne)])), (a 35, .inl (cI, 8, .inl h0)), (a 36, .inl (cI, 8, .inl h1)), (a 29, .inr (1, [.ref (a 30), .ref (a 31), .ref (a 32), .ref (a 33), .int (nI nd)])), (a 30, .inl (cI, 300, .inl fo)), (a 31, .inl (cI, 300, .inl fc)), (a 32, .inl (cI, 300, .inl fs)), (a 33, .inl (cI, 300, .inl fu))]) hP hD [0, 1, 2, 3, 4, 5, 6, 7] (by decide) rfl
        have hK9 := hK.sub (tys' := [(cI, .int)]) [0] rfl
        exact W.zret (v := y) hx hb hr (zz_nz (iy.imp (fun h => h.1) id)) (fun t ht hW => ⟨⟨y, (h0, h1), rfl, (iy.elim (fun h9 => Or.inl ⟨h9.1, fun h hh => (by rw [ie h (by omega)]; rw [show nd = i from by omega]; exact ih h hh), h9.2⟩) (fun h9 => Or.inr ⟨h9, fun h hh => (by rw [ie h (by omega)]; rw [show nd = i from by omega]; exact ih h hh)⟩)), by rw [ht]; exact hP9, va_K.moved hW.alike hK9, hD9⟩, hS.F ht⟩) hS.2.2 dX2_takeNets_153
      · have zc_3 := c_3
        rw [Int32.le_iff_toInt_le] at zc_3
        try rw [zz_toInt k (by omega)] at zc_3
        try rw [show (8 : Int32).toInt = 8 from by decide] at zc_3
        refine lv_aload_n hx hb dX2_takeNets_117 rfl (lv_at hl 0 rfl) ?_
        refine va_get (D := (dC, dI)) (ci := 2) (v := .ref (a 35)) (C := RX2) (T := TX2) (N := 9) hx hb hw zz_inX2 hown hK hP 0 rfl rfl 0 (by decide) (hw _ tw_115) (fun _ h9 => h9) rfl dX2_takeNets_118 ?_
        refine lv_iload_n hx hb dX2_takeNets_121 rfl (lv_at hl 3 rfl) ?_
        refine va_iald hx hb hK hP 1 0 rfl rfl (vp_in_iff.mpr (by rw [zz_toInt k (by omega)]; constructor <;> omega)) dX2_takeNets_122 ?_
        refine zz_seti (h0 k) (congrArg h0 (zz_cl (by omega))) ?_
        refine lv_aload_n hx hb dX2_takeNets_123 rfl (lv_at hl 0 rfl) ?_
        refine va_get (D := (dC, dI)) (ci := 2) (v := .ref (a 36)) (C := RX2) (T := TX2) (N := 9) hx hb hw zz_inX2 hown hK hP 0 rfl rfl 1 (by decide) (hw _ tw_129) (fun _ h9 => h9) rfl dX2_takeNets_124 ?_
        refine lv_iload_n hx hb dX2_takeNets_127 rfl (lv_at hl 3 rfl) ?_
        refine va_iald hx hb hK hP 2 0 rfl rfl (vp_in_iff.mpr (by rw [zz_toInt k (by omega)]; constructor <;> omega)) dX2_takeNets_128 ?_
        refine zz_seti (h1 k) (congrArg h1 (zz_cl (by omega))) ?_
        refine lv_icmp_eq (tgt := 146) hx hb dX2_takeNets_129 (by decide) (fun c_4 => ?_) (fun c_4 => ?_)
        · have zc_4 := c_4
          rw [← Int32.toInt_inj] at zc_4
          refine lv_iinc (v := (nI (k + 1))) (lv' := [(3, .int (nI (k + 1))), (0, .ref (a 34)), (1, .ref (a 29)), (2, .int y)]) hx hb dX2_takeNets_146 hl (k := 3) rfl (nI_1 _) (by decide) rfl (fun ls hl => ?_)
          refine lv_goto (tgt := 111) hx hb dX2_takeNets_149 (by decide) ?_
          exact ih_111 ((k + 1), y, h0) ⟨by omega, iy, zz_cpe ie c_4⟩ (show 8 - (k + 1) < 8 - k from by omega) _ _ _ (hP.sub [0, 1, 2, 3, 4, 5, 6, 7] rfl) (hD.sub [0, 1, 2, 3, 4, 5, 6, 7] (by decide) rfl) hS (lv_sub hl [1, 2, 3, 0] rfl)
        · have zc_4 := c_4
          rw [← Int32.toInt_inj] at zc_4
          refine lv_aload_n hx hb dX2_takeNets_132 rfl (lv_at hl 0 rfl) ?_
          refine va_get (D := (dC, dI)) (ci := 2) (v := .ref (a 35)) (C := RX2) (T := TX2) (N := 9) hx hb hw zz_inX2 hown hK hP 0 rfl rfl 0 (by decide) (hw _ tw_115) (fun _ h9 => h9) rfl dX2_takeNets_133 ?_
          refine lv_iload_n hx hb dX2_takeNets_136 rfl (lv_at hl 3 rfl) ?_
          refine lv_aload_n hx hb dX2_takeNets_137 rfl (lv_at hl 0 rfl) ?_
          refine va_get (D := (dC, dI)) (ci := 2) (v := .ref (a 36)) (C := RX2) (T := TX2) (N := 9) hx hb hw zz_inX2 hown hK hP 0 rfl rfl 1 (by decide) (hw _ tw_129) (fun _ h9 => h9) rfl dX2_takeNets_138 ?_
          refine lv_iload_n hx hb dX2_takeNets_141 rfl (lv_at hl 3 rfl) ?_
          refine va_iald hx hb hK hP 2 0 rfl rfl (vp_in_iff.mpr (by rw [zz_toInt k (by omega)]; constructor <;> omega)) dX2_takeNets_142 ?_
          refine zz_seti (h1 k) (congrArg h1 (zz_cl (by omega))) ?_
          refine va_iast hx hb hK hP hD hS 1 0 rfl rfl (vp_in_iff.mpr (by rw [zz_toInt k (by omega)]; constructor <;> omega)) dX2_takeNets_143 (fun H locs hP hD hS => ?_)
          obtain ⟨hP, hD⟩ := zz_ty (D := (dC, dI)) (cl := vwCl) (A := A) (H := H) [(a 34, .inr (2, [.ref (a 35), .ref (a 36), .ref (a 37), .ref (a 38), .ref (a 39), .ref (a 40), .ref (a 41), .ref (a 42), .int (nI ne)])), (a 35, .inl (cI, 8, .inl (upd h0 (Int32.toNatClampNeg (nI k)) (h1 k)))), (a 36, .inl (cI, 8, .inl h1)), (a 29, .inr (1, [.ref (a 30), .ref (a 31), .ref (a 32), .ref (a 33), .int (nI nd)])), (a 30, .inl (cI, 300, .inl fo)), (a 31, .inl (cI, 300, .inl fc)), (a 32, .inl (cI, 300, .inl fs)), (a 33, .inl (cI, 300, .inl fu))] hP hD rfl
          refine lv_iconst (v := 1) hx hb dX2_takeNets_144 (by decide) ?_
          refine lv_istore_n (lv' := [(2, .int 1), (0, .ref (a 34)), (1, .ref (a 29)), (3, .int (nI k))]) hx hb dX2_takeNets_145 rfl hl (by decide) rfl (fun ls hl => ?_)
          refine lv_iinc (v := (nI (k + 1))) (lv' := [(3, .int (nI (k + 1))), (2, .int 1), (0, .ref (a 34)), (1, .ref (a 29))]) hx hb dX2_takeNets_146 hl (k := 3) rfl (nI_1 _) (by decide) rfl (fun ls hl => ?_)
          refine lv_goto (tgt := 111) hx hb dX2_takeNets_149 (by decide) ?_
          exact ih_111 ((k + 1), 1, (upd h0 (Int32.toNatClampNeg (nI k)) (h1 k))) ⟨by omega, Or.inr rfl, zz_cpx ie (by omega)⟩ (show 8 - (k + 1) < 8 - k from by omega) _ _ _ (hP.sub [0, 1, 2, 3, 4, 5, 6, 7] rfl) (hD.sub [0, 1, 2, 3, 4, 5, 6, 7] (by decide) rfl) hS (lv_sub hl [2, 3, 1, 0] rfl)
    · have zc_2 := c_2
      rw [Int32.le_iff_toInt_le] at zc_2
      try rw [zz_toInt i (by omega)] at zc_2
      try rw [zz_toInt nd (by omega)] at zc_2
      have zo := hrd i (by omega)
      have zc := hrc i (by omega)
      refine lv_aload_n hx hb dX2_takeNets_33 rfl (lv_at hl 1 rfl) ?_
      refine va_getN (D := (dC, dI)) (ci := 1) (v := .ref (a 30)) (C := RX1) (T := TX1) (N := 5) hx hb hw zz_inX1 hown hK hP 3 rfl rfl 0 (by decide) (hN.use zz_n30) (fun _ h9 => h9) rfl dX2_takeNets_34 ?_
      refine lv_iload_n hx hb dX2_takeNets_37 rfl (lv_at hl 3 rfl) ?_
      refine va_iald hx hb hK hP 4 0 rfl rfl (vp_in_iff.mpr (by rw [zz_toInt i (by omega)]; constructor <;> omega)) dX2_takeNets_38 ?_
      refine zz_seti (fo i) (congrArg fo (zz_cl (by omega))) ?_
      refine lv_iconst (v := 0) hx hb dX2_takeNets_39 (by decide) ?_
      refine lv_bipush (v := 7) hx hb dX2_takeNets_40 (by decide) ?_
      obtain ⟨hPc, hDc⟩ := zz_sub2 (ws' := []) hP hD [] (by decide) rfl
      have hKc := hK.sub (tys' := []) [] rfl
      have hFc := zz_free0 hS hA
      refine va_calli (va_runSN (As := [.int (fo i), .int 0, .int 7]) (rest := []) ⟨hx, hb, hml, hown, hw⟩ (k_within l dC dI (fo i) 0 7 H.size) ⟨va_cnB 3 hw (zz_good tw_1) rfl rfl rfl (hN.1 _ zz_n61) (hw _ tw_2) (by decide +kernel) ⟨Nat.le_of_ble_eq_true rfl, Nat.le_of_ble_eq_true rfl⟩, (hw _ tw_4), trivial⟩ ⟨zz_blind, zz_pre hPc hKc hDc hN⟩ rfl rfl hl.1 rfl (lv_room (Nat.le_of_ble_eq_true rfl)) dX2_takeNets_42 ⟨Nat.le_of_ble_eq_true rfl, Nat.le_of_ble_eq_true rfl⟩) hS (fun q _ h => hFc q h) hFc (fun r_5 u_5 t H1 locs ht hvm e_5 hB hz1 hk1 hS => ?_)
      try dsimp only at e_5
      have hP := zz_keep hP hk1
      clear hk1 hB ht hvm
      generalize H1 = H at hP hS ⊢
      refine lv_if_eq (tgt := 103) hx hb dX2_takeNets_45 (by decide) (fun c_6 => ?_) (fun c_6 => ?_)
      · have zc_6 := c_6
        rw [e_5, zz_in0, Int32.le_iff_toInt_le, Int32.le_iff_toInt_le] at zc_6
        try rw [show (0 : Int32).toInt = 0 from by decide] at zc_6
        try rw [show (7 : Int32).toInt = 7 from by decide] at zc_6
        refine lv_iinc (v := (nI (i + 1))) (lv' := [(3, .int (nI (i + 1))), (0, .ref (a 34)), (1, .ref (a 29)), (2, .int 0)]) hx hb dX2_takeNets_103 hl (k := 3) rfl (nI_1 _) (by decide) rfl (fun ls hl => ?_)
        refine lv_goto (tgt := 25) hx hb dX2_takeNets_106 (by decide) ?_
        exact ih_25 ((i + 1), h1) (by exfalso; omega) (show nd - (i + 1) < nd - i from by omega) _ _ _ (hP.sub [0, 1, 2, 3, 4, 5, 6, 7] rfl) (hD.sub [0, 1, 2, 3, 4, 5, 6, 7] (by decide) rfl) hS (lv_sub hl [1, 2, 3, 0] rfl)
      · have zc_6 := c_6
        rw [e_5, zz_in0, Int32.le_iff_toInt_le, Int32.le_iff_toInt_le] at zc_6
        try rw [show (0 : Int32).toInt = 0 from by decide] at zc_6
        try rw [show (7 : Int32).toInt = 7 from by decide] at zc_6
        refine lv_aload_n hx hb dX2_takeNets_48 rfl (lv_at hl 1 rfl) ?_
        refine va_getN (D := (dC, dI)) (ci := 1) (v := .ref (a 31)) (C := RX1) (T := TX1) (N := 5) hx hb hw zz_inX1 hown hK hP 3 rfl rfl 1 (by decide) (hN.use zz_n32) (fun _ h9 => h9) rfl dX2_takeNets_49 ?_
        refine lv_iload_n hx hb dX2_takeNets_52 rfl (lv_at hl 3 rfl) ?_
        refine va_iald hx hb hK hP 5 0 rfl rfl (vp_in_iff.mpr (by rw [zz_toInt i (by omega)]; constructor <;> omega)) dX2_takeNets_53 ?_
        refine zz_seti (fc i) (congrArg fc (zz_cl (by omega))) ?_
        refine lv_iconst (v := 0) hx hb dX2_takeNets_54 (by decide) ?_
        refine lv_bipush (v := 7) hx hb dX2_takeNets_55 (by decide) ?_
        obtain ⟨hPc, hDc⟩ := zz_sub2 (ws' := []) hP hD [] (by decide) rfl
        have hKc := hK.sub (tys' := []) [] rfl
        have hFc := zz_free0 hS hA
        refine va_calli (va_runSN (As := [.int (fc i), .int 0, .int 7]) (rest := []) ⟨hx, hb, hml, hown, hw⟩ (k_within l dC dI (fc i) 0 7 H.size) ⟨va_cnB 3 hw (zz_good tw_1) rfl rfl rfl (hN.1 _ zz_n61) (hw _ tw_2) (by decide +kernel) ⟨Nat.le_of_ble_eq_true rfl, Nat.le_of_ble_eq_true rfl⟩, (hw _ tw_4), trivial⟩ ⟨zz_blind, zz_pre hPc hKc hDc hN⟩ rfl rfl hl.1 rfl (lv_room (Nat.le_of_ble_eq_true rfl)) dX2_takeNets_57 ⟨Nat.le_of_ble_eq_true rfl, Nat.le_of_ble_eq_true rfl⟩) hS (fun q _ h => hFc q h) hFc (fun r_7 u_7 t H1 locs ht hvm e_7 hB hz1 hk1 hS => ?_)
        try dsimp only at e_7
        have hP := zz_keep hP hk1
        clear hk1 hB ht hvm
        generalize H1 = H at hP hS ⊢
        refine lv_if_eq (tgt := 103) hx hb dX2_takeNets_60 (by decide) (fun c_8 => ?_) (fun c_8 => ?_)
        · have zc_8 := c_8
          rw [e_7, zz_in0, Int32.le_iff_toInt_le, Int32.le_iff_toInt_le] at zc_8
          try rw [show (0 : Int32).toInt = 0 from by decide] at zc_8
          try rw [show (7 : Int32).toInt = 7 from by decide] at zc_8
          refine lv_iinc (v := (nI (i + 1))) (lv' := [(3, .int (nI (i + 1))), (0, .ref (a 34)), (1, .ref (a 29)), (2, .int 0)]) hx hb dX2_takeNets_103 hl (k := 3) rfl (nI_1 _) (by decide) rfl (fun ls hl => ?_)
          refine lv_goto (tgt := 25) hx hb dX2_takeNets_106 (by decide) ?_
          exact ih_25 ((i + 1), h1) (by exfalso; omega) (show nd - (i + 1) < nd - i from by omega) _ _ _ (hP.sub [0, 1, 2, 3, 4, 5, 6, 7] rfl) (hD.sub [0, 1, 2, 3, 4, 5, 6, 7] (by decide) rfl) hS (lv_sub hl [1, 2, 3, 0] rfl)
        · have zc_8 := c_8
          rw [e_7, zz_in0, Int32.le_iff_toInt_le, Int32.le_iff_toInt_le] at zc_8
          try rw [show (0 : Int32).toInt = 0 from by decide] at zc_8
          try rw [show (7 : Int32).toInt = 7 from by decide] at zc_8
          refine lv_aload_n hx hb dX2_takeNets_63 rfl (lv_at hl 0 rfl) ?_
          refine va_get (D := (dC, dI)) (ci := 2) (v := .ref (a 36)) (C := RX2) (T := TX2) (N := 9) hx hb hw zz_inX2 hown hK hP 0 rfl rfl 1 (by decide) (hw _ tw_129) (fun _ h9 => h9) rfl dX2_takeNets_64 ?_
          refine lv_aload_n hx hb dX2_takeNets_67 rfl (lv_at hl 1 rfl) ?_
          refine va_getN (D := (dC, dI)) (ci := 1) (v := .ref (a 30)) (C := RX1) (T := TX1) (N := 5) hx hb hw zz_inX1 hown hK hP 3 rfl rfl 0 (by decide) (hN.use zz_n30) (fun _ h9 => h9) rfl dX2_takeNets_68 ?_
          refine lv_iload_n hx hb dX2_takeNets_71 rfl (lv_at hl 3 rfl) ?_
          refine va_iald hx hb hK hP 4 0 rfl rfl (vp_in_iff.mpr (by rw [zz_toInt i (by omega)]; constructor <;> omega)) dX2_takeNets_72 ?_
          refine zz_seti (fo i) (congrArg fo (zz_cl (by omega))) ?_
          refine lv_dup2_11 hx hb dX2_takeNets_73 rfl rfl ?_
          refine va_iald hx hb hK hP 2 0 rfl rfl (vp_in_iff.mpr (by constructor <;> omega)) dX2_takeNets_74 ?_
          refine lv_aload_n hx hb dX2_takeNets_75 rfl (lv_at hl 1 rfl) ?_
          refine va_getN (D := (dC, dI)) (ci := 1) (v := .ref (a 33)) (C := RX1) (T := TX1) (N := 5) hx hb hw zz_inX1 hown hK hP 3 rfl rfl 3 (by decide) (hN.use zz_n34) (fun _ h9 => h9) rfl dX2_takeNets_76 ?_
          refine lv_iload_n hx hb dX2_takeNets_79 rfl (lv_at hl 3 rfl) ?_
          refine va_iald hx hb hK hP 7 0 rfl rfl (vp_in_iff.mpr (by rw [zz_toInt i (by omega)]; constructor <;> omega)) dX2_takeNets_80 ?_
          refine zz_seti (fu i) (congrArg fu (zz_cl (by omega))) ?_
          refine lv_isub hx hb dX2_takeNets_81 ?_
          refine va_iast hx hb hK hP hD hS 2 0 rfl rfl (vp_in_iff.mpr (by constructor <;> omega)) dX2_takeNets_82 (fun H locs hP hD hS => ?_)
          obtain ⟨hP, hD⟩ := zz_ty (D := (dC, dI)) (cl := vwCl) (A := A) (H := H) [(a 34, .inr (2, [.ref (a 35), .ref (a 36), .ref (a 37), .ref (a 38), .ref (a 39), .ref (a 40), .ref (a 41), .ref (a 42), .int (nI ne)])), (a 35, .inl (cI, 8, .inl e0)), (a 36, .inl (cI, 8, .inl (upd h1 (Int32.toNatClampNeg (fo i)) ((h1 (Int32.toNatClampNeg (fo i))) - (fu i))))), (a 29, .inr (1, [.ref (a 30), .ref (a 31), .ref (a 32), .ref (a 33), .int (nI nd)])), (a 30, .inl (cI, 300, .inl fo)), (a 31, .inl (cI, 300, .inl fc)), (a 32, .inl (cI, 300, .inl fs)), (a 33, .inl (cI, 300, .inl fu))] hP hD rfl
          refine lv_aload_n hx hb dX2_takeNets_83 rfl (lv_at hl 0 rfl) ?_
          refine va_get (D := (dC, dI)) (ci := 2) (v := .ref (a 36)) (C := RX2) (T := TX2) (N := 9) hx hb hw zz_inX2 hown hK hP 0 rfl rfl 1 (by decide) (hw _ tw_129) (fun _ h9 => h9) rfl dX2_takeNets_84 ?_
          refine lv_aload_n hx hb dX2_takeNets_87 rfl (lv_at hl 1 rfl) ?_
          refine va_getN (D := (dC, dI)) (ci := 1) (v := .ref (a 31)) (C := RX1) (T := TX1) (N := 5) hx hb hw zz_inX1 hown hK hP 3 rfl rfl 1 (by decide) (hN.use zz_n32) (fun _ h9 => h9) rfl dX2_takeNets_88 ?_
          refine lv_iload_n hx hb dX2_takeNets_91 rfl (lv_at hl 3 rfl) ?_
          refine va_iald hx hb hK hP 5 0 rfl rfl (vp_in_iff.mpr (by rw [zz_toInt i (by omega)]; constructor <;> omega)) dX2_takeNets_92 ?_
          refine zz_seti (fc i) (congrArg fc (zz_cl (by omega))) ?_
          refine lv_dup2_11 hx hb dX2_takeNets_93 rfl rfl ?_
          refine va_iald hx hb hK hP 2 0 rfl rfl (vp_in_iff.mpr (by constructor <;> omega)) dX2_takeNets_94 ?_
          refine lv_aload_n hx hb dX2_takeNets_95 rfl (lv_at hl 1 rfl) ?_
          refine va_getN (D := (dC, dI)) (ci := 1) (v := .ref (a 33)) (C := RX1) (T := TX1) (N := 5) hx hb hw zz_inX1 hown hK hP 3 rfl rfl 3 (by decide) (hN.use zz_n34) (fun _ h9 => h9) rfl dX2_takeNets_96 ?_
          refine lv_iload_n hx hb dX2_takeNets_99 rfl (lv_at hl 3 rfl) ?_
          refine va_iald hx hb hK hP 7 0 rfl rfl (vp_in_iff.mpr (by rw [zz_toInt i (by omega)]; constructor <;> omega)) dX2_takeNets_100 ?_
          refine zz_seti (fu i) (congrArg fu (zz_cl (by omega))) ?_
          refine lv_iadd hx hb dX2_takeNets_101 ?_
          refine va_iast hx hb hK hP hD hS 2 0 rfl rfl (vp_in_iff.mpr (by constructor <;> omega)) dX2_takeNets_102 (fun H locs hP hD hS => ?_)
          obtain ⟨hP, hD⟩ := zz_ty (D := (dC, dI)) (cl := vwCl) (A := A) (H := H) [(a 34, .inr (2, [.ref (a 35), .ref (a 36), .ref (a 37), .ref (a 38), .ref (a 39), .ref (a 40), .ref (a 41), .ref (a 42), .int (nI ne)])), (a 35, .inl (cI, 8, .inl e0)), (a 36, .inl (cI, 8, .inl (upd (upd h1 (Int32.toNatClampNeg (fo i)) ((h1 (Int32.toNatClampNeg (fo i))) - (fu i))) (Int32.toNatClampNeg (fc i)) (((upd h1 (Int32.toNatClampNeg (fo i)) ((h1 (Int32.toNatClampNeg (fo i))) - (fu i))) (Int32.toNatClampNeg (fc i))) + (fu i))))), (a 29, .inr (1, [.ref (a 30), .ref (a 31), .ref (a 32), .ref (a 33), .int (nI nd)])), (a 30, .inl (cI, 300, .inl fo)), (a 31, .inl (cI, 300, .inl fc)), (a 32, .inl (cI, 300, .inl fs)), (a 33, .inl (cI, 300, .inl fu))] hP hD rfl
          refine lv_iinc (v := (nI (i + 1))) (lv' := [(3, .int (nI (i + 1))), (0, .ref (a 34)), (1, .ref (a 29)), (2, .int 0)]) hx hb dX2_takeNets_103 hl (k := 3) rfl (nI_1 _) (by decide) rfl (fun ls hl => ?_)
          refine lv_goto (tgt := 25) hx hb dX2_takeNets_106 (by decide) ?_
          exact ih_25 ((i + 1), (upd (upd h1 (Int32.toNatClampNeg (fo i)) ((h1 (Int32.toNatClampNeg (fo i))) - (fu i))) (Int32.toNatClampNeg (fc i)) (((upd h1 (Int32.toNatClampNeg (fo i)) ((h1 (Int32.toNatClampNeg (fo i))) - (fu i))) (Int32.toNatClampNeg (fc i))) + (fu i)))) ⟨by omega, zz_tns hnd hru hbu.2 zo zc (by omega) ih⟩ (show nd - (i + 1) < nd - i from by omega) _ _ _ (hP.sub [0, 1, 2, 3, 4, 5, 6, 7] rfl) (hD.sub [0, 1, 2, 3, 4, 5, 6, 7] (by decide) rfl) hS (lv_sub hl [1, 2, 3, 0] rfl)
  · have zc_1 := c_1
    rw [Int32.le_iff_toInt_le] at zc_1
    try rw [zz_toInt j (by omega)] at zc_1
    try rw [show (8 : Int32).toInt = 8 from by decide] at zc_1
    refine lv_aload_n hx hb dX2_takeNets_10 rfl (lv_at hl 0 rfl) ?_
    refine va_get (D := (dC, dI)) (ci := 2) (v := .ref (a 36)) (C := RX2) (T := TX2) (N := 9) hx hb hw zz_inX2 hown hK hP 0 rfl rfl 1 (by decide) (hw _ tw_129) (fun _ h9 => h9) rfl dX2_takeNets_11 ?_
    refine lv_iload_n hx hb dX2_takeNets_14 rfl (lv_at hl 3 rfl) ?_
    refine lv_iconst (v := 0) hx hb dX2_takeNets_15 (by decide) ?_
    refine va_iast hx hb hK hP hD hS 2 0 rfl rfl (vp_in_iff.mpr (by rw [zz_toInt j (by omega)]; constructor <;> omega)) dX2_takeNets_16 (fun H locs hP hD hS => ?_)
    obtain ⟨hP, hD⟩ := zz_ty (D := (dC, dI)) (cl := vwCl) (A := A) (H := H) [(a 34, .inr (2, [.ref (a 35), .ref (a 36), .ref (a 37), .ref (a 38), .ref (a 39), .ref (a 40), .ref (a 41), .ref (a 42), .int (nI ne)])), (a 35, .inl (cI, 8, .inl e0)), (a 36, .inl (cI, 8, .inl (upd g1 (Int32.toNatClampNeg (nI j)) 0))), (a 29, .inr (1, [.ref (a 30), .ref (a 31), .ref (a 32), .ref (a 33), .int (nI nd)])), (a 30, .inl (cI, 300, .inl fo)), (a 31, .inl (cI, 300, .inl fc)), (a 32, .inl (cI, 300, .inl fs)), (a 33, .inl (cI, 300, .inl fu))] hP hD rfl
    refine lv_iinc (v := (nI (j + 1))) (lv' := [(3, .int (nI (j + 1))), (0, .ref (a 34)), (1, .ref (a 29)), (2, .int 0)]) hx hb dX2_takeNets_17 hl (k := 3) rfl (nI_1 _) (by decide) rfl (fun ls hl => ?_)
    refine lv_goto (tgt := 4) hx hb dX2_takeNets_20 (by decide) ?_
    exact ih_4 ((j + 1), (upd g1 (Int32.toNatClampNeg (nI j)) 0)) ⟨by omega, zz_cpx (e := fun _ => 0) ig (by omega)⟩ (show 8 - (j + 1) < 8 - j from by omega) _ _ _ (hP.sub [0, 1, 2, 3, 4, 5, 6, 7] rfl) (hD.sub [0, 1, 2, 3, 4, 5, 6, 7] (by decide) rfl) hS (lv_sub hl [1, 2, 3, 0] rfl)
theorem zz_nets0 {fo fc fu e : Nat → Int32} {nd : Nat} {bu : Int} (hn : nd ≤ 300) (hru : zz_rg fu nd 0 bu) (hbu : 0 ≤ bu ∧ bu ≤ 3100000) (hrd : zz_rg fo nd 0 7) (hrc : zz_rg fc nd 0 7) (ig : ∀ h : Nat, h < 8 → (e h).toInt = zz_nt fo fc fu h nd) : (∀ p : Nat, -930000000 ≤ zz_is e p 8 ∧ zz_is e p 8 ≤ 930000000) ∧ zz_is e 255 8 = 0 ∧ zz_rg e 8 (-930000000) 930000000 := by
  have q8 : ((8 : Nat) : Int) - 1 = 7 := by decide
  refine ⟨fun p => ?_, ?_, fun k hk => ?_⟩
  · rw [zz_ns_is 8 ig]
    have := zz_ns_b (x := p) (n := 8) hru hbu.2 (by rw [q8]; exact hrd) (by rw [q8]; exact hrc) (by omega) nd (Nat.le_refl _)
    omega
  · rw [zz_ns_is 8 ig]
    exact (zz_ns_b (x := 255) (n := 8) hru hbu.2 (by rw [q8]; exact hrd) (by rw [q8]; exact hrc) (by omega) nd (Nat.le_refl _)).2.2 (fun h hh => zz_255 hh)
  · rw [ig k hk]
    have := zz_nt_b (mo := fo) (mr := fc) (h := k) hru hbu.2 nd (Nat.le_refl _)
    omega
set_option maxHeartbeats 4000000 in
set_option maxRecDepth 100000 in
theorem kx_tellFor (l : Launch) (dC : Nat → ClassId) (dI : Nat → Nat → Nat) (a : Nat → Nat) (cI : ClassId) (ne : Nat) (e0 : Nat → Int32) (e1 : Nat → Int32) (e2 : Nat → Int32) (e3 : Nat → Int32) (e4 : Nat → Int32) (e5 : Nat → Int32) (e6 : Nat → Int32) (e7 : Nat → Int32) (nd : Nat) (fo : Nat → Int32) (fc : Nat → Int32) (fs : Nat → Int32) (fu : Nat → Int32) (bu : Int) (sz : Nat) (hnd : nd ≤ 300) (hne : ne ≤ 8) (hrd : zz_rg fo nd 0 7) (hrc : zz_rg fc nd 0 7) (hru : zz_rg fu nd 0 bu) (hbu : 0 ≤ bu ∧ bu ≤ 3100000) (he40 : e4 0 = 0) (hPY : ∃ (U : Nat) (l : List (Nat × Nat × Int32)), zz_lf e0 U 8 ∧ zz_PAY e0 U l ∧ zz_pw l ne e5 e6 e7) : Met l yX2_tellFor (zz_w yX2_tellFor cX2_tellFor 2 none) ({ frames := 3, cells := 0, slots := 0, locals := 71 }) (va_Pc [.ref (a 34), .ref (a 29)] (zz_B (dC, dI) sz [(a 34, .inr (2, [.ref (a 35), .ref (a 36), .ref (a 37), .ref (a 38), .ref (a 39), .ref (a 40), .ref (a 41), .ref (a 42), .int (nI ne)])), (a 35, .inl (cI, 8, .inl e0)), (a 36, .inl (cI, 8, .inl e1)), (a 37, .inl (cI, 8, .inl e2)), (a 38, .inl (cI, 256, .inl e3)), (a 39, .inl (cI, 256, .inl e4)), (a 40, .inl (cI, 8, .inl e5)), (a 41, .inl (cI, 8, .inl e6)), (a 42, .inl (cI, 8, .inl e7)), (a 29, .inr (1, [.ref (a 30), .ref (a 31), .ref (a 32), .ref (a 33), .int (nI nd)])), (a 30, .inl (cI, 300, .inl fo)), (a 31, .inl (cI, 300, .inl fc)), (a 32, .inl (cI, 300, .inl fs)), (a 33, .inl (cI, 300, .inl fu))] [(cI, .int)])) (va_Qv (fun (u : Nat × (Nat → Int32) × (Nat → Int32) × (Nat → Int32) × (Nat → Int32) × (Nat → Int32) × (Nat → Int32) × (Nat → Int32) × (Nat → Int32)) => match u with | (n2, u0, u1, u2, u3, u4, f5, f6, f7) => (∃ (U : Nat) (l : List (Nat × Nat × Int32)), zz_lf u0 U 8 ∧ zz_PAY u0 U l ∧ zz_pw l n2 f5 f6 f7) ∧ (∀ h : Nat, h < 8 → (u0 h).toInt = zz_nt fo fc fu h nd) ∧ n2 ≤ 8 ∧ u4 0 = 0) (fun (u : Nat × (Nat → Int32) × (Nat → Int32) × (Nat → Int32) × (Nat → Int32) × (Nat → Int32) × (Nat → Int32) × (Nat → Int32) × (Nat → Int32)) (t : State) => match u with | (u0, u1, u2, u3, u4, u5, u6, u7, u8) => va_P (dC, dI) vwCl [(a 34, .inr (2, [.ref (a 35), .ref (a 36), .ref (a 37), .ref (a 38), .ref (a 39), .ref (a 40), .ref (a 41), .ref (a 42), .int (nI u0)])), (a 35, .inl (cI, 8, .inl u1)), (a 36, .inl (cI, 8, .inl u2)), (a 37, .inl (cI, 8, .inl u3)), (a 38, .inl (cI, 256, .inl u4)), (a 39, .inl (cI, 256, .inl u5)), (a 40, .inl (cI, 8, .inl u6)), (a 41, .inl (cI, 8, .inl u7)), (a 42, .inl (cI, 8, .inl u8)), (a 29, .inr (1, [.ref (a 30), .ref (a 31), .ref (a 32), .ref (a 33), .int (nI nd)])), (a 30, .inl (cI, 300, .inl fo)), (a 31, .inl (cI, 300, .inl fc)), (a 32, .inl (cI, 300, .inl fs)), (a 33, .inl (cI, 300, .inl fu))] t.heap ∧ va_K (dC, dI) vwCl [(cI, .int)] t ∧ va_D (va_A [(a 34, .inr (2, [.ref (a 35), .ref (a 36), .ref (a 37), .ref (a 38), .ref (a 39), .ref (a 40), .ref (a 41), .ref (a 42), .int (nI ne)])), (a 35, .inl (cI, 8, .inl e0)), (a 36, .inl (cI, 8, .inl e1)), (a 37, .inl (cI, 8, .inl e2)), (a 38, .inl (cI, 256, .inl e3)), (a 39, .inl (cI, 256, .inl e4)), (a 40, .inl (cI, 8, .inl e5)), (a 41, .inl (cI, 8, .inl e6)), (a 42, .inl (cI, 8, .inl e7)), (a 29, .inr (1, [.ref (a 30), .ref (a 31), .ref (a 32), .ref (a 33), .int (nI nd)])), (a 30, .inl (cI, 300, .inl fo)), (a 31, .inl (cI, 300, .inl fc)), (a 32, .inl (cI, 300, .inl fs)), (a 33, .inl (cI, 300, .inl fu))] sz) [(a 34, .inr (2, [.ref (a 35), .ref (a 36), .ref (a 37), .ref (a 38), .ref (a 39), .ref (a 40), .ref (a 41), .ref (a 42), .int (nI u0)])), (a 35, .inl (cI, 8, .inl u1)), (a 36, .inl (cI, 8, .inl u2)), (a 37, .inl (cI, 8, .inl u3)), (a 38, .inl (cI, 256, .inl u4)), (a 39, .inl (cI, 256, .inl u5)), (a 40, .inl (cI, 8, .inl u6)), (a 41, .inl (cI, 8, .inl u7)), (a 42, .inl (cI, 8, .inl u8)), (a 29, .inr (1, [.ref (a 30), .ref (a 31), .ref (a 32), .ref (a 33), .int (nI nd)])), (a 30, .inl (cI, 300, .inl fo)), (a 31, .inl (cI, 300, .inl fc)), (a 32, .inl (cI, 300, .inl fs)), (a 33, .inl (cI, 300, .inl fu))]) (va_A [(a 34, .inr (2, [.ref (a 35), .ref (a 36), .ref (a 37), .ref (a 38), .ref (a 39), .ref (a 40), .ref (a 41), .ref (a 42), .int (nI ne)])), (a 35, .inl (cI, 8, .inl e0)), (a 36, .inl (cI, 8, .inl e1)), (a 37, .inl (cI, 8, .inl e2)), (a 38, .inl (cI, 256, .inl e3)), (a 39, .inl (cI, 256, .inl e4)), (a 40, .inl (cI, 8, .inl e5)), (a 41, .inl (cI, 8, .inl e6)), (a 42, .inl (cI, 8, .inl e7)), (a 29, .inr (1, [.ref (a 30), .ref (a 31), .ref (a 32), .ref (a 33), .int (nI nd)])), (a 30, .inl (cI, 300, .inl fo)), (a 31, .inl (cI, 300, .inl fc)), (a 32, .inl (cI, 300, .inl fs)), (a 33, .inl (cI, 300, .inl fu))] sz)) 0 0 (va_A [(a 34, .inr (2, [.ref (a 35), .ref (a 36), .ref (a 37), .ref (a 38), .ref (a 39), .ref (a 40), .ref (a 41), .ref (a 42), .int (nI ne)])), (a 35, .inl (cI, 8, .inl e0)), (a 36, .inl (cI, 8, .inl e1)), (a 37, .inl (cI, 8, .inl e2)), (a 38, .inl (cI, 256, .inl e3)), (a 39, .inl (cI, 256, .inl e4)), (a 40, .inl (cI, 8, .inl e5)), (a 41, .inl (cI, 8, .inl e6)), (a 42, .inl (cI, 8, .inl e7)), (a 29, .inr (1, [.ref (a 30), .ref (a 31), .ref (a 32), .ref (a 33), .int (nI nd)])), (a 30, .inl (cI, 300, .inl fo)), (a 31, .inl (cI, 300, .inl fc)), (a 32, .inl (cI, 300, .inl fs)), (a 33, .inl (cI, 300, .inl fu))] sz) := by
  refine Met.ofW (cc := cX2_tellFor) (maxL := 2) (ret := none) (by decide) rfl ?_
  intro p e s m args below meth c s₁ B hml hv
  obtain ⟨rfl, hsz, hP, hK, hD0, hN⟩ := hv
  have hx := B.exec
  have hb := B.bytes
  have hr := B.returns
  have hts := atoms_spec (ws := zz_w yX2_tellFor cX2_tellFor 2 none) B.pre
  have hw : ∀ w ∈ zz_all, w.before _ s = true := fun w h => hts w (List.mem_cons_of_mem _ h)
  have hown : s.vm.findClass RX2 = some m.cls := findClass_of_methodNamed B.named
  have hlocks := B.notSynchronized
  subst hsz
  have hD := hD0.self (sz := s.heap.size)
  generalize hAe : va_A [(a 34, .inr (2, [.ref (a 35), .ref (a 36), .ref (a 37), .ref (a 38), .ref (a 39), .ref (a 40), .ref (a 41), .ref (a 42), .int (nI ne)])), (a 35, .inl (cI, 8, .inl e0)), (a 36, .inl (cI, 8, .inl e1)), (a 37, .inl (cI, 8, .inl e2)), (a 38, .inl (cI, 256, .inl e3)), (a 39, .inl (cI, 256, .inl e4)), (a 40, .inl (cI, 8, .inl e5)), (a 41, .inl (cI, 8, .inl e6)), (a 42, .inl (cI, 8, .inl e7)), (a 29, .inr (1, [.ref (a 30), .ref (a 31), .ref (a 32), .ref (a 33), .int (nI nd)])), (a 30, .inl (cI, 300, .inl fo)), (a 31, .inl (cI, 300, .inl fc)), (a 32, .inl (cI, 300, .inl fs)), (a 33, .inl (cI, 300, .inl fu))] s.heap.size = A at hD ⊢
  have hA : ∀ q : Nat, s.heap.size ≤ q → A q := fun q h => by rw [← hAe]; exact Or.inr h
  have hS : va_S A s.heap s.heap [] := va_S.rf
  have hP : va_P (dC, dI) vwCl [(a 34, .inr (2, [.ref (a 35), .ref (a 36), .ref (a 37), .ref (a 38), .ref (a 39), .ref (a 40), .ref (a 41), .ref (a 42), .int (nI ne)])), (a 35, .inl (cI, 8, .inl e0)), (a 36, .inl (cI, 8, .inl e1)), (a 37, .inl (cI, 8, .inl e2)), (a 38, .inl (cI, 256, .inl e3)), (a 39, .inl (cI, 256, .inl e4)), (a 40, .inl (cI, 8, .inl e5)), (a 41, .inl (cI, 8, .inl e6)), (a 42, .inl (cI, 8, .inl e7)), (a 29, .inr (1, [.ref (a 30), .ref (a 31), .ref (a 32), .ref (a 33), .int (nI nd)])), (a 30, .inl (cI, 300, .inl fo)), (a 31, .inl (cI, 300, .inl fc)), (a 32, .inl (cI, 300, .inl fs)), (a 33, .inl (cI, 300, .inl fu))] s.heap := hP
  have hl := lv_entry ([.ref (a 34), .ref (a 29)]) (n := 2) (Nat.le_of_ble_eq_true rfl)
  rw [lg_entry_eq]
  generalize (lg_sl ([.ref (a 34), .ref (a 29)]) ++ List.replicate (2 - (lg_sl ([.ref (a 34), .ref (a 29)])).length) Slot.unset).toArray = ls at hl ⊢
  have hl : lv_has ls 2 [(0, .ref (a 34)), (1, .ref (a 29))] := hl
  refine lv_aload_n hx hb dX2_tellFor_0 rfl (lv_at hl 0 rfl) ?_
  refine lv_aload_n hx hb dX2_tellFor_1 rfl (lv_at hl 1 rfl) ?_
  obtain ⟨hPc, hDc⟩ := zz_sub2 (ws' := [(a 34, .inr (2, [.ref (a 35), .ref (a 36), .ref (a 37), .ref (a 38), .ref (a 39), .ref (a 40), .ref (a 41), .ref (a 42), .int (nI ne)])), (a 35, .inl (cI, 8, .inl e0)), (a 36, .inl (cI, 8, .inl e1)), (a 29, .inr (1, [.ref (a 30), .ref (a 31), .ref (a 32), .ref (a 33), .int (nI nd)])), (a 30, .inl (cI, 300, .inl fo)), (a 31, .inl (cI, 300, .inl fc)), (a 32, .inl (cI, 300, .inl fs)), (a 33, .inl (cI, 300, .inl fu))]) hP hD [0, 1, 2, 9, 10, 11, 12, 13] (by decide) rfl
  have hKc := hK.sub (tys' := [(cI, .int)]) [0] rfl
  have hFc := zz_free1 hDc hS hA
  refine va_calli (va_runV (As := [.ref (a 29)]) (rest := []) ⟨hx, hb, hml, hown, hw⟩ (kx_takeNets l dC dI a cI ne e0 e1 nd fo fc fs fu bu s.heap.size (by omega) hrd hrc hru hbu) ⟨callB_of 1 hw (zz_good tw_130) rfl rfl rfl (hw _ tw_107) (hw _ tw_131) (by decide +kernel) ⟨Nat.le_of_ble_eq_true rfl, Nat.le_of_ble_eq_true rfl⟩, (hw _ tw_132), (hw _ tw_133)⟩ ⟨zz_blind, va_recv hKc hPc (ci := 2) (q0 := 0) rfl rfl, zz_pre hPc hKc hDc hN⟩ rfl rfl hl.1 rfl (lv_room (Nat.le_of_ble_eq_true rfl)) dX2_tellFor_2 ⟨Nat.le_of_ble_eq_true rfl, Nat.le_of_ble_eq_true rfl⟩) hS (fun q _ h => hFc q h) hFc (fun r_1 u_1 t H1 locs ht hvm e_1 hB hz1 hk1 hS => ?_)
  try dsimp only at e_1
  obtain ⟨u0, u1⟩ := u_1
  obtain ⟨hP1, hK1, hD1⟩ := hB
  rw [ht] at hP1
  have hK1 := va_K.moved hvm.symm hK1
  try dsimp only at e_1
  obtain ⟨hP, hD⟩ := va_join (wr := [(a 37, .inl (cI, 8, .inl e2)), (a 38, .inl (cI, 256, .inl e3)), (a 39, .inl (cI, 256, .inl e4)), (a 40, .inl (cI, 8, .inl e5)), (a 41, .inl (cI, 8, .inl e6)), (a 42, .inl (cI, 8, .inl e7))]) (w1 := [(a 34, .inr (2, [.ref (a 35), .ref (a 36), .ref (a 37), .ref (a 38), .ref (a 39), .ref (a 40), .ref (a 41), .ref (a 42), .int (nI ne)])), (a 35, .inl (cI, 8, .inl u0)), (a 36, .inl (cI, 8, .inl u1)), (a 29, .inr (1, [.ref (a 30), .ref (a 31), .ref (a 32), .ref (a 33), .int (nI nd)])), (a 30, .inl (cI, 300, .inl fo)), (a 31, .inl (cI, 300, .inl fc)), (a 32, .inl (cI, 300, .inl fs)), (a 33, .inl (cI, 300, .inl fu))]) hP hD [0, 1, 2, 9, 10, 11, 12, 13] [3, 4, 5, 6, 7, 8] rfl rfl (by decide) (by decide) hk1 hFc hP1 hD1
  clear hk1 ht hvm
  generalize H1 = H at hP hS ⊢
  obtain ⟨hP, hD⟩ := zz_ty (D := (dC, dI)) (cl := vwCl) (A := A) (H := H) [(a 37, .inl (cI, 8, .inl e2)), (a 38, .inl (cI, 256, .inl e3)), (a 39, .inl (cI, 256, .inl e4)), (a 40, .inl (cI, 8, .inl e5)), (a 41, .inl (cI, 8, .inl e6)), (a 42, .inl (cI, 8, .inl e7)), (a 34, .inr (2, [.ref (a 35), .ref (a 36), .ref (a 37), .ref (a 38), .ref (a 39), .ref (a 40), .ref (a 41), .ref (a 42), .int (nI ne)])), (a 35, .inl (cI, 8, .inl u0)), (a 36, .inl (cI, 8, .inl u1)), (a 29, .inr (1, [.ref (a 30), .ref (a 31), .ref (a 32), .ref (a 33), .int (nI nd)])), (a 30, .inl (cI, 300, .inl fo)), (a 31, .inl (cI, 300, .inl fc)), (a 32, .inl (cI, 300, .inl fs)), (a 33, .inl (cI, 300, .inl fu))] hP hD rfl
  rcases e_1 with ⟨er_1, tn_1, te_1⟩ | ⟨er_1, tn_1⟩
  · refine zz_seti 0 er_1 ?_
    refine lv_if_eq (tgt := 12) hx hb dX2_tellFor_5 (by decide) (fun _ => ?_) (fun c_9 => absurd c_9 (by decide))
    obtain ⟨hP9, hD9⟩ := zz_sub2 (ws' := [(a 34, .inr (2, [.ref (a 35), .ref (a 36), .ref (a 37), .ref (a 38), .ref (a 39), .ref (a 40), .ref (a 41), .ref (a 42), .int (nI ne)])), (a 35, .inl (cI, 8, .inl u0)), (a 36, .inl (cI, 8, .inl u1)), (a 37, .inl (cI, 8, .inl e2)), (a 38, .inl (cI, 256, .inl e3)), (a 39, .inl (cI, 256, .inl e4)), (a 40, .inl (cI, 8, .inl e5)), (a 41, .inl (cI, 8, .inl e6)), (a 42, .inl (cI, 8, .inl e7)), (a 29, .inr (1, [.ref (a 30), .ref (a 31), .ref (a 32), .ref (a 33), .int (nI nd)])), (a 30, .inl (cI, 300, .inl fo)), (a 31, .inl (cI, 300, .inl fc)), (a 32, .inl (cI, 300, .inl fs)), (a 33, .inl (cI, 300, .inl fu))]) hP hD [6, 7, 8, 0, 1, 2, 3, 4, 5, 9, 10, 11, 12, 13] (by decide) rfl
    have hK9 := hK.sub (tys' := [(cI, .int)]) [0] rfl
    exact W.vret hx hb hr (fun t ht hW => ⟨⟨(ne, u0, u1, e2, e3, e4, e5, e6, e7), rfl, ⟨(by rw [te_1]; exact hPY), tn_1, (by omega), he40⟩, by rw [ht]; exact hP9, va_K.moved hW.alike hK9, hD9⟩, hS.F ht⟩) hS.2.2 dX2_tellFor_12
  · refine zz_seti 1 er_1 ?_
    refine lv_if_eq (tgt := 12) hx hb dX2_tellFor_5 (by decide) (fun c_9 => absurd c_9 (by decide)) (fun _ => ?_)
    obtain ⟨hisb, hz, hrz⟩ := zz_nets0 hnd hru hbu hrd hrc tn_1
    refine lv_aload_n hx hb dX2_tellFor_8 rfl (lv_at hl 0 rfl) ?_
    obtain ⟨hPc, hDc⟩ := zz_sub2 (ws' := [(a 34, .inr (2, [.ref (a 35), .ref (a 36), .ref (a 37), .ref (a 38), .ref (a 39), .ref (a 40), .ref (a 41), .ref (a 42), .int (nI ne)])), (a 35, .inl (cI, 8, .inl u0)), (a 36, .inl (cI, 8, .inl u1)), (a 37, .inl (cI, 8, .inl e2)), (a 38, .inl (cI, 256, .inl e3)), (a 39, .inl (cI, 256, .inl e4)), (a 40, .inl (cI, 8, .inl e5)), (a 41, .inl (cI, 8, .inl e6)), (a 42, .inl (cI, 8, .inl e7))]) hP hD [6, 7, 8, 0, 1, 2, 3, 4, 5] (by decide) rfl
    have hKc := hK.sub (tys' := [(cI, .int)]) [0] rfl
    have hFc := zz_free1 hDc hS hA
    refine va_callv (va_runV (As := []) (rest := []) ⟨hx, hb, hml, hown, hw⟩ (kx_tell l dC dI a cI ne u0 u1 e2 e3 e4 e5 e6 e7 H.size (by omega) hisb hz hrz he40) ⟨callB_of 0 hw (zz_good tw_134) rfl rfl rfl (hw _ tw_107) (hw _ tw_135) (by decide +kernel) ⟨Nat.le_of_ble_eq_true rfl, Nat.le_of_ble_eq_true rfl⟩, (hw _ tw_136), (hw _ tw_137)⟩ ⟨zz_blind, va_recv hKc hPc (ci := 2) (q0 := 0) rfl rfl, zz_pre hPc hKc hDc hN⟩ rfl rfl hl.1 rfl (lv_room (Nat.le_of_ble_eq_true rfl)) dX2_tellFor_9 ⟨Nat.le_of_ble_eq_true rfl, Nat.le_of_ble_eq_true rfl⟩) hS (fun q _ h => hFc q h) hFc (fun u_2 t H1 locs ht hvm e_2 hB hz1 hk1 hS => ?_)
    try dsimp only at e_2
    obtain ⟨v_2_0, v_2_1, v_2_2, v_2_3, v_2_4, v_2_5, v_2_6, v_2_7⟩ := u_2
    obtain ⟨hP1, hK1, hD1⟩ := hB
    rw [ht] at hP1
    have hK1 := va_K.moved hvm.symm hK1
    try dsimp only at e_2
    obtain ⟨hP, hD⟩ := va_join (wr := [(a 29, .inr (1, [.ref (a 30), .ref (a 31), .ref (a 32), .ref (a 33), .int (nI nd)])), (a 30, .inl (cI, 300, .inl fo)), (a 31, .inl (cI, 300, .inl fc)), (a 32, .inl (cI, 300, .inl fs)), (a 33, .inl (cI, 300, .inl fu))]) (w1 := [(a 34, .inr (2, [.ref (a 35), .ref (a 36), .ref (a 37), .ref (a 38), .ref (a 39), .ref (a 40), .ref (a 41), .ref (a 42), .int (nI v_2_0)])), (a 35, .inl (cI, 8, .inl u0)), (a 36, .inl (cI, 8, .inl u1)), (a 37, .inl (cI, 8, .inl v_2_2)), (a 38, .inl (cI, 256, .inl v_2_3)), (a 39, .inl (cI, 256, .inl v_2_4)), (a 40, .inl (cI, 8, .inl v_2_5)), (a 41, .inl (cI, 8, .inl v_2_6)), (a 42, .inl (cI, 8, .inl v_2_7))]) hP hD [6, 7, 8, 0, 1, 2, 3, 4, 5] [9, 10, 11, 12, 13] rfl rfl (by decide) (by decide) hk1 hFc hP1 hD1
    clear hk1 ht hvm
    generalize H1 = H at hP hS ⊢
    obtain ⟨hP, hD⟩ := zz_ty (D := (dC, dI)) (cl := vwCl) (A := A) (H := H) [(a 29, .inr (1, [.ref (a 30), .ref (a 31), .ref (a 32), .ref (a 33), .int (nI nd)])), (a 30, .inl (cI, 300, .inl fo)), (a 31, .inl (cI, 300, .inl fc)), (a 32, .inl (cI, 300, .inl fs)), (a 33, .inl (cI, 300, .inl fu)), (a 34, .inr (2, [.ref (a 35), .ref (a 36), .ref (a 37), .ref (a 38), .ref (a 39), .ref (a 40), .ref (a 41), .ref (a 42), .int (nI v_2_0)])), (a 35, .inl (cI, 8, .inl u0)), (a 36, .inl (cI, 8, .inl u1)), (a 37, .inl (cI, 8, .inl v_2_2)), (a 38, .inl (cI, 256, .inl v_2_3)), (a 39, .inl (cI, 256, .inl v_2_4)), (a 40, .inl (cI, 8, .inl v_2_5)), (a 41, .inl (cI, 8, .inl v_2_6)), (a 42, .inl (cI, 8, .inl v_2_7))] hP hD rfl
    obtain ⟨hP9, hD9⟩ := zz_sub2 (ws' := [(a 34, .inr (2, [.ref (a 35), .ref (a 36), .ref (a 37), .ref (a 38), .ref (a 39), .ref (a 40), .ref (a 41), .ref (a 42), .int (nI v_2_0)])), (a 35, .inl (cI, 8, .inl u0)), (a 36, .inl (cI, 8, .inl u1)), (a 37, .inl (cI, 8, .inl v_2_2)), (a 38, .inl (cI, 256, .inl v_2_3)), (a 39, .inl (cI, 256, .inl v_2_4)), (a 40, .inl (cI, 8, .inl v_2_5)), (a 41, .inl (cI, 8, .inl v_2_6)), (a 42, .inl (cI, 8, .inl v_2_7)), (a 29, .inr (1, [.ref (a 30), .ref (a 31), .ref (a 32), .ref (a 33), .int (nI nd)])), (a 30, .inl (cI, 300, .inl fo)), (a 31, .inl (cI, 300, .inl fc)), (a 32, .inl (cI, 300, .inl fs)), (a 33, .inl (cI, 300, .inl fu))]) hP hD [5, 6, 7, 8, 9, 10, 11, 12, 13, 0, 1, 2, 3, 4] (by decide) rfl
    have hK9 := hK.sub (tys' := [(cI, .int)]) [0] rfl
    exact W.vret hx hb hr (fun t ht hW => ⟨⟨(v_2_0, u0, u1, v_2_2, v_2_3, v_2_4, v_2_5, v_2_6, v_2_7), rfl, ⟨e_2.1, tn_1, e_2.2.1, e_2.2.2⟩, by rw [ht]; exact hP9, va_K.moved hW.alike hK9, hD9⟩, hS.F ht⟩) hS.2.2 dX2_tellFor_12
def zz_pyV (n : Nat) (f5 f6 f7 : Nat → Int32) (p q : Int32) : Int32 := if 0 ≤ p.toInt ∧ p.toInt < (n : Int) then (if q = 0 then f5 (Int32.toNatClampNeg p) else if q = 1 then f6 (Int32.toNatClampNeg p) else if q = 2 then f7 (Int32.toNatClampNeg p) else -1) else -1
set_option maxHeartbeats 4000000 in
set_option maxRecDepth 100000 in
theorem kx_payments (l : Launch) (dC : Nat → ClassId) (dI : Nat → Nat → Nat) (a : Nat → Nat) (nh : Nat) (nf : Nat) (clk : Int32) (hi : Int32) (cI : ClassId) (ne : Nat) (e0 : Nat → Int32) (e1 : Nat → Int32) (e2 : Nat → Int32) (e3 : Nat → Int32) (e4 : Nat → Int32) (e5 : Nat → Int32) (e6 : Nat → Int32) (e7 : Nat → Int32) (nd : Nat) (fo : Nat → Int32) (fc : Nat → Int32) (fs : Nat → Int32) (fu : Nat → Int32) (bu : Int) (sz : Nat) (hnd : nd ≤ 300) (hne : ne ≤ 8) (hrd : zz_rg fo nd 0 7) (hrc : zz_rg fc nd 0 7) (hru : zz_rg fu nd 0 bu) (hbu : 0 ≤ bu ∧ bu ≤ 3100000) (he40 : e4 0 = 0) (hPY : ∃ (U : Nat) (l : List (Nat × Nat × Int32)), zz_lf e0 U 8 ∧ zz_PAY e0 U l ∧ zz_pw l ne e5 e6 e7) : Met l yX7_payments (zz_w yX7_payments cX7_payments 1 (some .int)) ({ frames := 4, cells := 0, slots := 0, locals := 92 }) (va_Pc [.ref (a 0)] (zz_B (dC, dI) sz [(a 0, .inr (7, [.ref (a 1), .ref (a 10), .ref (a 23), .ref (a 24), .ref (a 26), .ref (a 29), .ref (a 34), .ref (a 43), .int (nI nh), .int (nI nf), .int clk, .int hi])), (a 34, .inr (2, [.ref (a 35), .ref (a 36), .ref (a 37), .ref (a 38), .ref (a 39), .ref (a 40), .ref (a 41), .ref (a 42), .int (nI ne)])), (a 35, .inl (cI, 8, .inl e0)), (a 36, .inl (cI, 8, .inl e1)), (a 37, .inl (cI, 8, .inl e2)), (a 38, .inl (cI, 256, .inl e3)), (a 39, .inl (cI, 256, .inl e4)), (a 40, .inl (cI, 8, .inl e5)), (a 41, .inl (cI, 8, .inl e6)), (a 42, .inl (cI, 8, .inl e7)), (a 29, .inr (1, [.ref (a 30), .ref (a 31), .ref (a 32), .ref (a 33), .int (nI nd)])), (a 30, .inl (cI, 300, .inl fo)), (a 31, .inl (cI, 300, .inl fc)), (a 32, .inl (cI, 300, .inl fs)), (a 33, .inl (cI, 300, .inl fu))] [(cI, .int)])) (va_Qi (fun (r : Int32) (u : Nat × (Nat → Int32) × (Nat → Int32) × (Nat → Int32) × (Nat → Int32) × (Nat → Int32) × (Nat → Int32) × (Nat → Int32) × (Nat → Int32)) => match u with | (n2, u0, u1, u2, u3, u4, f5, f6, f7) => r = nI n2 ∧ (∃ (U : Nat) (l : List (Nat × Nat × Int32)), zz_lf u0 U 8 ∧ zz_PAY u0 U l ∧ zz_pw l n2 f5 f6 f7) ∧ (∀ h : Nat, h < 8 → (u0 h).toInt = zz_nt fo fc fu h nd) ∧ n2 ≤ 8 ∧ u4 0 = 0) (fun (u : Nat × (Nat → Int32) × (Nat → Int32) × (Nat → Int32) × (Nat → Int32) × (Nat → Int32) × (Nat → Int32) × (Nat → Int32) × (Nat → Int32)) (t : State) => match u with | (u0, u1, u2, u3, u4, u5, u6, u7, u8) => va_P (dC, dI) vwCl [(a 0, .inr (7, [.ref (a 1), .ref (a 10), .ref (a 23), .ref (a 24), .ref (a 26), .ref (a 29), .ref (a 34), .ref (a 43), .int (nI nh), .int (nI nf), .int clk, .int hi])), (a 34, .inr (2, [.ref (a 35), .ref (a 36), .ref (a 37), .ref (a 38), .ref (a 39), .ref (a 40), .ref (a 41), .ref (a 42), .int (nI u0)])), (a 35, .inl (cI, 8, .inl u1)), (a 36, .inl (cI, 8, .inl u2)), (a 37, .inl (cI, 8, .inl u3)), (a 38, .inl (cI, 256, .inl u4)), (a 39, .inl (cI, 256, .inl u5)), (a 40, .inl (cI, 8, .inl u6)), (a 41, .inl (cI, 8, .inl u7)), (a 42, .inl (cI, 8, .inl u8)), (a 29, .inr (1, [.ref (a 30), .ref (a 31), .ref (a 32), .ref (a 33), .int (nI nd)])), (a 30, .inl (cI, 300, .inl fo)), (a 31, .inl (cI, 300, .inl fc)), (a 32, .inl (cI, 300, .inl fs)), (a 33, .inl (cI, 300, .inl fu))] t.heap ∧ va_K (dC, dI) vwCl [(cI, .int)] t ∧ va_D (va_A [(a 0, .inr (7, [.ref (a 1), .ref (a 10), .ref (a 23), .ref (a 24), .ref (a 26), .ref (a 29), .ref (a 34), .ref (a 43), .int (nI nh), .int (nI nf), .int clk, .int hi])), (a 34, .inr (2, [.ref (a 35), .ref (a 36), .ref (a 37), .ref (a 38), .ref (a 39), .ref (a 40), .ref (a 41), .ref (a 42), .int (nI ne)])), (a 35, .inl (cI, 8, .inl e0)), (a 36, .inl (cI, 8, .inl e1)), (a 37, .inl (cI, 8, .inl e2)), (a 38, .inl (cI, 256, .inl e3)), (a 39, .inl (cI, 256, .inl e4)), (a 40, .inl (cI, 8, .inl e5)), (a 41, .inl (cI, 8, .inl e6)), (a 42, .inl (cI, 8, .inl e7)), (a 29, .inr (1, [.ref (a 30), .ref (a 31), .ref (a 32), .ref (a 33), .int (nI nd)])), (a 30, .inl (cI, 300, .inl fo)), (a 31, .inl (cI, 300, .inl fc)), (a 32, .inl (cI, 300, .inl fs)), (a 33, .inl (cI, 300, .inl fu))] sz) [(a 0, .inr (7, [.ref (a 1), .ref (a 10), .ref (a 23), .ref (a 24), .ref (a 26), .ref (a 29), .ref (a 34), .ref (a 43), .int (nI nh), .int (nI nf), .int clk, .int hi])), (a 34, .inr (2, [.ref (a 35), .ref (a 36), .ref (a 37), .ref (a 38), .ref (a 39), .ref (a 40), .ref (a 41), .ref (a 42), .int (nI u0)])), (a 35, .inl (cI, 8, .inl u1)), (a 36, .inl (cI, 8, .inl u2)), (a 37, .inl (cI, 8, .inl u3)), (a 38, .inl (cI, 256, .inl u4)), (a 39, .inl (cI, 256, .inl u5)), (a 40, .inl (cI, 8, .inl u6)), (a 41, .inl (cI, 8, .inl u7)), (a 42, .inl (cI, 8, .inl u8)), (a 29, .inr (1, [.ref (a 30), .ref (a 31), .ref (a 32), .ref (a 33), .int (nI nd)])), (a 30, .inl (cI, 300, .inl fo)), (a 31, .inl (cI, 300, .inl fc)), (a 32, .inl (cI, 300, .inl fs)), (a 33, .inl (cI, 300, .inl fu))]) (va_A [(a 0, .inr (7, [.ref (a 1), .ref (a 10), .ref (a 23), .ref (a 24), .ref (a 26), .ref (a 29), .ref (a 34), .ref (a 43), .int (nI nh), .int (nI nf), .int clk, .int hi])), (a 34, .inr (2, [.ref (a 35), .ref (a 36), .ref (a 37), .ref (a 38), .ref (a 39), .ref (a 40), .ref (a 41), .ref (a 42), .int (nI ne)])), (a 35, .inl (cI, 8, .inl e0)), (a 36, .inl (cI, 8, .inl e1)), (a 37, .inl (cI, 8, .inl e2)), (a 38, .inl (cI, 256, .inl e3)), (a 39, .inl (cI, 256, .inl e4)), (a 40, .inl (cI, 8, .inl e5)), (a 41, .inl (cI, 8, .inl e6)), (a 42, .inl (cI, 8, .inl e7)), (a 29, .inr (1, [.ref (a 30), .ref (a 31), .ref (a 32), .ref (a 33), .int (nI nd)])), (a 30, .inl (cI, 300, .inl fo)), (a 31, .inl (cI, 300, .inl fc)), (a 32, .inl (cI, 300, .inl fs)), (a 33, .inl (cI, 300, .inl fu))] sz)) 0 0 (va_A [(a 0, .inr (7, [.ref (a 1), .ref (a 10), .ref (a 23), .ref (a 24), .ref (a 26), .ref (a 29), .ref (a 34), .ref (a 43), .int (nI nh), .int (nI nf), .int clk, .int hi])), (a 34, .inr (2, [.ref (a 35), .ref (a 36), .ref (a 37), .ref (a 38), .ref (a 39), .ref (a 40), .ref (a 41), .ref (a 42), .int (nI ne)])), (a 35, .inl (cI, 8, .inl e0)), (a 36, .inl (cI, 8, .inl e1)), (a 37, .inl (cI, 8, .inl e2)), (a 38, .inl (cI, 256, .inl e3)), (a 39, .inl (cI, 256, .inl e4)), (a 40, .inl (cI, 8, .inl e5)), (a 41, .inl (cI, 8, .inl e6)), (a 42, .inl (cI, 8, .inl e7)), (a 29, .inr (1, [.ref (a 30), .ref (a 31), .ref (a 32), .ref (a 33), .int (nI nd)])), (a 30, .inl (cI, 300, .inl fo)), (a 31, .inl (cI, 300, .inl fc)), (a 32, .inl (cI, 300, .inl fs)), (a 33, .inl (cI, 300, .inl fu))] sz) := by
  refine Met.ofW (cc := cX7_payments) (maxL := 1) (ret := (some .int)) (by decide) rfl ?_
  intro p e s m args below meth c s₁ B hml hv
  obtain ⟨rfl, hsz, hP, hK, hD0, hN⟩ := hv
  have hx := B.exec
  have hb := B.bytes
  have hr := B.returns
  have hts := atoms_spec (ws := zz_w yX7_payments cX7_payments 1 (some .int)) B.pre
  have hw : ∀ w ∈ zz_all, w.before _ s = true := fun w h => hts w (List.mem_cons_of_mem _ h)
  have hown : s.vm.findClass RX7 = some m.cls := findClass_of_methodNamed B.named
  have hlocks := B.notSynchronized
  subst hsz
  have hD := hD0.self (sz := s.heap.size)
  generalize hAe : va_A [(a 0, .inr (7, [.ref (a 1), .ref (a 10), .ref (a 23), .ref (a 24), .ref (a 26), .ref (a 29), .ref (a 34), .ref (a 43), .int (nI nh), .int (nI nf), .int clk, .int hi])), (a 34, .inr (2, [.ref (a 35), .ref (a 36), .ref (a 37), .ref (a 38), .ref (a 39), .ref (a 40), .ref (a 41), .ref (a 42), .int (nI ne)])), (a 35, .inl (cI, 8, .inl e0)), (a 36, .inl (cI, 8, .inl e1)), (a 37, .inl (cI, 8, .inl e2)), (a 38, .inl (cI, 256, .inl e3)), (a 39, .inl (cI, 256, .inl e4)), (a 40, .inl (cI, 8, .inl e5)), (a 41, .inl (cI, 8, .inl e6)), (a 42, .inl (cI, 8, .inl e7)), (a 29, .inr (1, [.ref (a 30), .ref (a 31), .ref (a 32), .ref (a 33), .int (nI nd)])), (a 30, .inl (cI, 300, .inl fo)), (a 31, .inl (cI, 300, .inl fc)), (a 32, .inl (cI, 300, .inl fs)), (a 33, .inl (cI, 300, .inl fu))] s.heap.size = A at hD ⊢
  have hA : ∀ q : Nat, s.heap.size ≤ q → A q := fun q h => by rw [← hAe]; exact Or.inr h
  have hS : va_S A s.heap s.heap [] := va_S.rf
  have hP : va_P (dC, dI) vwCl [(a 0, .inr (7, [.ref (a 1), .ref (a 10), .ref (a 23), .ref (a 24), .ref (a 26), .ref (a 29), .ref (a 34), .ref (a 43), .int (nI nh), .int (nI nf), .int clk, .int hi])), (a 34, .inr (2, [.ref (a 35), .ref (a 36), .ref (a 37), .ref (a 38), .ref (a 39), .ref (a 40), .ref (a 41), .ref (a 42), .int (nI ne)])), (a 35, .inl (cI, 8, .inl e0)), (a 36, .inl (cI, 8, .inl e1)), (a 37, .inl (cI, 8, .inl e2)), (a 38, .inl (cI, 256, .inl e3)), (a 39, .inl (cI, 256, .inl e4)), (a 40, .inl (cI, 8, .inl e5)), (a 41, .inl (cI, 8, .inl e6)), (a 42, .inl (cI, 8, .inl e7)), (a 29, .inr (1, [.ref (a 30), .ref (a 31), .ref (a 32), .ref (a 33), .int (nI nd)])), (a 30, .inl (cI, 300, .inl fo)), (a 31, .inl (cI, 300, .inl fc)), (a 32, .inl (cI, 300, .inl fs)), (a 33, .inl (cI, 300, .inl fu))] s.heap := hP
  have hl := lv_entry ([.ref (a 0)]) (n := 1) (Nat.le_of_ble_eq_true rfl)
  rw [lg_entry_eq]
  generalize (lg_sl ([.ref (a 0)]) ++ List.replicate (1 - (lg_sl ([.ref (a 0)])).length) Slot.unset).toArray = ls at hl ⊢
  have hl : lv_has ls 1 [(0, .ref (a 0))] := hl
  refine lv_aload_n hx hb dX7_payments_0 rfl (lv_at hl 0 rfl) ?_
  refine va_get (D := (dC, dI)) (ci := 7) (v := .ref (a 34)) (C := RX7) (T := TX7) (N := 12) hx hb hw zz_inX7 hown hK hP 0 rfl rfl 6 (by decide) (hw _ tw_138) (fun _ h9 => h9) rfl dX7_payments_1 ?_
  refine lv_aload_n hx hb dX7_payments_4 rfl (lv_at hl 0 rfl) ?_
  refine va_get (D := (dC, dI)) (ci := 7) (v := .ref (a 29)) (C := RX7) (T := TX7) (N := 12) hx hb hw zz_inX7 hown hK hP 0 rfl rfl 5 (by decide) (hw _ tw_44) (fun _ h9 => h9) rfl dX7_payments_5 ?_
  obtain ⟨hPc, hDc⟩ := zz_sub2 (ws' := [(a 34, .inr (2, [.ref (a 35), .ref (a 36), .ref (a 37), .ref (a 38), .ref (a 39), .ref (a 40), .ref (a 41), .ref (a 42), .int (nI ne)])), (a 35, .inl (cI, 8, .inl e0)), (a 36, .inl (cI, 8, .inl e1)), (a 37, .inl (cI, 8, .inl e2)), (a 38, .inl (cI, 256, .inl e3)), (a 39, .inl (cI, 256, .inl e4)), (a 40, .inl (cI, 8, .inl e5)), (a 41, .inl (cI, 8, .inl e6)), (a 42, .inl (cI, 8, .inl e7)), (a 29, .inr (1, [.ref (a 30), .ref (a 31), .ref (a 32), .ref (a 33), .int (nI nd)])), (a 30, .inl (cI, 300, .inl fo)), (a 31, .inl (cI, 300, .inl fc)), (a 32, .inl (cI, 300, .inl fs)), (a 33, .inl (cI, 300, .inl fu))]) hP hD [1, 2, 3, 4, 5, 6, 7, 8, 9, 10, 11, 12, 13, 14] (by decide) rfl
  have hKc := hK.sub (tys' := [(cI, .int)]) [0] rfl
  have hFc := zz_free1 hDc hS hA
  refine va_callv (va_runVN (As := [.ref (a 29)]) (rest := []) ⟨hx, hb, hml, hown, hw⟩ (kx_tellFor l dC dI a cI ne e0 e1 e2 e3 e4 e5 e6 e7 nd fo fc fs fu bu s.heap.size (by omega) (by omega) hrd hrc hru hbu he40 hPY) ⟨va_cnB 1 hw (zz_good tw_139) rfl rfl rfl (hN.1 _ zz_n60) (hw _ tw_107) (by decide +kernel) ⟨Nat.le_of_ble_eq_true rfl, Nat.le_of_ble_eq_true rfl⟩, (hw _ tw_140), (hw _ tw_141)⟩ ⟨zz_blind, va_recv hKc hPc (ci := 2) (q0 := 0) rfl rfl, zz_pre hPc hKc hDc hN⟩ rfl rfl hl.1 rfl (lv_room (Nat.le_of_ble_eq_true rfl)) dX7_payments_8 ⟨Nat.le_of_ble_eq_true rfl, Nat.le_of_ble_eq_true rfl⟩) hS (fun q _ h => hFc q h) hFc (fun u_1 t H1 locs ht hvm e_1 hB hz1 hk1 hS => ?_)
  try dsimp only at e_1
  obtain ⟨v_1_0, v_1_1, v_1_2, v_1_3, v_1_4, v_1_5, v_1_6, v_1_7, v_1_8⟩ := u_1
  obtain ⟨hP1, hK1, hD1⟩ := hB
  rw [ht] at hP1
  have hK1 := va_K.moved hvm.symm hK1
  try dsimp only at e_1
  obtain ⟨hP, hD⟩ := va_join (wr := [(a 0, .inr (7, [.ref (a 1), .ref (a 10), .ref (a 23), .ref (a 24), .ref (a 26), .ref (a 29), .ref (a 34), .ref (a 43), .int (nI nh), .int (nI nf), .int clk, .int hi]))]) (w1 := [(a 34, .inr (2, [.ref (a 35), .ref (a 36), .ref (a 37), .ref (a 38), .ref (a 39), .ref (a 40), .ref (a 41), .ref (a 42), .int (nI v_1_0)])), (a 35, .inl (cI, 8, .inl v_1_1)), (a 36, .inl (cI, 8, .inl v_1_2)), (a 37, .inl (cI, 8, .inl v_1_3)), (a 38, .inl (cI, 256, .inl v_1_4)), (a 39, .inl (cI, 256, .inl v_1_5)), (a 40, .inl (cI, 8, .inl v_1_6)), (a 41, .inl (cI, 8, .inl v_1_7)), (a 42, .inl (cI, 8, .inl v_1_8)), (a 29, .inr (1, [.ref (a 30), .ref (a 31), .ref (a 32), .ref (a 33), .int (nI nd)])), (a 30, .inl (cI, 300, .inl fo)), (a 31, .inl (cI, 300, .inl fc)), (a 32, .inl (cI, 300, .inl fs)), (a 33, .inl (cI, 300, .inl fu))]) hP hD [1, 2, 3, 4, 5, 6, 7, 8, 9, 10, 11, 12, 13, 14] [0] rfl rfl (by decide) (by decide) hk1 hFc hP1 hD1
  clear hk1 ht hvm
  generalize H1 = H at hP hS ⊢
  obtain ⟨hP, hD⟩ := zz_ty (D := (dC, dI)) (cl := vwCl) (A := A) (H := H) [(a 0, .inr (7, [.ref (a 1), .ref (a 10), .ref (a 23), .ref (a 24), .ref (a 26), .ref (a 29), .ref (a 34), .ref (a 43), .int (nI nh), .int (nI nf), .int clk, .int hi])), (a 34, .inr (2, [.ref (a 35), .ref (a 36), .ref (a 37), .ref (a 38), .ref (a 39), .ref (a 40), .ref (a 41), .ref (a 42), .int (nI v_1_0)])), (a 35, .inl (cI, 8, .inl v_1_1)), (a 36, .inl (cI, 8, .inl v_1_2)), (a 37, .inl (cI, 8, .inl v_1_3)), (a 38, .inl (cI, 256, .inl v_1_4)), (a 39, .inl (cI, 256, .inl v_1_5)), (a 40, .inl (cI, 8, .inl v_1_6)), (a 41, .inl (cI, 8, .inl v_1_7)), (a 42, .inl (cI, 8, .inl v_1_8)), (a 29, .inr (1, [.ref (a 30), .ref (a 31), .ref (a 32), .ref (a 33), .int (nI nd)])), (a 30, .inl (cI, 300, .inl fo)), (a 31, .inl (cI, 300, .inl fc)), (a 32, .inl (cI, 300, .inl fs)), (a 33, .inl (cI, 300, .inl fu))] hP hD rfl
  have hn28 := e_1.2.2.1
  refine lv_aload_n hx hb dX7_payments_11 rfl (lv_at hl 0 rfl) ?_
  refine va_get (D := (dC, dI)) (ci := 7) (v := .ref (a 34)) (C := RX7) (T := TX7) (N := 12) hx hb hw zz_inX7 hown hK hP 0 rfl rfl 6 (by decide) (hw _ tw_138) (fun _ h9 => h9) rfl dX7_payments_12 ?_
  refine va_getN (D := (dC, dI)) (ci := 2) (v := .int (nI v_1_0)) (C := RX2) (T := TX2) (N := 9) hx hb hw zz_inX2 hown hK hP 1 rfl rfl 8 (by decide) (hN.use zz_n42) (fun _ h9 => h9) rfl dX7_payments_15 ?_
  obtain ⟨hP9, hD9⟩ := zz_sub2 (ws' := [(a 0, .inr (7, [.ref (a 1), .ref (a 10), .ref (a 23), .ref (a 24), .ref (a 26), .ref (a 29), .ref (a 34), .ref (a 43), .int (nI nh), .int (nI nf), .int clk, .int hi])), (a 34, .inr (2, [.ref (a 35), .ref (a 36), .ref (a 37), .ref (a 38), .ref (a 39), .ref (a 40), .ref (a 41), .ref (a 42), .int (nI v_1_0)])), (a 35, .inl (cI, 8, .inl v_1_1)), (a 36, .inl (cI, 8, .inl v_1_2)), (a 37, .inl (cI, 8, .inl v_1_3)), (a 38, .inl (cI, 256, .inl v_1_4)), (a 39, .inl (cI, 256, .inl v_1_5)), (a 40, .inl (cI, 8, .inl v_1_6)), (a 41, .inl (cI, 8, .inl v_1_7)), (a 42, .inl (cI, 8, .inl v_1_8)), (a 29, .inr (1, [.ref (a 30), .ref (a 31), .ref (a 32), .ref (a 33), .int (nI nd)])), (a 30, .inl (cI, 300, .inl fo)), (a 31, .inl (cI, 300, .inl fc)), (a 32, .inl (cI, 300, .inl fs)), (a 33, .inl (cI, 300, .inl fu))]) hP hD [0, 1, 2, 3, 4, 5, 6, 7, 8, 9, 10, 11, 12, 13, 14] (by decide) rfl
  have hK9 := hK.sub (tys' := [(cI, .int)]) [0] rfl
  exact W.iret (v := (nI v_1_0)) hx hb hr (fun t ht hW => ⟨⟨(nI v_1_0), (v_1_0, v_1_1, v_1_2, v_1_3, v_1_4, v_1_5, v_1_6, v_1_7, v_1_8), rfl, ⟨rfl, e_1⟩, by rw [ht]; exact hP9, va_K.moved hW.alike hK9, hD9⟩, hS.F ht⟩) hS.2.2 dX7_payments_18
set_option maxHeartbeats 4000000 in
set_option maxRecDepth 100000 in
theorem kx_payment (l : Launch) (dC : Nat → ClassId) (dI : Nat → Nat → Nat) (a : Nat → Nat) (nh : Nat) (nf : Nat) (clk : Int32) (hi : Int32) (cI : ClassId) (ne : Nat) (e0 : Nat → Int32) (e1 : Nat → Int32) (e2 : Nat → Int32) (e3 : Nat → Int32) (e4 : Nat → Int32) (e5 : Nat → Int32) (e6 : Nat → Int32) (e7 : Nat → Int32) (nd : Nat) (fo : Nat → Int32) (fc : Nat → Int32) (fs : Nat → Int32) (fu : Nat → Int32) (bu : Int) (p0 : Int32) (p1 : Int32) (sz : Nat) (hnd : nd ≤ 300) (hne : ne ≤ 8) (hrd : zz_rg fo nd 0 7) (hrc : zz_rg fc nd 0 7) (hru : zz_rg fu nd 0 bu) (hbu : 0 ≤ bu ∧ bu ≤ 3100000) (he40 : e4 0 = 0) (hPY : ∃ (U : Nat) (l : List (Nat × Nat × Int32)), zz_lf e0 U 8 ∧ zz_PAY e0 U l ∧ zz_pw l ne e5 e6 e7) : Met l yX7_payment (zz_w yX7_payment cX7_payment 3 (some .int)) ({ frames := 4, cells := 0, slots := 0, locals := 92 }) (va_Pc [.ref (a 0), .int p0, .int p1] (zz_B (dC, dI) sz [(a 0, .inr (7, [.ref (a 1), .ref (a 10), .ref (a 23), .ref (a 24), .ref (a 26), .ref (a 29), .ref (a 34), .ref (a 43), .int (nI nh), .int (nI nf), .int clk, .int hi])), (a 34, .inr (2, [.ref (a 35), .ref (a 36), .ref (a 37), .ref (a 38), .ref (a 39), .ref (a 40), .ref (a 41), .ref (a 42), .int (nI ne)])), (a 35, .inl (cI, 8, .inl e0)), (a 36, .inl (cI, 8, .inl e1)), (a 37, .inl (cI, 8, .inl e2)), (a 38, .inl (cI, 256, .inl e3)), (a 39, .inl (cI, 256, .inl e4)), (a 40, .inl (cI, 8, .inl e5)), (a 41, .inl (cI, 8, .inl e6)), (a 42, .inl (cI, 8, .inl e7)), (a 29, .inr (1, [.ref (a 30), .ref (a 31), .ref (a 32), .ref (a 33), .int (nI nd)])), (a 30, .inl (cI, 300, .inl fo)), (a 31, .inl (cI, 300, .inl fc)), (a 32, .inl (cI, 300, .inl fs)), (a 33, .inl (cI, 300, .inl fu))] [(cI, .int)])) (va_Qi (fun (r : Int32) (u : Nat × (Nat → Int32) × (Nat → Int32) × (Nat → Int32) × (Nat → Int32) × (Nat → Int32) × (Nat → Int32) × (Nat → Int32) × (Nat → Int32)) => match u with | (n2, u0, u1, u2, u3, u4, f5, f6, f7) => r = zz_pyV n2 f5 f6 f7 p0 p1 ∧ (∃ (U : Nat) (l : List (Nat × Nat × Int32)), zz_lf u0 U 8 ∧ zz_PAY u0 U l ∧ zz_pw l n2 f5 f6 f7) ∧ (∀ h : Nat, h < 8 → (u0 h).toInt = zz_nt fo fc fu h nd) ∧ n2 ≤ 8 ∧ u4 0 = 0) (fun (u : Nat × (Nat → Int32) × (Nat → Int32) × (Nat → Int32) × (Nat → Int32) × (Nat → Int32) × (Nat → Int32) × (Nat → Int32) × (Nat → Int32)) (t : State) => match u with | (u0, u1, u2, u3, u4, u5, u6, u7, u8) => va_P (dC, dI) vwCl [(a 0, .inr (7, [.ref (a 1), .ref (a 10), .ref (a 23), .ref (a 24), .ref (a 26), .ref (a 29), .ref (a 34), .ref (a 43), .int (nI nh), .int (nI nf), .int clk, .int hi])), (a 34, .inr (2, [.ref (a 35), .ref (a 36), .ref (a 37), .ref (a 38), .ref (a 39), .ref (a 40), .ref (a 41), .ref (a 42), .int (nI u0)])), (a 35, .inl (cI, 8, .inl u1)), (a 36, .inl (cI, 8, .inl u2)), (a 37, .inl (cI, 8, .inl u3)), (a 38, .inl (cI, 256, .inl u4)), (a 39, .inl (cI, 256, .inl u5)), (a 40, .inl (cI, 8, .inl u6)), (a 41, .inl (cI, 8, .inl u7)), (a 42, .inl (cI, 8, .inl u8)), (a 29, .inr (1, [.ref (a 30), .ref (a 31), .ref (a 32), .ref (a 33), .int (nI nd)])), (a 30, .inl (cI, 300, .inl fo)), (a 31, .inl (cI, 300, .inl fc)), (a 32, .inl (cI, 300, .inl fs)), (a 33, .inl (cI, 300, .inl fu))] t.heap ∧ va_K (dC, dI) vwCl [(cI, .int)] t ∧ va_D (va_A [(a 0, .inr (7, [.ref (a 1), .ref (a 10), .ref (a 23), .ref (a 24), .ref (a 26), .ref (a 29), .ref (a 34), .ref (a 43), .int (nI nh), .int (nI nf), .int clk, .int hi])), (a 34, .inr (2, [.ref (a 35), .ref (a 36), .ref (a 37), .ref (a 38), .ref (a 39), .ref (a 40), .ref (a 41), .ref (a 42), .int (nI ne)])), (a 35, .inl (cI, 8, .inl e0)), (a 36, .inl (cI, 8, .inl e1)), (a 37, .inl (cI, 8, .inl e2)), (a 38, .inl (cI, 256, .inl e3)), (a 39, .inl (cI, 256, .inl e4)), (a 40, .inl (cI, 8, .inl e5)), (a 41, .inl (cI, 8, .inl e6)), (a 42, .inl (cI, 8, .inl e7)), (a 29, .inr (1, [.ref (a 30), .ref (a 31), .ref (a 32), .ref (a 33), .int (nI nd)])), (a 30, .inl (cI, 300, .inl fo)), (a 31, .inl (cI, 300, .inl fc)), (a 32, .inl (cI, 300, .inl fs)), (a 33, .inl (cI, 300, .inl fu))] sz) [(a 0, .inr (7, [.ref (a 1), .ref (a 10), .ref (a 23), .ref (a 24), .ref (a 26), .ref (a 29), .ref (a 34), .ref (a 43), .int (nI nh), .int (nI nf), .int clk, .int hi])), (a 34, .inr (2, [.ref (a 35), .ref (a 36), .ref (a 37), .ref (a 38), .ref (a 39), .ref (a 40), .ref (a 41), .ref (a 42), .int (nI u0)])), (a 35, .inl (cI, 8, .inl u1)), (a 36, .inl (cI, 8, .inl u2)), (a 37, .inl (cI, 8, .inl u3)), (a 38, .inl (cI, 256, .inl u4)), (a 39, .inl (cI, 256, .inl u5)), (a 40, .inl (cI, 8, .inl u6)), (a 41, .inl (cI, 8, .inl u7)), (a 42, .inl (cI, 8, .inl u8)), (a 29, .inr (1, [.ref (a 30), .ref (a 31), .ref (a 32), .ref (a 33), .int (nI nd)])), (a 30, .inl (cI, 300, .inl fo)), (a 31, .inl (cI, 300, .inl fc)), (a 32, .inl (cI, 300, .inl fs)), (a 33, .inl (cI, 300, .inl fu))]) (va_A [(a 0, .inr (7, [.ref (a 1), .ref (a 10), .ref (a 23), .ref (a 24), .ref (a 26), .ref (a 29), .ref (a 34), .ref (a 43), .int (nI nh), .int (nI nf), .int clk, .int hi])), (a 34, .inr (2, [.ref (a 35), .ref (a 36), .ref (a 37), .ref (a 38), .ref (a 39), .ref (a 40), .ref (a 41), .ref (a 42), .int (nI ne)])), (a 35, .inl (cI, 8, .inl e0)), (a 36, .inl (cI, 8, .inl e1)), (a 37, .inl (cI, 8, .inl e2)), (a 38, .inl (cI, 256, .inl e3)), (a 39, .inl (cI, 256, .inl e4)), (a 40, .inl (cI, 8, .inl e5)), (a 41, .inl (cI, 8, .inl e6)), (a 42, .inl (cI, 8, .inl e7)), (a 29, .inr (1, [.ref (a 30), .ref (a 31), .ref (a 32), .ref (a 33), .int (nI nd)])), (a 30, .inl (cI, 300, .inl fo)), (a 31, .inl (cI, 300, .inl fc)), (a 32, .inl (cI, 300, .inl fs)), (a 33, .inl (cI, 300, .inl fu))] sz)) 0 0 (va_A [(a 0, .inr (7, [.ref (a 1), .ref (a 10), .ref (a 23), .ref (a 24), .ref (a 26), .ref (a 29), .ref (a 34), .ref (a 43), .int (nI nh), .int (nI nf), .int clk, .int hi])), (a 34, .inr (2, [.ref (a 35), .ref (a 36), .ref (a 37), .ref (a 38), .ref (a 39), .ref (a 40), .ref (a 41), .ref (a 42), .int (nI ne)])), (a 35, .inl (cI, 8, .inl e0)), (a 36, .inl (cI, 8, .inl e1)), (a 37, .inl (cI, 8, .inl e2)), (a 38, .inl (cI, 256, .inl e3)), (a 39, .inl (cI, 256, .inl e4)), (a 40, .inl (cI, 8, .inl e5)), (a 41, .inl (cI, 8, .inl e6)), (a 42, .inl (cI, 8, .inl e7)), (a 29, .inr (1, [.ref (a 30), .ref (a 31), .ref (a 32), .ref (a 33), .int (nI nd)])), (a 30, .inl (cI, 300, .inl fo)), (a 31, .inl (cI, 300, .inl fc)), (a 32, .inl (cI, 300, .inl fs)), (a 33, .inl (cI, 300, .inl fu))] sz) := by
  refine Met.ofW (cc := cX7_payment) (maxL := 3) (ret := (some .int)) (by decide) rfl ?_
  intro p e s m args below meth c s₁ B hml hv
  obtain ⟨rfl, hsz, hP, hK, hD0, hN⟩ := hv
  have hx := B.exec
  have hb := B.bytes
  have hr := B.returns
  have hts := atoms_spec (ws := zz_w yX7_payment cX7_payment 3 (some .int)) B.pre
  have hw : ∀ w ∈ zz_all, w.before _ s = true := fun w h => hts w (List.mem_cons_of_mem _ h)
  have hown : s.vm.findClass RX7 = some m.cls := findClass_of_methodNamed B.named
  have hlocks := B.notSynchronized
  subst hsz
  have hD := hD0.self (sz := s.heap.size)
  generalize hAe : va_A [(a 0, .inr (7, [.ref (a 1), .ref (a 10), .ref (a 23), .ref (a 24), .ref (a 26), .ref (a 29), .ref (a 34), .ref (a 43), .int (nI nh), .int (nI nf), .int clk, .int hi])), (a 34, .inr (2, [.ref (a 35), .ref (a 36), .ref (a 37), .ref (a 38), .ref (a 39), .ref (a 40), .ref (a 41), .ref (a 42), .int (nI ne)])), (a 35, .inl (cI, 8, .inl e0)), (a 36, .inl (cI, 8, .inl e1)), (a 37, .inl (cI, 8, .inl e2)), (a 38, .inl (cI, 256, .inl e3)), (a 39, .inl (cI, 256, .inl e4)), (a 40, .inl (cI, 8, .inl e5)), (a 41, .inl (cI, 8, .inl e6)), (a 42, .inl (cI, 8, .inl e7)), (a 29, .inr (1, [.ref (a 30), .ref (a 31), .ref (a 32), .ref (a 33), .int (nI nd)])), (a 30, .inl (cI, 300, .inl fo)), (a 31, .inl (cI, 300, .inl fc)), (a 32, .inl (cI, 300, .inl fs)), (a 33, .inl (cI, 300, .inl fu))] s.heap.size = A at hD ⊢
  have hA : ∀ q : Nat, s.heap.size ≤ q → A q := fun q h => by rw [← hAe]; exact Or.inr h
  have hS : va_S A s.heap s.heap [] := va_S.rf
  have hP : va_P (dC, dI) vwCl [(a 0, .inr (7, [.ref (a 1), .ref (a 10), .ref (a 23), .ref (a 24), .ref (a 26), .ref (a 29), .ref (a 34), .ref (a 43), .int (nI nh), .int (nI nf), .int clk, .int hi])), (a 34, .inr (2, [.ref (a 35), .ref (a 36), .ref (a 37), .ref (a 38), .ref (a 39), .ref (a 40), .ref (a 41), .ref (a 42), .int (nI ne)])), (a 35, .inl (cI, 8, .inl e0)), (a 36, .inl (cI, 8, .inl e1)), (a 37, .inl (cI, 8, .inl e2)), (a 38, .inl (cI, 256, .inl e3)), (a 39, .inl (cI, 256, .inl e4)), (a 40, .inl (cI, 8, .inl e5)), (a 41, .inl (cI, 8, .inl e6)), (a 42, .inl (cI, 8, .inl e7)), (a 29, .inr (1, [.ref (a 30), .ref (a 31), .ref (a 32), .ref (a 33), .int (nI nd)])), (a 30, .inl (cI, 300, .inl fo)), (a 31, .inl (cI, 300, .inl fc)), (a 32, .inl (cI, 300, .inl fs)), (a 33, .inl (cI, 300, .inl fu))] s.heap := hP
  have hl := lv_entry ([.ref (a 0), .int p0, .int p1]) (n := 3) (Nat.le_of_ble_eq_true rfl)
  rw [lg_entry_eq]
  generalize (lg_sl ([.ref (a 0), .int p0, .int p1]) ++ List.replicate (3 - (lg_sl ([.ref (a 0), .int p0, .int p1])).length) Slot.unset).toArray = ls at hl ⊢
  have hl : lv_has ls 3 [(0, .ref (a 0)), (1, .int p0), (2, .int p1)] := hl
  refine lv_aload_n hx hb dX7_payment_0 rfl (lv_at hl 0 rfl) ?_
  refine va_get (D := (dC, dI)) (ci := 7) (v := .ref (a 34)) (C := RX7) (T := TX7) (N := 12) hx hb hw zz_inX7 hown hK hP 0 rfl rfl 6 (by decide) (hw _ tw_138) (fun _ h9 => h9) rfl dX7_payment_1 ?_
  refine lv_aload_n hx hb dX7_payment_4 rfl (lv_at hl 0 rfl) ?_
  refine va_get (D := (dC, dI)) (ci := 7) (v := .ref (a 29)) (C := RX7) (T := TX7) (N := 12) hx hb hw zz_inX7 hown hK hP 0 rfl rfl 5 (by decide) (hw _ tw_44) (fun _ h9 => h9) rfl dX7_payment_5 ?_
  obtain ⟨hPc, hDc⟩ := zz_sub2 (ws' := [(a 34, .inr (2, [.ref (a 35), .ref (a 36), .ref (a 37), .ref (a 38), .ref (a 39), .ref (a 40), .ref (a 41), .ref (a 42), .int (nI ne)])), (a 35, .inl (cI, 8, .inl e0)), (a 36, .inl (cI, 8, .inl e1)), (a 37, .inl (cI, 8, .inl e2)), (a 38, .inl (cI, 256, .inl e3)), (a 39, .inl (cI, 256, .inl e4)), (a 40, .inl (cI, 8, .inl e5)), (a 41, .inl (cI, 8, .inl e6)), (a 42, .inl (cI, 8, .inl e7)), (a 29, .inr (1, [.ref (a 30), .ref (a 31), .ref (a 32), .ref (a 33), .int (nI nd)])), (a 30, .inl (cI, 300, .inl fo)), (a 31, .inl (cI, 300, .inl fc)), (a 32, .inl (cI, 300, .inl fs)), (a 33, .inl (cI, 300, .inl fu))]) hP hD [1, 2, 3, 4, 5, 6, 7, 8, 9, 10, 11, 12, 13, 14] (by decide) rfl
  have hKc := hK.sub (tys' := [(cI, .int)]) [0] rfl
  have hFc := zz_free1 hDc hS hA
  refine va_callv (va_runVN (As := [.ref (a 29)]) (rest := []) ⟨hx, hb, hml, hown, hw⟩ (kx_tellFor l dC dI a cI ne e0 e1 e2 e3 e4 e5 e6 e7 nd fo fc fs fu bu s.heap.size (by omega) (by omega) hrd hrc hru hbu he40 hPY) ⟨va_cnB 1 hw (zz_good tw_139) rfl rfl rfl (hN.1 _ zz_n60) (hw _ tw_107) (by decide +kernel) ⟨Nat.le_of_ble_eq_true rfl, Nat.le_of_ble_eq_true rfl⟩, (hw _ tw_140), (hw _ tw_141)⟩ ⟨zz_blind, va_recv hKc hPc (ci := 2) (q0 := 0) rfl rfl, zz_pre hPc hKc hDc hN⟩ rfl rfl hl.1 rfl (lv_room (Nat.le_of_ble_eq_true rfl)) dX7_payment_8 ⟨Nat.le_of_ble_eq_true rfl, Nat.le_of_ble_eq_true rfl⟩) hS (fun q _ h => hFc q h) hFc (fun u_1 t H1 locs ht hvm e_1 hB hz1 hk1 hS => ?_)
  try dsimp only at e_1
  obtain ⟨v_1_0, v_1_1, v_1_2, v_1_3, v_1_4, v_1_5, v_1_6, v_1_7, v_1_8⟩ := u_1
  obtain ⟨hP1, hK1, hD1⟩ := hB
  rw [ht] at hP1
  have hK1 := va_K.moved hvm.symm hK1
  try dsimp only at e_1
  obtain ⟨hP, hD⟩ := va_join (wr := [(a 0, .inr (7, [.ref (a 1), .ref (a 10), .ref (a 23), .ref (a 24), .ref (a 26), .ref (a 29), .ref (a 34), .ref (a 43), .int (nI nh), .int (nI nf), .int clk, .int hi]))]) (w1 := [(a 34, .inr (2, [.ref (a 35), .ref (a 36), .ref (a 37), .ref (a 38), .ref (a 39), .ref (a 40), .ref (a 41), .ref (a 42), .int (nI v_1_0)])), (a 35, .inl (cI, 8, .inl v_1_1)), (a 36, .inl (cI, 8, .inl v_1_2)), (a 37, .inl (cI, 8, .inl v_1_3)), (a 38, .inl (cI, 256, .inl v_1_4)), (a 39, .inl (cI, 256, .inl v_1_5)), (a 40, .inl (cI, 8, .inl v_1_6)), (a 41, .inl (cI, 8, .inl v_1_7)), (a 42, .inl (cI, 8, .inl v_1_8)), (a 29, .inr (1, [.ref (a 30), .ref (a 31), .ref (a 32), .ref (a 33), .int (nI nd)])), (a 30, .inl (cI, 300, .inl fo)), (a 31, .inl (cI, 300, .inl fc)), (a 32, .inl (cI, 300, .inl fs)), (a 33, .inl (cI, 300, .inl fu))]) hP hD [1, 2, 3, 4, 5, 6, 7, 8, 9, 10, 11, 12, 13, 14] [0] rfl rfl (by decide) (by decide) hk1 hFc hP1 hD1
  clear hk1 ht hvm
  generalize H1 = H at hP hS ⊢
  obtain ⟨hP, hD⟩ := zz_ty (D := (dC, dI)) (cl := vwCl) (A := A) (H := H) [(a 0, .inr (7, [.ref (a 1), .ref (a 10), .ref (a 23), .ref (a 24), .ref (a 26), .ref (a 29), .ref (a 34), .ref (a 43), .int (nI nh), .int (nI nf), .int clk, .int hi])), (a 34, .inr (2, [.ref (a 35), .ref (a 36), .ref (a 37), .ref (a 38), .ref (a 39), .ref (a 40), .ref (a 41), .ref (a 42), .int (nI v_1_0)])), (a 35, .inl (cI, 8, .inl v_1_1)), (a 36, .inl (cI, 8, .inl v_1_2)), (a 37, .inl (cI, 8, .inl v_1_3)), (a 38, .inl (cI, 256, .inl v_1_4)), (a 39, .inl (cI, 256, .inl v_1_5)), (a 40, .inl (cI, 8, .inl v_1_6)), (a 41, .inl (cI, 8, .inl v_1_7)), (a 42, .inl (cI, 8, .inl v_1_8)), (a 29, .inr (1, [.ref (a 30), .ref (a 31), .ref (a 32), .ref (a 33), .int (nI nd)])), (a 30, .inl (cI, 300, .inl fo)), (a 31, .inl (cI, 300, .inl fc)), (a 32, .inl (cI, 300, .inl fs)), (a 33, .inl (cI, 300, .inl fu))] hP hD rfl
  have hn28 := e_1.2.2.1
  refine lv_iload_n hx hb dX7_payment_11 rfl (lv_at hl 1 rfl) ?_
  refine lv_iconst (v := 0) hx hb dX7_payment_12 (by decide) ?_
  refine lv_aload_n hx hb dX7_payment_13 rfl (lv_at hl 0 rfl) ?_
  refine va_get (D := (dC, dI)) (ci := 7) (v := .ref (a 34)) (C := RX7) (T := TX7) (N := 12) hx hb hw zz_inX7 hown hK hP 0 rfl rfl 6 (by decide) (hw _ tw_138) (fun _ h9 => h9) rfl dX7_payment_14 ?_
  refine va_getN (D := (dC, dI)) (ci := 2) (v := .int (nI v_1_0)) (C := RX2) (T := TX2) (N := 9) hx hb hw zz_inX2 hown hK hP 1 rfl rfl 8 (by decide) (hN.use zz_n42) (fun _ h9 => h9) rfl dX7_payment_17 ?_
  refine lv_iconst (v := 1) hx hb dX7_payment_20 (by decide) ?_
  refine lv_isub hx hb dX7_payment_21 ?_
  obtain ⟨hPc, hDc⟩ := zz_sub2 (ws' := []) hP hD [] (by decide) rfl
  have hKc := hK.sub (tys' := []) [] rfl
  have hFc := zz_free0 hS hA
  refine va_calli (va_runS (As := [.int p0, .int 0, .int ((nI v_1_0) - 1)]) (rest := []) ⟨hx, hb, hml, hown, hw⟩ (k_within l dC dI p0 0 ((nI v_1_0) - 1) H.size) ⟨callB_of 3 hw (zz_good tw_1) rfl rfl rfl (hw _ tw_2) (hw _ tw_3) (by decide +kernel) ⟨Nat.le_of_ble_eq_true rfl, Nat.le_of_ble_eq_true rfl⟩, (hw _ tw_4)⟩ ⟨zz_blind, zz_pre hPc hKc hDc hN⟩ rfl rfl hl.1 rfl (lv_room (Nat.le_of_ble_eq_true rfl)) dX7_payment_22 ⟨Nat.le_of_ble_eq_true rfl, Nat.le_of_ble_eq_true rfl⟩) hS (fun q _ h => hFc q h) hFc (fun r_2 u_2 t H1 locs ht hvm e_2 hB hz1 hk1 hS => ?_)
  try dsimp only at e_2
  have hP := zz_keep hP hk1
  clear hk1 hB ht hvm
  generalize H1 = H at hP hS ⊢
  refine lv_if_ne (tgt := 30) hx hb dX7_payment_25 (by decide) (fun c_3 => ?_) (fun c_3 => ?_)
  · have zc_3 := c_3
    rw [e_2, zz_in0, Int32.le_iff_toInt_le, Int32.le_iff_toInt_le] at zc_3
    try rw [show (0 : Int32).toInt = 0 from by decide] at zc_3
    try rw [zz_pred (c := v_1_0) (by omega)] at zc_3
    refine lv_iload_n hx hb dX7_payment_30 rfl (lv_at hl 2 rfl) ?_
    by_cases c_4 : p1 = 0
    · have zc_4 := c_4
      rw [← Int32.toInt_inj] at zc_4
      try rw [show (0 : Int32).toInt = 0 from by decide] at zc_4
      refine lv_tableIn (tgt := 56) hx hb dX7_payment_31 (by rw [c_4]; decide) (by rw [c_4]; decide) (by rw [c_4]; rfl) (by decide) ?_
      refine lv_aload_n hx hb dX7_payment_56 rfl (lv_at hl 0 rfl) ?_
      refine va_get (D := (dC, dI)) (ci := 7) (v := .ref (a 34)) (C := RX7) (T := TX7) (N := 12) hx hb hw zz_inX7 hown hK hP 0 rfl rfl 6 (by decide) (hw _ tw_138) (fun _ h9 => h9) rfl dX7_payment_57 ?_
      refine va_getN (D := (dC, dI)) (ci := 2) (v := .ref (a 40)) (C := RX2) (T := TX2) (N := 9) hx hb hw zz_inX2 hown hK hP 1 rfl rfl 5 (by decide) (hN.use zz_n39) (fun _ h9 => h9) rfl dX7_payment_60 ?_
      refine lv_iload_n hx hb dX7_payment_63 rfl (lv_at hl 1 rfl) ?_
      refine va_iald hx hb hK hP 7 0 rfl rfl (vp_in_iff.mpr (by constructor <;> omega)) dX7_payment_64 ?_
      obtain ⟨hP9, hD9⟩ := zz_sub2 (ws' := [(a 0, .inr (7, [.ref (a 1), .ref (a 10), .ref (a 23), .ref (a 24), .ref (a 26), .ref (a 29), .ref (a 34), .ref (a 43), .int (nI nh), .int (nI nf), .int clk, .int hi])), (a 34, .inr (2, [.ref (a 35), .ref (a 36), .ref (a 37), .ref (a 38), .ref (a 39), .ref (a 40), .ref (a 41), .ref (a 42), .int (nI v_1_0)])), (a 35, .inl (cI, 8, .inl v_1_1)), (a 36, .inl (cI, 8, .inl v_1_2)), (a 37, .inl (cI, 8, .inl v_1_3)), (a 38, .inl (cI, 256, .inl v_1_4)), (a 39, .inl (cI, 256, .inl v_1_5)), (a 40, .inl (cI, 8, .inl v_1_6)), (a 41, .inl (cI, 8, .inl v_1_7)), (a 42, .inl (cI, 8, .inl v_1_8)), (a 29, .inr (1, [.ref (a 30), .ref (a 31), .ref (a 32), .ref (a 33), .int (nI nd)])), (a 30, .inl (cI, 300, .inl fo)), (a 31, .inl (cI, 300, .inl fc)), (a 32, .inl (cI, 300, .inl fs)), (a 33, .inl (cI, 300, .inl fu))]) hP hD [0, 1, 2, 3, 4, 5, 6, 7, 8, 9, 10, 11, 12, 13, 14] (by decide) rfl
      have hK9 := hK.sub (tys' := [(cI, .int)]) [0] rfl
      exact W.iret (v := (v_1_6 (Int32.toNatClampNeg p0))) hx hb hr (fun t ht hW => ⟨⟨(v_1_6 (Int32.toNatClampNeg p0)), (v_1_0, v_1_1, v_1_2, v_1_3, v_1_4, v_1_5, v_1_6, v_1_7, v_1_8), rfl, ⟨(by unfold zz_pyV; rw [if_pos (by omega), if_pos c_4]), e_1⟩, by rw [ht]; exact hP9, va_K.moved hW.alike hK9, hD9⟩, hS.F ht⟩) hS.2.2 dX7_payment_65
    by_cases c_5 : p1 = 1
    · have zc_5 := c_5
      rw [← Int32.toInt_inj] at zc_5
      try rw [show (1 : Int32).toInt = 1 from by decide] at zc_5
      refine lv_tableIn (tgt := 66) hx hb dX7_payment_31 (by rw [c_5]; decide) (by rw [c_5]; decide) (by rw [c_5]; rfl) (by decide) ?_
      refine lv_aload_n hx hb dX7_payment_66 rfl (lv_at hl 0 rfl) ?_
      refine va_get (D := (dC, dI)) (ci := 7) (v := .ref (a 34)) (C := RX7) (T := TX7) (N := 12) hx hb hw zz_inX7 hown hK hP 0 rfl rfl 6 (by decide) (hw _ tw_138) (fun _ h9 => h9) rfl dX7_payment_67 ?_
      refine va_getN (D := (dC, dI)) (ci := 2) (v := .ref (a 41)) (C := RX2) (T := TX2) (N := 9) hx hb hw zz_inX2 hown hK hP 1 rfl rfl 6 (by decide) (hN.use zz_n40) (fun _ h9 => h9) rfl dX7_payment_70 ?_
      refine lv_iload_n hx hb dX7_payment_73 rfl (lv_at hl 1 rfl) ?_
      refine va_iald hx hb hK hP 8 0 rfl rfl (vp_in_iff.mpr (by constructor <;> omega)) dX7_payment_74 ?_
      obtain ⟨hP9, hD9⟩ := zz_sub2 (ws' := [(a 0, .inr (7, [.ref (a 1), .ref (a 10), .ref (a 23), .ref (a 24), .ref (a 26), .ref (a 29), .ref (a 34), .ref (a 43), .int (nI nh), .int (nI nf), .int clk, .int hi])), (a 34, .inr (2, [.ref (a 35), .ref (a 36), .ref (a 37), .ref (a 38), .ref (a 39), .ref (a 40), .ref (a 41), .ref (a 42), .int (nI v_1_0)])), (a 35, .inl (cI, 8, .inl v_1_1)), (a 36, .inl (cI, 8, .inl v_1_2)), (a 37, .inl (cI, 8, .inl v_1_3)), (a 38, .inl (cI, 256, .inl v_1_4)), (a 39, .inl (cI, 256, .inl v_1_5)), (a 40, .inl (cI, 8, .inl v_1_6)), (a 41, .inl (cI, 8, .inl v_1_7)), (a 42, .inl (cI, 8, .inl v_1_8)), (a 29, .inr (1, [.ref (a 30), .ref (a 31), .ref (a 32), .ref (a 33), .int (nI nd)])), (a 30, .inl (cI, 300, .inl fo)), (a 31, .inl (cI, 300, .inl fc)), (a 32, .inl (cI, 300, .inl fs)), (a 33, .inl (cI, 300, .inl fu))]) hP hD [0, 1, 2, 3, 4, 5, 6, 7, 8, 9, 10, 11, 12, 13, 14] (by decide) rfl
      have hK9 := hK.sub (tys' := [(cI, .int)]) [0] rfl
      exact W.iret (v := (v_1_7 (Int32.toNatClampNeg p0))) hx hb hr (fun t ht hW => ⟨⟨(v_1_7 (Int32.toNatClampNeg p0)), (v_1_0, v_1_1, v_1_2, v_1_3, v_1_4, v_1_5, v_1_6, v_1_7, v_1_8), rfl, ⟨(by unfold zz_pyV; rw [if_pos (by omega), if_neg (by rw [c_5]; decide), if_pos c_5]), e_1⟩, by rw [ht]; exact hP9, va_K.moved hW.alike hK9, hD9⟩, hS.F ht⟩) hS.2.2 dX7_payment_75
    by_cases c_6 : p1 = 2
    · have zc_6 := c_6
      rw [← Int32.toInt_inj] at zc_6
      try rw [show (2 : Int32).toInt = 2 from by decide] at zc_6
      refine lv_tableIn (tgt := 76) hx hb dX7_payment_31 (by rw [c_6]; decide) (by rw [c_6]; decide) (by rw [c_6]; rfl) (by decide) ?_
      refine lv_aload_n hx hb dX7_payment_76 rfl (lv_at hl 0 rfl) ?_
      refine va_get (D := (dC, dI)) (ci := 7) (v := .ref (a 34)) (C := RX7) (T := TX7) (N := 12) hx hb hw zz_inX7 hown hK hP 0 rfl rfl 6 (by decide) (hw _ tw_138) (fun _ h9 => h9) rfl dX7_payment_77 ?_
      refine va_getN (D := (dC, dI)) (ci := 2) (v := .ref (a 42)) (C := RX2) (T := TX2) (N := 9) hx hb hw zz_inX2 hown hK hP 1 rfl rfl 7 (by decide) (hN.use zz_n41) (fun _ h9 => h9) rfl dX7_payment_80 ?_
      refine lv_iload_n hx hb dX7_payment_83 rfl (lv_at hl 1 rfl) ?_
      refine va_iald hx hb hK hP 9 0 rfl rfl (vp_in_iff.mpr (by constructor <;> omega)) dX7_payment_84 ?_
      obtain ⟨hP9, hD9⟩ := zz_sub2 (ws' := [(a 0, .inr (7, [.ref (a 1), .ref (a 10), .ref (a 23), .ref (a 24), .ref (a 26), .ref (a 29), .ref (a 34), .ref (a 43), .int (nI nh), .int (nI nf), .int clk, .int hi])), (a 34, .inr (2, [.ref (a 35), .ref (a 36), .ref (a 37), .ref (a 38), .ref (a 39), .ref (a 40), .ref (a 41), .ref (a 42), .int (nI v_1_0)])), (a 35, .inl (cI, 8, .inl v_1_1)), (a 36, .inl (cI, 8, .inl v_1_2)), (a 37, .inl (cI, 8, .inl v_1_3)), (a 38, .inl (cI, 256, .inl v_1_4)), (a 39, .inl (cI, 256, .inl v_1_5)), (a 40, .inl (cI, 8, .inl v_1_6)), (a 41, .inl (cI, 8, .inl v_1_7)), (a 42, .inl (cI, 8, .inl v_1_8)), (a 29, .inr (1, [.ref (a 30), .ref (a 31), .ref (a 32), .ref (a 33), .int (nI nd)])), (a 30, .inl (cI, 300, .inl fo)), (a 31, .inl (cI, 300, .inl fc)), (a 32, .inl (cI, 300, .inl fs)), (a 33, .inl (cI, 300, .inl fu))]) hP hD [0, 1, 2, 3, 4, 5, 6, 7, 8, 9, 10, 11, 12, 13, 14] (by decide) rfl
      have hK9 := hK.sub (tys' := [(cI, .int)]) [0] rfl
      exact W.iret (v := (v_1_8 (Int32.toNatClampNeg p0))) hx hb hr (fun t ht hW => ⟨⟨(v_1_8 (Int32.toNatClampNeg p0)), (v_1_0, v_1_1, v_1_2, v_1_3, v_1_4, v_1_5, v_1_6, v_1_7, v_1_8), rfl, ⟨(by unfold zz_pyV; rw [if_pos (by omega), if_neg (by rw [c_6]; decide), if_neg (by rw [c_6]; decide), if_pos c_6]), e_1⟩, by rw [ht]; exact hP9, va_K.moved hW.alike hK9, hD9⟩, hS.F ht⟩) hS.2.2 dX7_payment_85
    refine lv_tableOut (tgt := 86) hx hb dX7_payment_31 (by have := zz_ne c_4; rw [show (0 : Int32).toInt = 0 from by decide] at this; have := zz_ne c_5; rw [show (1 : Int32).toInt = 1 from by decide] at this; have := zz_ne c_6; rw [show (2 : Int32).toInt = 2 from by decide] at this; omega) (by decide) ?_
    have zc_4 := c_4
    rw [← Int32.toInt_inj] at zc_4
    try rw [show (0 : Int32).toInt = 0 from by decide] at zc_4
    have zc_5 := c_5
    rw [← Int32.toInt_inj] at zc_5
    try rw [show (1 : Int32).toInt = 1 from by decide] at zc_5
    have zc_6 := c_6
    rw [← Int32.toInt_inj] at zc_6
    try rw [show (2 : Int32).toInt = 2 from by decide] at zc_6
    refine lv_iconst (v := (-1)) hx hb dX7_payment_86 (by decide) ?_
    obtain ⟨hP9, hD9⟩ := zz_sub2 (ws' := [(a 0, .inr (7, [.ref (a 1), .ref (a 10), .ref (a 23), .ref (a 24), .ref (a 26), .ref (a 29), .ref (a 34), .ref (a 43), .int (nI nh), .int (nI nf), .int clk, .int hi])), (a 34, .inr (2, [.ref (a 35), .ref (a 36), .ref (a 37), .ref (a 38), .ref (a 39), .ref (a 40), .ref (a 41), .ref (a 42), .int (nI v_1_0)])), (a 35, .inl (cI, 8, .inl v_1_1)), (a 36, .inl (cI, 8, .inl v_1_2)), (a 37, .inl (cI, 8, .inl v_1_3)), (a 38, .inl (cI, 256, .inl v_1_4)), (a 39, .inl (cI, 256, .inl v_1_5)), (a 40, .inl (cI, 8, .inl v_1_6)), (a 41, .inl (cI, 8, .inl v_1_7)), (a 42, .inl (cI, 8, .inl v_1_8)), (a 29, .inr (1, [.ref (a 30), .ref (a 31), .ref (a 32), .ref (a 33), .int (nI nd)])), (a 30, .inl (cI, 300, .inl fo)), (a 31, .inl (cI, 300, .inl fc)), (a 32, .inl (cI, 300, .inl fs)), (a 33, .inl (cI, 300, .inl fu))]) hP hD [0, 1, 2, 3, 4, 5, 6, 7, 8, 9, 10, 11, 12, 13, 14] (by decide) rfl
    have hK9 := hK.sub (tys' := [(cI, .int)]) [0] rfl
    exact W.iret (v := (-1)) hx hb hr (fun t ht hW => ⟨⟨(-1), (v_1_0, v_1_1, v_1_2, v_1_3, v_1_4, v_1_5, v_1_6, v_1_7, v_1_8), rfl, ⟨(by unfold zz_pyV; rw [if_pos (by omega), if_neg c_4, if_neg c_5, if_neg c_6]), e_1⟩, by rw [ht]; exact hP9, va_K.moved hW.alike hK9, hD9⟩, hS.F ht⟩) hS.2.2 dX7_payment_87
  · have zc_3 := c_3
    rw [e_2, zz_in0, Int32.le_iff_toInt_le, Int32.le_iff_toInt_le] at zc_3
    try rw [show (0 : Int32).toInt = 0 from by decide] at zc_3
    try rw [zz_pred (c := v_1_0) (by omega)] at zc_3
    refine lv_iconst (v := (-1)) hx hb dX7_payment_28 (by decide) ?_
    obtain ⟨hP9, hD9⟩ := zz_sub2 (ws' := [(a 0, .inr (7, [.ref (a 1), .ref (a 10), .ref (a 23), .ref (a 24), .ref (a 26), .ref (a 29), .ref (a 34), .ref (a 43), .int (nI nh), .int (nI nf), .int clk, .int hi])), (a 34, .inr (2, [.ref (a 35), .ref (a 36), .ref (a 37), .ref (a 38), .ref (a 39), .ref (a 40), .ref (a 41), .ref (a 42), .int (nI v_1_0)])), (a 35, .inl (cI, 8, .inl v_1_1)), (a 36, .inl (cI, 8, .inl v_1_2)), (a 37, .inl (cI, 8, .inl v_1_3)), (a 38, .inl (cI, 256, .inl v_1_4)), (a 39, .inl (cI, 256, .inl v_1_5)), (a 40, .inl (cI, 8, .inl v_1_6)), (a 41, .inl (cI, 8, .inl v_1_7)), (a 42, .inl (cI, 8, .inl v_1_8)), (a 29, .inr (1, [.ref (a 30), .ref (a 31), .ref (a 32), .ref (a 33), .int (nI nd)])), (a 30, .inl (cI, 300, .inl fo)), (a 31, .inl (cI, 300, .inl fc)), (a 32, .inl (cI, 300, .inl fs)), (a 33, .inl (cI, 300, .inl fu))]) hP hD [0, 1, 2, 3, 4, 5, 6, 7, 8, 9, 10, 11, 12, 13, 14] (by decide) rfl
    have hK9 := hK.sub (tys' := [(cI, .int)]) [0] rfl
    exact W.iret (v := (-1)) hx hb hr (fun t ht hW => ⟨⟨(-1), (v_1_0, v_1_1, v_1_2, v_1_3, v_1_4, v_1_5, v_1_6, v_1_7, v_1_8), rfl, ⟨(by unfold zz_pyV; rw [if_neg (by omega)]), e_1⟩, by rw [ht]; exact hP9, va_K.moved hW.alike hK9, hD9⟩, hS.F ht⟩) hS.2.2 dX7_payment_29
