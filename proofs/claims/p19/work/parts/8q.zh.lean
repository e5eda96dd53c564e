theorem zz_cpx {g e : Nat → Int32} {j : Nat} (h : ∀ i : Nat, i < j → g i = e i) (hj : j < 2147483648) : ∀ i : Nat, i < j + 1 → upd g (Int32.toNatClampNeg (nI j)) (e j) i = e i := by
  intro i hi
  rw [zz_cl hj]
  by_cases q : i = j
  · rw [q, zz_up_s]
  · rw [zz_up_n q]; exact h i (by omega)
theorem zz_TL0 {N : Nat → Int32} {c : Nat → Int} {f : Nat} : zz_TL N c f 0 [] := by
  cases f with
  | zero => exact ⟨rfl, rfl⟩
  | succ f => exact Or.inl ⟨rfl, rfl⟩
theorem zz_TLs {N d : Nat → Int32} {c : Nat → Int} {i r p U : Nat} {lk : List (Nat × Nat × Int32)} (iT : ∀ l2 : List (Nat × Nat × Int32), zz_TL N c (8 - i) r l2 → zz_TL N c 8 U (lk ++ l2)) (hi : i < 8) (hr : ¬ r = 0) (lq : zz_LQ N c r p) (hd : ∀ h : Nat, p.testBit h = true → d h = N h) : ∀ l2 : List (Nat × Nat × Int32), zz_TL N c (8 - (i + 1)) (r - p) l2 → zz_TL N c 8 U ((lk ++ (zz_evL p 8 d).1) ++ l2) := by
  intro l2 h
  rw [zz_evL_cg 8 d N hd, List.append_assoc]
  refine iT _ ?_
  rw [show 8 - i = (8 - (i + 1)) + 1 by omega]
  exact Or.inr ⟨hr, p, l2, lq, rfl, h⟩
theorem zz_rest0 {e d : Nat → Int32} {r U : Nat} (hc : zz_cn d 8 = 0) (hd : ∀ h : Nat, h < 8 → r.testBit h = true → d h = e h) (hU : zz_lf e U 8) (hr : r &&& U = r) : r = 0 := by
  have hU8 := zz_lf_256 hU (Nat.le_refl _)
  have hr8 : r < 256 := by have := zz_le_of hr; omega
  rcases Nat.eq_zero_or_pos r with z | z
  · exact z
  · obtain ⟨h, hh, hb⟩ := zz_one_bit hr8 z
    have a := (hU.2 h hh).mp (zz_in_of hr hb)
    rw [← hd h hh hb] at a
    exact absurd (zz_cn_0 8 hc h hh) a
theorem zz_cnx {e d u : Nat → Int32} {r U p : Nat} {c : Nat → Int} (hr1 : 1 ≤ r) (hd : ∀ h : Nat, h < 8 → r.testBit h = true → d h = e h) (hU : zz_lf e U 8) (hr : r &&& U = r) (lq : zz_LQ e c r p) (v3 : ∀ h : Nat, h < 8 → p.testBit h = true → u h = 0) (v4 : ∀ h : Nat, p.testBit h = false → u h = d h) : zz_cn u 8 + 1 ≤ zz_cn d 8 := by
  have hU8 := zz_lf_256 hU (Nat.le_refl _)
  have hr8 : r < 256 := by have := zz_le_of hr; omega
  have lz := zz_ls_in r hr8 hr1
  refine (zz_cn_dec 8 (fun h hh => ?_)).2 ⟨zz_ls r, lz.2, ?_, v3 _ lz.2 lq.1.2.2.1⟩
  · cases w : p.testBit h with
    | true => exact Or.inr (v3 h hh w)
    | false => exact Or.inl (v4 h w)
  · rw [hd _ lz.2 lz.1]
    exact (hU.2 _ lz.2).mp (zz_in_of hr lz.1)
set_option maxHeartbeats 4000000 in
set_option maxRecDepth 100000 in
theorem kx_tell (l : Launch) (dC : Nat → ClassId) (dI : Nat → Nat → Nat) (a : Nat → Nat) (cI : ClassId) (ne : Nat) (e0 : Nat → Int32) (e1 : Nat → Int32) (e2 : Nat → Int32) (e3 : Nat → Int32) (e4 : Nat → Int32) (e5 : Nat → Int32) (e6 : Nat → Int32) (e7 : Nat → Int32) (sz : Nat) (hne : ne ≤ 8) (hisb : ∀ p : Nat, -930000000 ≤ zz_is e0 p 8 ∧ zz_is e0 p 8 ≤ 930000000) (hz : zz_is e0 255 8 = 0) (hrz : zz_rg e0 8 (-930000000) 930000000) (he40 : e4 0 = 0) : Met l yX2_tell (zz_w yX2_tell cX2_tell 4 none) ({ frames := 2, cells := 0, slots := 0, locals := 48 }) (va_Pc [.ref (a 34)] (zz_B (dC, dI) sz [(a 34, .inr (2, [.ref (a 35), .ref (a 36), .ref (a 37), .ref (a 38), .ref (a 39), .ref (a 40), .ref (a 41), .ref (a 42), .int (nI ne)])), (a 35, .inl (cI, 8, .inl e0)), (a 36, .inl (cI, 8, .inl e1)), (a 37, .inl (cI, 8, .inl e2)), (a 38, .inl (cI, 256, .inl e3)), (a 39, .inl (cI, 256, .inl e4)), (a 40, .inl (cI, 8, .inl e5)), (a 41, .inl (cI, 8, .inl e6)), (a 42, .inl (cI, 8, .inl e7))] [(cI, .int)])) (va_Qv (fun (u : Nat × (Nat → Int32) × (Nat → Int32) × (Nat → Int32) × (Nat → Int32) × (Nat → Int32) × (Nat → Int32) × (Nat → Int32)) => match u with | (n2, u0, u2, u3, u4, f5, f6, f7) => (∃ (U : Nat) (l : List (Nat × Nat × Int32)), zz_lf e0 U 8 ∧ zz_PAY e0 U l ∧ zz_pw l n2 f5 f6 f7) ∧ n2 ≤ 8 ∧ u4 0 = 0) (fun (u : Nat × (Nat → Int32) × (Nat → Int32) × (Nat → Int32) × (Nat → Int32) × (Nat → Int32) × (Nat → Int32) × (Nat → Int32)) (t : State) => match u with | (u0, u1, u2, u3, u4, u5, u6, u7) => va_P (dC, dI) vwCl [(a 34, .inr (2, [.ref (a 35), .ref (a 36), .ref (a 37), .ref (a 38), .ref (a 39), .ref (a 40), .ref (a 41), .ref (a 42), .int (nI u0)])), (a 35, .inl (cI, 8, .inl e0)), (a 36, .inl (cI, 8, .inl e1)), (a 37, .inl (cI, 8, .inl u2)), (a 38, .inl (cI, 256, .inl u3)), (a 39, .inl (cI, 256, .inl u4)), (a 40, .inl (cI, 8, .inl u5)), (a 41, .inl (cI, 8, .inl u6)), (a 42, .inl (cI, 8, .inl u7))] t.heap ∧ va_K (dC, dI) vwCl [(cI, .int)] t ∧ va_D (va_A [(a 34, .inr (2, [.ref (a 35), .ref (a 36), .ref (a 37), .ref (a 38), .ref (a 39), .ref (a 40), .ref (a 41), .ref (a 42), .int (nI ne)])), (a 35, .inl (cI, 8, .inl e0)), (a 36, .inl (cI, 8, .inl e1)), (a 37, .inl (cI, 8, .inl e2)), (a 38, .inl (cI, 256, .inl e3)), (a 39, .inl (cI, 256, .inl e4)), (a 40, .inl (cI, 8, .inl e5)), (a 41, .inl (cI, 8, .inl e6)), (a 42, .inl (cI, 8, .inl e7))] sz) [(a 34, .inr (2, [.ref (a 35), .ref (a 36), .ref (a 37), .ref (a 38), .ref (a 39), .ref (a 40), .ref (a 41), .ref (a 42), .int (nI u0)])), (a 35, .inl (cI, 8, .inl e0)), (a 36, .inl (cI, 8, .inl e1)), (a 37, .inl (cI, 8, .inl u2)), (a 38, .inl (cI, 256, .inl u3)), (a 39, .inl (cI, 256, .inl u4)), (a 40, .inl (cI, 8, .inl u5)), (a 41, .inl (cI, 8, .inl u6)), (a 42, .inl (cI, 8, .inl u7))]) (va_A [(a 34, .inr (2, [.ref (a 35), .ref (a 36), .ref (a 37), .ref (a 38), .ref (a 39), .ref (a 40), .ref (a 41), .ref (a 42), .int (nI ne)])), (a 35, .inl (cI, 8, .inl e0)), (a 36, .inl (cI, 8, .inl e1)), (a 37, .inl (cI, 8, .inl e2)), (a 38, .inl (cI, 256, .inl e3)), (a 39, .inl (cI, 256, .inl e4)), (a 40, .inl (cI, 8, .inl e5)), (a 41, .inl (cI, 8, .inl e6)), (a 42, .inl (cI, 8, .inl e7))] sz)) 0 0 (va_A [(a 34, .inr (2, [.ref (a 35), .ref (a 36), .ref (a 37), .ref (a 38), .ref (a 39), .ref (a 40), .ref (a 41), .ref (a 42), .int (nI ne)])), (a 35, .inl (cI, 8, .inl e0)), (a 36, .inl (cI, 8, .inl e1)), (a 37, .inl (cI, 8, .inl e2)), (a 38, .inl (cI, 256, .inl e3)), (a 39, .inl (cI, 256, .inl e4)), (a 40, .inl (cI, 8, .inl e5)), (a 41, .inl (cI, 8, .inl e6)), (a 42, .inl (cI, 8, .inl e7))] sz) := by
  refine Met.ofW (cc := cX2_tell) (maxL := 4) (ret := none) (by decide) rfl ?_
  intro p e s m args below meth c s₁ B hml hv
  obtain ⟨rfl, hsz, hP, hK, hD0, hN⟩ := hv
  have hx := B.exec
  have hb := B.bytes
  have hr := B.returns
  have hts := atoms_spec (ws := zz_w yX2_tell cX2_tell 4 none) B.pre
  have hw : ∀ w ∈ zz_all, w.before _ s = true := fun w h => hts w (List.mem_cons_of_mem _ h)
  have hown : s.vm.findClass RX2 = some m.cls := findClass_of_methodNamed B.named
  have hlocks := B.notSynchronized
  subst hsz
  have hD := hD0.self (sz := s.heap.size)
  generalize hAe : va_A [(a 34, .inr (2, [.ref (a 35), .ref (a 36), .ref (a 37), .ref (a 38), .ref (a 39), .ref (a 40), .ref (a 41), .ref (a 42), .int (nI ne)])), (a 35, .inl (cI, 8, .inl e0)), (a 36, .inl (cI, 8, .inl e1)), (a 37, .inl (cI, 8, .inl e2)), (a 38, .inl (cI, 256, .inl e3)), (a 39, .inl (cI, 256, .inl e4)), (a 40, .inl (cI, 8, .inl e5)), (a 41, .inl (cI, 8, .inl e6)), (a 42, .inl (cI, 8, .inl e7))] s.heap.size = A at hD ⊢
  have hA : ∀ q : Nat, s.heap.size ≤ q → A q := fun q h => by rw [← hAe]; exact Or.inr h
  have hS : va_S A s.heap s.heap [] := va_S.rf
  have hP : va_P (dC, dI) vwCl [(a 34, .inr (2, [.ref (a 35), .ref (a 36), .ref (a 37), .ref (a 38), .ref (a 39), .ref (a 40), .ref (a 41), .ref (a 42), .int (nI ne)])), (a 35, .inl (cI, 8, .inl e0)), (a 36, .inl (cI, 8, .inl e1)), (a 37, .inl (cI, 8, .inl e2)), (a 38, .inl (cI, 256, .inl e3)), (a 39, .inl (cI, 256, .inl e4)), (a 40, .inl (cI, 8, .inl e5)), (a 41, .inl (cI, 8, .inl e6)), (a 42, .inl (cI, 8, .inl e7))] s.heap := hP
  have hl := lv_entry ([.ref (a 34)]) (n := 4) (Nat.le_of_ble_eq_true rfl)
  rw [lg_entry_eq]
  generalize (lg_sl ([.ref (a 34)]) ++ List.replicate (4 - (lg_sl ([.ref (a 34)])).length) Slot.unset).toArray = ls at hl ⊢
  have hl : lv_has ls 4 [(0, .ref (a 34))] := hl
  refine lv_aload_n hx hb dX2_tell_0 rfl (lv_at hl 0 rfl) ?_
  refine lv_iconst (v := 0) hx hb dX2_tell_1 (by decide) ?_
  refine va_put (D := (dC, dI)) (ci := 2) (v := .int 0) (ty := .int) (C := RX2) (T := TX2) (N := 9) hx hb hw zz_inX2 tyX2 tyX2_ok nmX2 hown hK hP hD hS 0 rfl rfl 8 (by decide) (hw _ tw_105) (fun _ h9 => h9) rfl (by decide +kernel) rfl rfl (Nat.le_of_ble_eq_true rfl) dX2_tell_2 (fun H locs hP hD hS => ?_)
  obtain ⟨hP, hD⟩ := zz_ty (D := (dC, dI)) (cl := vwCl) (A := A) (H := H) [(a 34, .inr (2, [.ref (a 35), .ref (a 36), .ref (a 37), .ref (a 38), .ref (a 39), .ref (a 40), .ref (a 41), .ref (a 42), .int 0])), (a 35, .inl (cI, 8, .inl e0)), (a 36, .inl (cI, 8, .inl e1)), (a 37, .inl (cI, 8, .inl e2)), (a 38, .inl (cI, 256, .inl e3)), (a 39, .inl (cI, 256, .inl e4)), (a 40, .inl (cI, 8, .inl e5)), (a 41, .inl (cI, 8, .inl e6)), (a 42, .inl (cI, 8, .inl e7))] hP hD rfl
  refine lv_iconst (v := 0) hx hb dX2_tell_5 (by decide) ?_
  refine lv_istore_n (lv' := [(1, .int 0), (0, .ref (a 34))]) hx hb dX2_tell_6 rfl hl (by decide) rfl (fun ls hl => ?_)
  refine lv_iconst (v := 0) hx hb dX2_tell_7 (by decide) ?_
  refine lv_istore_n (lv' := [(2, .int 0), (1, .int 0), (0, .ref (a 34))]) hx hb dX2_tell_8 rfl hl (by decide) rfl (fun ls hl => ?_)
  refine zz_loopS (fun (u : (Nat) × (Nat) × (Nat → Int32)) => match u with | (j, r1, g2) => [(a 34, .inr (2, [.ref (a 35), .ref (a 36), .ref (a 37), .ref (a 38), .ref (a 39), .ref (a 40), .ref (a 41), .ref (a 42), .int (nI 0)])), (a 35, .inl (cI, 8, .inl e0)), (a 36, .inl (cI, 8, .inl e1)), (a 37, .inl (cI, 8, .inl g2)), (a 38, .inl (cI, 256, .inl e3)), (a 39, .inl (cI, 256, .inl e4)), (a 40, .inl (cI, 8, .inl e5)), (a 41, .inl (cI, 8, .inl e6)), (a 42, .inl (cI, 8, .inl e7))]) (fun (u : (Nat) × (Nat) × (Nat → Int32)) => match u with | (j, r1, g2) => [(0, .ref (a 34)), (1, .int (nI r1)), (2, .int (nI j))]) (fun (u : (Nat) × (Nat) × (Nat → Int32)) => match u with | (j, r1, g2) => j ≤ 8 ∧ zz_lf e0 r1 j ∧ ∀ h : Nat, h < j → g2 h = e0 h) (fun (u : (Nat) × (Nat) × (Nat → Int32)) => match u with | (j, r1, g2) => 8 - j) (fun u hI H locs ls hP hD hS hl ih_9 => ?_) (0, 0, e2) ⟨by omega, zz_lf_0, fun h hh => absurd hh (Nat.not_lt_zero _)⟩ _ _ _ (hP.sub [0, 1, 2, 3, 4, 5, 6, 7, 8] rfl) (hD.sub [0, 1, 2, 3, 4, 5, 6, 7, 8] (by decide) rfl) hS (lv_sub hl [2, 1, 0] rfl)
  obtain ⟨j, r1, g2⟩ := u
  obtain ⟨hP, hD⟩ := zz_ty (D := (dC, dI)) (cl := vwCl) (A := A) (H := H) [(a 34, .inr (2, [.ref (a 35), .ref (a 36), .ref (a 37), .ref (a 38), .ref (a 39), .ref (a 40), .ref (a 41), .ref (a 42), .int (nI 0)])), (a 35, .inl (cI, 8, .inl e0)), (a 36, .inl (cI, 8, .inl e1)), (a 37, .inl (cI, 8, .inl g2)), (a 38, .inl (cI, 256, .inl e3)), (a 39, .inl (cI, 256, .inl e4)), (a 40, .inl (cI, 8, .inl e5)), (a 41, .inl (cI, 8, .inl e6)), (a 42, .inl (cI, 8, .inl e7))] hP hD rfl
  have hl : lv_has ls 4 [(0, .ref (a 34)), (1, .int (nI r1)), (2, .int (nI j))] := hl
  have hI : j ≤ 8 ∧ zz_lf e0 r1 j ∧ ∀ h : Nat, h < j → g2 h = e0 h := hI
  obtain ⟨ij, il, ig⟩ := hI
  refine lv_iload_n hx hb dX2_tell_9 rfl (lv_at hl 2 rfl) ?_
  refine lv_bipush (v := 8) hx hb dX2_tell_10 (by decide) ?_
  refine lv_icmp_ge (tgt := 48) hx hb dX2_tell_12 (by decide) (fun c_1 => ?_) (fun c_1 => ?_)
  · have zc_1 := c_1
    rw [Int32.le_iff_toInt_le] at zc_1
    try rw [zz_toInt j (by omega)] at zc_1
    try rw [show (8 : Int32).toInt = 8 from by decide] at zc_1
    have hU : zz_lf e0 r1 8 := by rw [show (8 : Nat) = j from by omega]; exact il
    have hU8 := zz_lf_256 hU (Nat.le_refl _)
    have hcp : ∀ h : Nat, h < 8 → g2 h = e0 h := fun h hh => ig h (by omega)
    have hUz : zz_is e0 r1 8 = 0 := (zz_is_supp 8 (Nat.le_refl _) (fun h hh hn => Classical.byContradiction (fun z => hn ((hU.2 h hh).mpr z)))).trans hz
    refine lv_aload_n hx hb dX2_tell_48 rfl (lv_at hl 0 rfl) ?_
    obtain ⟨hPc, hDc⟩ := zz_sub2 (ws' := [(a 34, .inr (2, [.ref (a 35), .ref (a 36), .ref (a 37), .ref (a 38), .ref (a 39), .ref (a 40), .ref (a 41), .ref (a 42), .int (nI 0)])), (a 35, .inl (cI, 8, .inl e0)), (a 38, .inl (cI, 256, .inl e3)), (a 39, .inl (cI, 256, .inl e4))]) hP hD [0, 1, 4, 5] (by decide) rfl
    have hKc := hK.sub (tys' := [(cI, .int)]) [0] rfl
    have hFc := zz_free1 hDc hS hA
    refine va_callv (va_runV (As := []) (rest := []) ⟨hx, hb, hml, hown, hw⟩ (kx_countGroups l dC dI a cI 0 e0 e3 e4 H.size he40) ⟨callB_of 0 hw (zz_good tw_117) rfl rfl rfl (hw _ tw_107) (hw _ tw_118) (by decide +kernel) ⟨Nat.le_of_ble_eq_true rfl, Nat.le_of_ble_eq_true rfl⟩, (hw _ tw_119), (hw _ tw_120)⟩ ⟨zz_blind, va_recv hKc hPc (ci := 2) (q0 := 0) rfl rfl, zz_pre hPc hKc hDc hN⟩ rfl rfl hl.1 rfl (lv_room (Nat.le_of_ble_eq_true rfl)) dX2_tell_49 ⟨Nat.le_of_ble_eq_true rfl, Nat.le_of_ble_eq_true rfl⟩) hS (fun q _ h => hFc q h) hFc (fun u_2 t H1 locs ht hvm e_2 hB hz1 hk1 hS => ?_)
    try dsimp only at e_2
    obtain ⟨g3c, g4c⟩ := u_2
    obtain ⟨hP1, hK1, hD1⟩ := hB
    rw [ht] at hP1
    have hK1 := va_K.moved hvm.symm hK1
    try dsimp only at e_2
    obtain ⟨hP, hD⟩ := va_join (wr := [(a 36, .inl (cI, 8, .inl e1)), (a 37, .inl (cI, 8, .inl g2)), (a 40, .inl (cI, 8, .inl e5)), (a 41, .inl (cI, 8, .inl e6)), (a 42, .inl (cI, 8, .inl e7))]) (w1 := [(a 34, .inr (2, [.ref (a 35), .ref (a 36), .ref (a 37), .ref (a 38), .ref (a 39), .ref (a 40), .ref (a 41), .ref (a 42), .int (nI 0)])), (a 35, .inl (cI, 8, .inl e0)), (a 38, .inl (cI, 256, .inl g3c)), (a 39, .inl (cI, 256, .inl g4c))]) hP hD [0, 1, 4, 5] [2, 3, 6, 7, 8] rfl rfl (by decide) (by decide) hk1 hFc hP1 hD1
    clear hk1 ht hvm
    generalize H1 = H at hP hS ⊢
    obtain ⟨hP, hD⟩ := zz_ty (D := (dC, dI)) (cl := vwCl) (A := A) (H := H) [(a 36, .inl (cI, 8, .inl e1)), (a 37, .inl (cI, 8, .inl g2)), (a 40, .inl (cI, 8, .inl e5)), (a 41, .inl (cI, 8, .inl e6)), (a 42, .inl (cI, 8, .inl e7)), (a 34, .inr (2, [.ref (a 35), .ref (a 36), .ref (a 37), .ref (a 38), .ref (a 39), .ref (a 40), .ref (a 41), .ref (a 42), .int (nI 0)])), (a 35, .inl (cI, 8, .inl e0)), (a 38, .inl (cI, 256, .inl g3c)), (a 39, .inl (cI, 256, .inl g4c))] hP hD rfl
    have egk := e_2
    obtain ⟨hRC, h3n, he4b⟩ := zz_RK_end hisb egk
    refine lv_iconst (v := 0) hx hb dX2_tell_52 (by decide) ?_
    refine lv_istore_n (lv' := [(2, .int 0), (0, .ref (a 34)), (1, .int (nI r1))]) hx hb dX2_tell_53 rfl hl (by decide) rfl (fun ls hl => ?_)
    refine zz_loopS (fun (u : (Nat) × (Nat) × (Nat) × (Nat → Int32) × (Nat → Int32) × (Nat → Int32) × (Nat → Int32) × (List (Nat × Nat × Int32))) => match u with | (i, r2, me, d2, d5, d6, d7, lk) => [(a 34, .inr (2, [.ref (a 35), .ref (a 36), .ref (a 37), .ref (a 38), .ref (a 39), .ref (a 40), .ref (a 41), .ref (a 42), .int (nI me)])), (a 35, .inl (cI, 8, .inl e0)), (a 36, .inl (cI, 8, .inl e1)), (a 37, .inl (cI, 8, .inl d2)), (a 38, .inl (cI, 256, .inl g3c)), (a 39, .inl (cI, 256, .inl g4c)), (a 40, .inl (cI, 8, .inl d5)), (a 41, .inl (cI, 8, .inl d6)), (a 42, .inl (cI, 8, .inl d7))]) (fun (u : (Nat) × (Nat) × (Nat) × (Nat → Int32) × (Nat → Int32) × (Nat → Int32) × (Nat → Int32) × (List (Nat × Nat × Int32))) => match u with | (i, r2, me, d2, d5, d6, d7, lk) => [(0, .ref (a 34)), (1, .int (nI r2)), (2, .int (nI i))]) (fun (u : (Nat) × (Nat) × (Nat) × (Nat → Int32) × (Nat → Int32) × (Nat → Int32) × (Nat → Int32) × (List (Nat × Nat × Int32))) => match u with | (i, r2, me, d2, d5, d6, d7, lk) => i ≤ 8 ∧ r2 &&& r1 = r2 ∧ zz_is e0 r2 8 = 0 ∧ (∀ h : Nat, h < 8 → Nat.testBit r2 h = true → d2 h = e0 h) ∧ zz_rg d2 8 (-930000000) 930000000 ∧ me + zz_cn d2 8 ≤ 8 ∧ i + zz_cn d2 8 ≤ 8 ∧ zz_pw lk me d5 d6 d7 ∧ (∀ l2 : List (Nat × Nat × Int32), zz_TL e0 (fun s => (g4c s).toInt) (8 - i) r2 l2 → zz_TL e0 (fun s => (g4c s).toInt) 8 r1 (lk ++ l2))) (fun (u : (Nat) × (Nat) × (Nat) × (Nat → Int32) × (Nat → Int32) × (Nat → Int32) × (Nat → Int32) × (List (Nat × Nat × Int32))) => match u with | (i, r2, me, d2, d5, d6, d7, lk) => 8 - i) (fun u hI H locs ls hP hD hS hl ih_54 => ?_) (0, r1, 0, g2, e5, e6, e7, []) ⟨by omega, Nat.and_self _, hUz, fun h hh _ => hcp h hh, fun k hk => by rw [hcp k hk]; exact hrz k hk, by have := zz_cn_le (g := g2) 8; omega, by have := zz_cn_le (g := g2) 8; omega, zz_pw_0, fun l2 h9 => h9⟩ _ _ _ (hP.sub [5, 6, 0, 1, 7, 8, 2, 3, 4] rfl) (hD.sub [5, 6, 0, 1, 7, 8, 2, 3, 4] (by decide) rfl) hS (lv_sub hl [1, 2, 0] rfl)
    obtain ⟨i, r2, me, d2, d5, d6, d7, lk⟩ := u
    obtain ⟨hP, hD⟩ := zz_ty (D := (dC, dI)) (cl := vwCl) (A := A) (H := H) [(a 34, .inr (2, [.ref (a 35), .ref (a 36), .ref (a 37), .ref (a 38), .ref (a 39), .ref (a 40), .ref (a 41), .ref (a 42), .int (nI me)])), (a 35, .inl (cI, 8, .inl e0)), (a 36, .inl (cI, 8, .inl e1)), (a 37, .inl (cI, 8, .inl d2)), (a 38, .inl (cI, 256, .inl g3c)), (a 39, .inl (cI, 256, .inl g4c)), (a 40, .inl (cI, 8, .inl d5)), (a 41, .inl (cI, 8, .inl d6)), (a 42, .inl (cI, 8, .inl d7))] hP hD rfl
    have hl : lv_has ls 4 [(0, .ref (a 34)), (1, .int (nI r2)), (2, .int (nI i))] := hl
    have hI : i ≤ 8 ∧ r2 &&& r1 = r2 ∧ zz_is e0 r2 8 = 0 ∧ (∀ h : Nat, h < 8 → Nat.testBit r2 h = true → d2 h = e0 h) ∧ zz_rg d2 8 (-930000000) 930000000 ∧ me + zz_cn d2 8 ≤ 8 ∧ i + zz_cn d2 8 ≤ 8 ∧ zz_pw lk me d5 d6 d7 ∧ (∀ l2 : List (Nat × Nat × Int32), zz_TL e0 (fun s => (g4c s).toInt) (8 - i) r2 l2 → zz_TL e0 (fun s => (g4c s).toInt) 8 r1 (lk ++ l2)) := hI
    obtain ⟨ii, ir, iz, id2, irg, ic, icn, ipw, iT⟩ := hI
    refine lv_iload_n hx hb dX2_tell_54 rfl (lv_at hl 2 rfl) ?_
    refine lv_bipush (v := 8) hx hb dX2_tell_55 (by decide) ?_
    refine lv_icmp_ge (tgt := 87) hx hb dX2_tell_57 (by decide) (fun c_3 => ?_) (fun c_3 => ?_)
    · have zc_3 := c_3
      rw [Int32.le_iff_toInt_le] at zc_3
      try rw [zz_toInt i (by omega)] at zc_3
      try rw [show (8 : Int32).toInt = 8 from by decide] at zc_3
      obtain ⟨hP9, hD9⟩ := zz_sub2 (ws' := [(a 34, .inr (2, [.ref (a 35), .ref (a 36), .ref (a 37), .ref (a 38), .ref (a 39), .ref (a 40), .ref (a 41), .ref (a 42), .int (nI me)])), (a 35, .inl (cI, 8, .inl e0)), (a 36, .inl (cI, 8, .inl e1)), (a 37, .inl (cI, 8, .inl d2)), (a 38, .inl (cI, 256, .inl g3c)), (a 39, .inl (cI, 256, .inl g4c)), (a 40, .inl (cI, 8, .inl d5)), (a 41, .inl (cI, 8, .inl d6)), (a 42, .inl (cI, 8, .inl d7))]) hP hD [0, 1, 2, 3, 4, 5, 6, 7, 8] (by decide) rfl
      have hK9 := hK.sub (tys' := [(cI, .int)]) [0] rfl
      exact W.vret hx hb hr (fun t ht hW => ⟨⟨(me, e0, d2, g3c, g4c, d5, d6, d7), rfl, ⟨⟨r1, lk, hU, ⟨(fun s => (g4c s).toInt), hRC, (by have h8 := iT [] (by rw [zz_rest0 (show zz_cn d2 8 = 0 by omega) id2 hU ir]; exact zz_TL0); rw [List.append_nil] at h8; exact h8)⟩, ipw⟩, (by omega), egk.1⟩, by rw [ht]; exact hP9, va_K.moved hW.alike hK9, hD9⟩, hS.F ht⟩) hS.2.2 dX2_tell_87
    · have zc_3 := c_3
      rw [Int32.le_iff_toInt_le] at zc_3
      try rw [zz_toInt i (by omega)] at zc_3
      try rw [show (8 : Int32).toInt = 8 from by decide] at zc_3
      have hr2l := zz_le_of ir
      refine lv_iload_n hx hb dX2_tell_60 rfl (lv_at hl 1 rfl) ?_
      refine lv_if_eq (tgt := 87) hx hb dX2_tell_61 (by decide) (fun c_4 => ?_) (fun c_4 => ?_)
      · have zc_4 := c_4
        rw [← Int32.toInt_inj] at zc_4
        try rw [zz_toInt r2 (by omega)] at zc_4
        try rw [show (0 : Int32).toInt = 0 from by decide] at zc_4
        obtain ⟨hP9, hD9⟩ := zz_sub2 (ws' := [(a 34, .inr (2, [.ref (a 35), .ref (a 36), .ref (a 37), .ref (a 38), .ref (a 39), .ref (a 40), .ref (a 41), .ref (a 42), .int (nI me)])), (a 35, .inl (cI, 8, .inl e0)), (a 36, .inl (cI, 8, .inl e1)), (a 37, .inl (cI, 8, .inl d2)), (a 38, .inl (cI, 256, .inl g3c)), (a 39, .inl (cI, 256, .inl g4c)), (a 40, .inl (cI, 8, .inl d5)), (a 41, .inl (cI, 8, .inl d6)), (a 42, .inl (cI, 8, .inl d7))]) hP hD [0, 1, 2, 3, 4, 5, 6, 7, 8] (by decide) rfl
        have hK9 := hK.sub (tys' := [(cI, .int)]) [0] rfl
        exact W.vret hx hb hr (fun t ht hW => ⟨⟨(me, e0, d2, g3c, g4c, d5, d6, d7), rfl, ⟨⟨r1, lk, hU, ⟨(fun s => (g4c s).toInt), hRC, (by have h8 := iT [] (by rw [show r2 = 0 by omega]; exact zz_TL0); rw [List.append_nil] at h8; exact h8)⟩, ipw⟩, (by omega), egk.1⟩, by rw [ht]; exact hP9, va_K.moved hW.alike hK9, hD9⟩, hS.F ht⟩) hS.2.2 dX2_tell_87
      · have zc_4 := c_4
        rw [← Int32.toInt_inj] at zc_4
        try rw [zz_toInt r2 (by omega)] at zc_4
        try rw [show (0 : Int32).toInt = 0 from by decide] at zc_4
        have hr0 : 1 ≤ r2 := by omega
        refine lv_aload_n hx hb dX2_tell_64 rfl (lv_at hl 0 rfl) ?_
        refine lv_iload_n hx hb dX2_tell_65 rfl (lv_at hl 1 rfl) ?_
        obtain ⟨hPc, hDc⟩ := zz_sub2 (ws' := [(a 34, .inr (2, [.ref (a 35), .ref (a 36), .ref (a 37), .ref (a 38), .ref (a 39), .ref (a 40), .ref (a 41), .ref (a 42), .int (nI me)])), (a 38, .inl (cI, 256, .inl g3c)), (a 39, .inl (cI, 256, .inl g4c))]) hP hD [0, 4, 5] (by decide) rfl
        have hKc := hK.sub (tys' := [(cI, .int)]) [0] rfl
        have hFc := zz_free0 hS hA
        refine va_calli (va_runV (As := [.int (nI r2)]) (rest := []) ⟨hx, hb, hml, hown, hw⟩ (kx_leastGroup l dC dI a cI me g3c g4c e0 r2 H.size (by omega) (by omega) iz hRC h3n hisb he4b) ⟨callB_of 1 hw (zz_good tw_121) rfl rfl rfl (hw _ tw_107) (hw _ tw_122) (by decide +kernel) ⟨Nat.le_of_ble_eq_true rfl, Nat.le_of_ble_eq_true rfl⟩, (hw _ tw_123), (hw _ tw_124)⟩ ⟨zz_blind, va_recv hKc hPc (ci := 2) (q0 := 0) rfl rfl, zz_pre hPc hKc hDc hN⟩ rfl rfl hl.1 rfl (lv_room (Nat.le_of_ble_eq_true rfl)) dX2_tell_66 ⟨Nat.le_of_ble_eq_true rfl, Nat.le_of_ble_eq_true rfl⟩) hS (fun q _ h => hFc q h) hFc (fun r_5 u_5 t H1 locs ht hvm e_5 hB hz1 hk1 hS => ?_)
        try dsimp only at e_5
        have hP := zz_keep hP hk1
        clear hk1 hB ht hvm
        generalize H1 = H at hP hS ⊢
        rcases e_5 with ⟨qg_5, hg_5, er_5, lq_5⟩
        · refine zz_seti (nI qg_5) er_5 ?_
          refine lv_istore_n (lv' := [(3, .int (nI qg_5)), (0, .ref (a 34)), (1, .int (nI r2)), (2, .int (nI i))]) hx hb dX2_tell_69 rfl hl (by decide) rfl (fun ls hl => ?_)
          refine lv_aload_n hx hb dX2_tell_70 rfl (lv_at hl 1 rfl) ?_
          refine lv_iload_n hx hb dX2_tell_71 rfl (lv_at hl 0 rfl) ?_
          obtain ⟨hPc, hDc⟩ := zz_sub2 (ws' := [(a 34, .inr (2, [.ref (a 35), .ref (a 36), .ref (a 37), .ref (a 38), .ref (a 39), .ref (a 40), .ref (a 41), .ref (a 42), .int (nI me)])), (a 37, .inl (cI, 8, .inl d2)), (a 40, .inl (cI, 8, .inl d5)), (a 41, .inl (cI, 8, .inl d6)), (a 42, .inl (cI, 8, .inl d7))]) hP hD [0, 3, 6, 7, 8] (by decide) rfl
          have hKc := hK.sub (tys' := [(cI, .int)]) [0] rfl
          have hFc := zz_free1 hDc hS hA
          refine va_callv (va_runV (As := [.int (nI qg_5)]) (rest := []) ⟨hx, hb, hml, hown, hw⟩ (kx_payWithin l dC dI a cI me d2 d5 d6 d7 qg_5 lk H.size (by omega) (by omega) ipw ((zz_is_congr 8 (fun h hh hb => id2 h hh (zz_in_of lq_5.1.2.1 hb))).trans lq_5.1.2.2.2.1) irg (by omega)) ⟨callB_of 1 hw (zz_good tw_125) rfl rfl rfl (hw _ tw_107) (hw _ tw_126) (by decide +kernel) ⟨Nat.le_of_ble_eq_true rfl, Nat.le_of_ble_eq_true rfl⟩, (hw _ tw_127), (hw _ tw_128)⟩ ⟨zz_blind, va_recv hKc hPc (ci := 2) (q0 := 0) rfl rfl, zz_pre hPc hKc hDc hN⟩ rfl rfl hl.1 rfl (lv_room (Nat.le_of_ble_eq_true rfl)) dX2_tell_72 ⟨Nat.le_of_ble_eq_true rfl, Nat.le_of_ble_eq_true rfl⟩) hS (fun q _ h => hFc q h) hFc (fun u_6 t H1 locs ht hvm e_6 hB hz1 hk1 hS => ?_)
          try dsimp only at e_6
          obtain ⟨n2, u2, f5, f6, f7⟩ := u_6
          obtain ⟨hP1, hK1, hD1⟩ := hB
          rw [ht] at hP1
          have hK1 := va_K.moved hvm.symm hK1
          try dsimp only at e_6
          obtain ⟨hP, hD⟩ := va_join (wr := [(a 35, .inl (cI, 8, .inl e0)), (a 36, .inl (cI, 8, .inl e1)), (a 38, .inl (cI, 256, .inl g3c)), (a 39, .inl (cI, 256, .inl g4c))]) (w1 := [(a 34, .inr (2, [.ref (a 35), .ref (a 36), .ref (a 37), .ref (a 38), .ref (a 39), .ref (a 40), .ref (a 41), .ref (a 42), .int (nI n2)])), (a 37, .inl (cI, 8, .inl u2)), (a 40, .inl (cI, 8, .inl f5)), (a 41, .inl (cI, 8, .inl f6)), (a 42, .inl (cI, 8, .inl f7))]) hP hD [0, 3, 6, 7, 8] [1, 2, 4, 5] rfl rfl (by decide) (by decide) hk1 hFc hP1 hD1
          clear hk1 ht hvm
          generalize H1 = H at hP hS ⊢
          obtain ⟨hP, hD⟩ := zz_ty (D := (dC, dI)) (cl := vwCl) (A := A) (H := H) [(a 35, .inl (cI, 8, .inl e0)), (a 36, .inl (cI, 8, .inl e1)), (a 38, .inl (cI, 256, .inl g3c)), (a 39, .inl (cI, 256, .inl g4c)), (a 34, .inr (2, [.ref (a 35), .ref (a 36), .ref (a 37), .ref (a 38), .ref (a 39), .ref (a 40), .ref (a 41), .ref (a 42), .int (nI n2)])), (a 37, .inl (cI, 8, .inl u2)), (a 40, .inl (cI, 8, .inl f5)), (a 41, .inl (cI, 8, .inl f6)), (a 42, .inl (cI, 8, .inl f7))] hP hD rfl
          obtain ⟨v1, v2, v3, v4, v5⟩ := e_6
          refine lv_iload_n hx hb dX2_tell_75 rfl (lv_at hl 2 rfl) ?_
          refine lv_iload_n hx hb dX2_tell_76 rfl (lv_at hl 0 rfl) ?_
          refine lv_iconst (v := (-1)) hx hb dX2_tell_77 (by decide) ?_
          refine lv_ixor hx hb dX2_tell_78 ?_
          refine lv_iand hx hb dX2_tell_79 ?_
          refine zz_seti (nI (r2 - qg_5)) (zz_lessp (by omega) (by omega) lq_5.1.2.1) ?_
          refine lv_istore_n (lv' := [(1, .int (nI (r2 - qg_5))), (3, .int (nI qg_5)), (0, .ref (a 34)), (2, .int (nI i))]) hx hb dX2_tell_80 rfl hl (by decide) rfl (fun ls hl => ?_)
          refine lv_iinc (v := (nI (i + 1))) (lv' := [(2, .int (nI (i + 1))), (1, .int (nI (r2 - qg_5))), (3, .int (nI qg_5)), (0, .ref (a 34))]) hx hb dX2_tell_81 hl (k := 3) rfl (nI_1 _) (by decide) rfl (fun ls hl => ?_)
          refine lv_goto (tgt := 54) hx hb dX2_tell_84 (by decide) ?_
          exact ih_54 ((i + 1), (r2 - qg_5), n2, u2, f5, f6, f7, (lk ++ (zz_evL qg_5 8 d2).1)) ⟨by omega, zz_sub_and (by omega) lq_5.1.2.1 ir, (by have := zz_is_sub (F := e0) (show r2 < 256 by omega) lq_5.1.2.1 8; have := lq_5.1.2.2.2.1; omega), fun h hh hb => (v4 h (zz_sub_in (by omega) lq_5.1.2.1 hb).2).trans (id2 h hh (zz_sub_in (by omega) lq_5.1.2.1 hb).1), v5, v2, (by have := zz_cnx hr0 id2 hU ir lq_5 v3 v4; omega), v1, zz_TLs iT (by omega) (by omega) lq_5 (fun h hb => id2 h (zz_b8 (by omega) hb) (zz_in_of lq_5.1.2.1 hb))⟩ (show 8 - (i + 1) < 8 - i from by omega) _ _ _ (hP.sub [4, 0, 1, 5, 2, 3, 6, 7, 8] rfl) (hD.sub [4, 0, 1, 5, 2, 3, 6, 7, 8] (by decide) rfl) hS (lv_sub hl [3, 1, 0] rfl)
  · have zc_1 := c_1
    rw [Int32.le_iff_toInt_le] at zc_1
    try rw [zz_toInt j (by omega)] at zc_1
    try rw [show (8 : Int32).toInt = 8 from by decide] at zc_1
    refine lv_aload_n hx hb dX2_tell_15 rfl (lv_at hl 0 rfl) ?_
    refine va_get (D := (dC, dI)) (ci := 2) (v := .ref (a 37)) (C := RX2) (T := TX2) (N := 9) hx hb hw zz_inX2 hown hK hP 0 rfl rfl 2 (by decide) (hw _ tw_102) (fun _ h9 => h9) rfl dX2_tell_16 ?_
    refine lv_iload_n hx hb dX2_tell_19 rfl (lv_at hl 2 rfl) ?_
    refine lv_aload_n hx hb dX2_tell_20 rfl (lv_at hl 0 rfl) ?_
    refine va_get (D := (dC, dI)) (ci := 2) (v := .ref (a 35)) (C := RX2) (T := TX2) (N := 9) hx hb hw zz_inX2 hown hK hP 0 rfl rfl 0 (by decide) (hw _ tw_115) (fun _ h9 => h9) rfl dX2_tell_21 ?_
    refine lv_iload_n hx hb dX2_tell_24 rfl (lv_at hl 2 rfl) ?_
    refine va_iald hx hb hK hP 1 0 rfl rfl (vp_in_iff.mpr (by rw [zz_toInt j (by omega)]; constructor <;> omega)) dX2_tell_25 ?_
    refine zz_seti (e0 j) (congrArg e0 (zz_cl (by omega))) ?_
    refine va_iast hx hb hK hP hD hS 3 0 rfl rfl (vp_in_iff.mpr (by rw [zz_toInt j (by omega)]; constructor <;> omega)) dX2_tell_26 (fun H locs hP hD hS => ?_)
    obtain ⟨hP, hD⟩ := zz_ty (D := (dC, dI)) (cl := vwCl) (A := A) (H := H) [(a 34, .inr (2, [.ref (a 35), .ref (a 36), .ref (a 37), .ref (a 38), .ref (a 39), .ref (a 40), .ref (a 41), .ref (a 42), .int (nI 0)])), (a 35, .inl (cI, 8, .inl e0)), (a 36, .inl (cI, 8, .inl e1)), (a 37, .inl (cI, 8, .inl (upd g2 (Int32.toNatClampNeg (nI j)) (e0 j)))), (a 38, .inl (cI, 256, .inl e3)), (a 39, .inl (cI, 256, .inl e4)), (a 40, .inl (cI, 8, .inl e5)), (a 41, .inl (cI, 8, .inl e6)), (a 42, .inl (cI, 8, .inl e7))] hP hD rfl
    refine lv_aload_n hx hb dX2_tell_27 rfl (lv_at hl 0 rfl) ?_
    refine va_get (D := (dC, dI)) (ci := 2) (v := .ref (a 35)) (C := RX2) (T := TX2) (N := 9) hx hb hw zz_inX2 hown hK hP 0 rfl rfl 0 (by decide) (hw _ tw_115) (fun _ h9 => h9) rfl dX2_tell_28 ?_
    refine lv_iload_n hx hb dX2_tell_31 rfl (lv_at hl 2 rfl) ?_
    refine va_iald hx hb hK hP 1 0 rfl rfl (vp_in_iff.mpr (by rw [zz_toInt j (by omega)]; constructor <;> omega)) dX2_tell_32 ?_
    refine zz_seti (e0 j) (congrArg e0 (zz_cl (by omega))) ?_
    refine lv_if_eq (tgt := 42) hx hb dX2_tell_33 (by decide) (fun c_7 => ?_) (fun c_7 => ?_)
    · have zc_7 := c_7
      rw [← Int32.toInt_inj] at zc_7
      try rw [show (0 : Int32).toInt = 0 from by decide] at zc_7
      refine lv_iinc (v := (nI (j + 1))) (lv' := [(2, .int (nI (j + 1))), (0, .ref (a 34)), (1, .int (nI r1))]) hx hb dX2_tell_42 hl (k := 2) rfl (nI_1 _) (by decide) rfl (fun ls hl => ?_)
      refine lv_goto (tgt := 9) hx hb dX2_tell_45 (by decide) ?_
      exact ih_9 ((j + 1), r1, (upd g2 (Int32.toNatClampNeg (nI j)) (e0 j))) ⟨by omega, (zz_lf_same il (by omega)).1 c_7, zz_cpx ig (by omega)⟩ (show 8 - (j + 1) < 8 - j from by omega) _ _ _ (hP.sub [0, 1, 2, 3, 4, 5, 6, 7, 8] rfl) (hD.sub [0, 1, 2, 3, 4, 5, 6, 7, 8] (by decide) rfl) hS (lv_sub hl [1, 2, 0] rfl)
    · have zc_7 := c_7
      rw [← Int32.toInt_inj] at zc_7
      try rw [show (0 : Int32).toInt = 0 from by decide] at zc_7
      refine lv_iload_n hx hb dX2_tell_36 rfl (lv_at hl 1 rfl) ?_
      refine lv_iconst (v := 1) hx hb dX2_tell_37 (by decide) ?_
      refine lv_iload_n hx hb dX2_tell_38 rfl (lv_at hl 2 rfl) ?_
      refine lv_ishl hx hb dX2_tell_39 ?_
      refine zz_seti (nI (2 ^ j)) (zz_shl (by omega)) ?_
      refine lv_ior hx hb dX2_tell_40 ?_
      refine zz_seti (nI (r1 + 2 ^ j)) (zz_orp il.1 (by omega)) ?_
      have hpw := zz_p2le (j := j) (by omega)
      refine lv_istore_n (lv' := [(1, .int (nI (r1 + 2 ^ j))), (0, .ref (a 34)), (2, .int (nI j))]) hx hb dX2_tell_41 rfl hl (by decide) rfl (fun ls hl => ?_)
      refine lv_iinc (v := (nI (j + 1))) (lv' := [(2, .int (nI (j + 1))), (1, .int (nI (r1 + 2 ^ j))), (0, .ref (a 34))]) hx hb dX2_tell_42 hl (k := 2) rfl (nI_1 _) (by decide) rfl (fun ls hl => ?_)
      refine lv_goto (tgt := 9) hx hb dX2_tell_45 (by decide) ?_
      exact ih_9 ((j + 1), (r1 + 2 ^ j), (upd g2 (Int32.toNatClampNeg (nI j)) (e0 j))) ⟨by omega, (zz_lf_same il (by omega)).2 c_7, zz_cpx ig (by omega)⟩ (show 8 - (j + 1) < 8 - j from by omega) _ _ _ (hP.sub [0, 1, 2, 3, 4, 5, 6, 7, 8] rfl) (hD.sub [0, 1, 2, 3, 4, 5, 6, 7, 8] (by decide) rfl) hS (lv_sub hl [2, 1, 0] rfl)
