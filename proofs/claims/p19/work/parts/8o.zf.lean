theorem zz_pw_ev {g : Nat → Int32} {x a b : Nat} (ha : a < 8) (hb : b < 8) (pa : zz_pb g x a) (pb : zz_pa g x b) (hr : zz_rg g 8 (-930000000) 930000000) : zz_is (zz_un2 g a b) x 8 = zz_is g x 8 ∧ zz_rg (zz_un2 g a b) 8 (-930000000) 930000000 ∧ zz_cn (zz_un2 g a b) 8 + 1 ≤ zz_cn g 8 ∧ ∀ h : Nat, x.testBit h = false → zz_un2 g a b h = g h := by
  refine zz_ev (v := zz_mn g a b) (Nat.le_refl _) ha hb pa pb ?_ hr
  have ng := zz_negI (hr a ha).1 (hr a ha).2
  unfold zz_mn
  by_cases c : g b < -g a
  · rw [if_pos c]
    rw [Int32.lt_iff_toInt_lt, ng] at c
    exact Or.inr ⟨rfl, by omega⟩
  · rw [if_neg c]
    rw [Int32.lt_iff_toInt_lt, ng] at c
    exact Or.inl ⟨ng, by omega⟩
theorem zz_nopb {g : Nat → Int32} {x : Nat} (h : zz_cn g 8 = 0) : ∀ k : Nat, k < 8 → ¬ zz_pb g x k := by
  intro k hk z
  have e := zz_cn_0 8 h k hk
  have := z.2
  rw [e, show (0 : Int32).toInt = 0 from by decide] at this
  omega
theorem zz_evs {u : Nat → Int32} {x a b j : Nat} {l : List (Nat × Nat × Int32)} {L : List (Nat × Nat × Int32)} (ha : zz_fb u x = some a) (hb : zz_fa u x = some b) (hj : j < 8) (h : l ++ (zz_evL x (8 - j) u).1 = L) : (l ++ [(a, b, zz_mn u a b)]) ++ (zz_evL x (8 - (j + 1)) (zz_un2 u a b)).1 = L := by
  rw [← h, show 8 - j = (8 - (j + 1)) + 1 by omega, zz_evL_s ha hb, List.append_assoc]
  rfl
theorem zz_eve {u : Nat → Int32} {x f : Nat} {l : List (Nat × Nat × Int32)} {L : List (Nat × Nat × Int32)} (ha : zz_fb u x = none) (h : l ++ (zz_evL x f u).1 = L) : l = L := by
  rw [zz_evL_0 ha, List.append_nil] at h; exact h
set_option maxHeartbeats 4000000 in
set_option maxRecDepth 100000 in
theorem kx_payWithin (l : Launch) (dC : Nat → ClassId) (dI : Nat → Nat → Nat) (a : Nat → Nat) (cI : ClassId) (ne : Nat) (e2 : Nat → Int32) (e5 : Nat → Int32) (e6 : Nat → Int32) (e7 : Nat → Int32) (sx : Nat) (lz : List (Nat × Nat × Int32)) (sz : Nat) (hsx : sx < 256) (hne : ne ≤ 8) (hpwl : zz_pw lz ne e5 e6 e7) (hz : zz_is e2 sx 8 = 0) (hrz : zz_rg e2 8 (-930000000) 930000000) (hcz : ne + zz_cn e2 8 ≤ 8) : Met l yX2_payWithin (zz_w yX2_payWithin cX2_payWithin 6 none) ({ frames := 1, cells := 0, slots := 0, locals := 23 }) (va_Pc [.ref (a 34), .int (nI sx)] (zz_B (dC, dI) sz [(a 34, .inr (2, [.ref (a 35), .ref (a 36), .ref (a 37), .ref (a 38), .ref (a 39), .ref (a 40), .ref (a 41), .ref (a 42), .int (nI ne)])), (a 37, .inl (cI, 8, .inl e2)), (a 40, .inl (cI, 8, .inl e5)), (a 41, .inl (cI, 8, .inl e6)), (a 42, .inl (cI, 8, .inl e7))] [(cI, .int)])) (va_Qv (fun (u : Nat × (Nat → Int32) × (Nat → Int32) × (Nat → Int32) × (Nat → Int32)) => match u with | (n2, u2, f5, f6, f7) => zz_pw (lz ++ (zz_evL sx 8 e2).1) n2 f5 f6 f7 ∧ n2 + zz_cn u2 8 ≤ 8 ∧ (∀ h : Nat, h < 8 → sx.testBit h = true → u2 h = 0) ∧ (∀ h : Nat, sx.testBit h = false → u2 h = e2 h) ∧ zz_rg u2 8 (-930000000) 930000000) (fun (u : Nat × (Nat → Int32) × (Nat → Int32) × (Nat → Int32) × (Nat → Int32)) (t : State) => match u with | (u0, u1, u2, u3, u4) => va_P (dC, dI) vwCl [(a 34, .inr (2, [.ref (a 35), .ref (a 36), .ref (a 37), .ref (a 38), .ref (a 39), .ref (a 40), .ref (a 41), .ref (a 42), .int (nI u0)])), (a 37, .inl (cI, 8, .inl u1)), (a 40, .inl (cI, 8, .inl u2)), (a 41, .inl (cI, 8, .inl u3)), (a 42, .inl (cI, 8, .inl u4))] t.heap ∧ va_K (dC, dI) vwCl [(cI, .int)] t ∧ va_D (va_A [(a 34, .inr (2, [.ref (a 35), .ref (a 36), .ref (a 37), .ref (a 38), .ref (a 39), .ref (a 40), .ref (a 41), .ref (a 42), .int (nI ne)])), (a 37, .inl (cI, 8, .inl e2)), (a 40, .inl (cI, 8, .inl e5)), (a 41, .inl (cI, 8, .inl e6)), (a 42, .inl (cI, 8, .inl e7))] sz) [(a 34, .inr (2, [.ref (a 35), .ref (a 36), .ref (a 37), .ref (a 38), .ref (a 39), .ref (a 40), .ref (a 41), .ref (a 42), .int (nI u0)])), (a 37, .inl (cI, 8, .inl u1)), (a 40, .inl (cI, 8, .inl u2)), (a 41, .inl (cI, 8, .inl u3)), (a 42, .inl (cI, 8, .inl u4))]) (va_A [(a 34, .inr (2, [.ref (a 35), .ref (a 36), .ref (a 37), .ref (a 38), .ref (a 39), .ref (a 40), .ref (a 41), .ref (a 42), .int (nI ne)])), (a 37, .inl (cI, 8, .inl e2)), (a 40, .inl (cI, 8, .inl e5)), (a 41, .inl (cI, 8, .inl e6)), (a 42, .inl (cI, 8, .inl e7))] sz)) 0 0 (va_A [(a 34, .inr (2, [.ref (a 35), .ref (a 36), .ref (a 37), .ref (a 38), .ref (a 39), .ref (a 40), .ref (a 41), .ref (a 42), .int (nI ne)])), (a 37, .inl (cI, 8, .inl e2)), (a 40, .inl (cI, 8, .inl e5)), (a 41, .inl (cI, 8, .inl e6)), (a 42, .inl (cI, 8, .inl e7))] sz) := by
  refine Met.ofW (cc := cX2_payWithin) (maxL := 6) (ret := none) (by decide) rfl ?_
  intro p e s m args below meth c s₁ B hml hv
  obtain ⟨rfl, hsz, hP, hK, hD0, hN⟩ := hv
  have hx := B.exec
  have hb := B.bytes
  have hr := B.returns
  have hts := atoms_spec (ws := zz_w yX2_payWithin cX2_payWithin 6 none) B.pre
  have hw : ∀ w ∈ zz_all, w.before _ s = true := fun w h => hts w (List.mem_cons_of_mem _ h)
  have hown : s.vm.findClass RX2 = some m.cls := findClass_of_methodNamed B.named
  have hlocks := B.notSynchronized
  subst hsz
  have hD := hD0.self (sz := s.heap.size)
  generalize hAe : va_A [(a 34, .inr (2, [.ref (a 35), .ref (a 36), .ref (a 37), .ref (a 38), .ref (a 39), .ref (a 40), .ref (a 41), .ref (a 42), .int (nI ne)])), (a 37, .inl (cI, 8, .inl e2)), (a 40, .inl (cI, 8, .inl e5)), (a 41, .inl (cI, 8, .inl e6)), (a 42, .inl (cI, 8, .inl e7))] s.heap.size = A at hD ⊢
  have hA : ∀ q : Nat, s.heap.size ≤ q → A q := fun q h => by rw [← hAe]; exact Or.inr h
  have hS : va_S A s.heap s.heap [] := va_S.rf
  have hP : va_P (dC, dI) vwCl [(a 34, .inr (2, [.ref (a 35), .ref (a 36), .ref (a 37), .ref (a 38), .ref (a 39), .ref (a 40), .ref (a 41), .ref (a 42), .int (nI ne)])), (a 37, .inl (cI, 8, .inl e2)), (a 40, .inl (cI, 8, .inl e5)), (a 41, .inl (cI, 8, .inl e6)), (a 42, .inl (cI, 8, .inl e7))] s.heap := hP
  have hl := lv_entry ([.ref (a 34), .int (nI sx)]) (n := 6) (Nat.le_of_ble_eq_true rfl)
  rw [lg_entry_eq]
  generalize (lg_sl ([.ref (a 34), .int (nI sx)]) ++ List.replicate (6 - (lg_sl ([.ref (a 34), .int (nI sx)])).length) Slot.unset).toArray = ls at hl ⊢
  have hl : lv_has ls 6 [(0, .ref (a 34)), (1, .int (nI sx))] := hl
  refine lv_iconst (v := 0) hx hb dX2_payWithin_0 (by decide) ?_
  refine lv_istore_n (lv' := [(2, .int 0), (0, .ref (a 34)), (1, .int (nI sx))]) hx hb dX2_payWithin_1 rfl hl (by decide) rfl (fun ls hl => ?_)
  refine zz_loopS (fun (u : (Nat) × (Nat) × (Nat → Int32) × (Nat → Int32) × (Nat → Int32) × (Nat → Int32) × (List (Nat × Nat × Int32))) => match u with | (j, me, g2, g5, g6, g7, lk) => [(a 34, .inr (2, [.ref (a 35), .ref (a 36), .ref (a 37), .ref (a 38), .ref (a 39), .ref (a 40), .ref (a 41), .ref (a 42), .int (nI me)])), (a 37, .inl (cI, 8, .inl g2)), (a 40, .inl (cI, 8, .inl g5)), (a 41, .inl (cI, 8, .inl g6)), (a 42, .inl (cI, 8, .inl g7))]) (fun (u : (Nat) × (Nat) × (Nat → Int32) × (Nat → Int32) × (Nat → Int32) × (Nat → Int32) × (List (Nat × Nat × Int32))) => match u with | (j, me, g2, g5, g6, g7, lk) => [(0, .ref (a 34)), (1, .int (nI sx)), (2, .int (nI j))]) (fun (u : (Nat) × (Nat) × (Nat → Int32) × (Nat → Int32) × (Nat → Int32) × (Nat → Int32) × (List (Nat × Nat × Int32))) => match u with | (j, me, g2, g5, g6, g7, lk) => j ≤ 8 ∧ zz_pw lk me g5 g6 g7 ∧ zz_is g2 sx 8 = 0 ∧ zz_rg g2 8 (-930000000) 930000000 ∧ me + zz_cn g2 8 ≤ 8 ∧ (∀ h : Nat, sx.testBit h = false → g2 h = e2 h) ∧ j + zz_cn g2 8 ≤ 8 ∧ lk ++ (zz_evL sx (8 - j) g2).1 = lz ++ (zz_evL sx 8 e2).1) (fun (u : (Nat) × (Nat) × (Nat → Int32) × (Nat → Int32) × (Nat → Int32) × (Nat → Int32) × (List (Nat × Nat × Int32))) => match u with | (j, me, g2, g5, g6, g7, lk) => 8 - j) (fun u hI H locs ls hP hD hS hl ih_2 => ?_) (0, ne, e2, e5, e6, e7, lz) ⟨by omega, hpwl, hz, hrz, hcz, fun h hh => rfl, by have := zz_cn_le (g := e2) 8; omega, rfl⟩ _ _ _ (hP.sub [0, 1, 2, 3, 4] rfl) (hD.sub [0, 1, 2, 3, 4] (by decide) rfl) hS (lv_sub hl [1, 2, 0] rfl)
  obtain ⟨j, me, g2, g5, g6, g7, lk⟩ := u
  obtain ⟨hP, hD⟩ := zz_ty (D := (dC, dI)) (cl := vwCl) (A := A) (H := H) [(a 34, .inr (2, [.ref (a 35), .ref (a 36), .ref (a 37), .ref (a 38), .ref (a 39), .ref (a 40), .ref (a 41), .ref (a 42), .int (nI me)])), (a 37, .inl (cI, 8, .inl g2)), (a 40, .inl (cI, 8, .inl g5)), (a 41, .inl (cI, 8, .inl g6)), (a 42, .inl (cI, 8, .inl g7))] hP hD rfl
  have hl : lv_has ls 6 [(0, .ref (a 34)), (1, .int (nI sx)), (2, .int (nI j))] := hl
  have hI : j ≤ 8 ∧ zz_pw lk me g5 g6 g7 ∧ zz_is g2 sx 8 = 0 ∧ zz_rg g2 8 (-930000000) 930000000 ∧ me + zz_cn g2 8 ≤ 8 ∧ (∀ h : Nat, sx.testBit h = false → g2 h = e2 h) ∧ j + zz_cn g2 8 ≤ 8 ∧ lk ++ (zz_evL sx (8 - j) g2).1 = lz ++ (zz_evL sx 8 e2).1 := hI
  obtain ⟨ij, ipw, iz, ir, ic, is0, ijc, iev⟩ := hI
  refine lv_iload_n hx hb dX2_payWithin_2 rfl (lv_at hl 2 rfl) ?_
  refine lv_bipush (v := 8) hx hb dX2_payWithin_3 (by decide) ?_
  refine lv_icmp_ge (tgt := 134) hx hb dX2_payWithin_5 (by decide) (fun c_1 => ?_) (fun c_1 => ?_)
  · have zc_1 := c_1
    rw [Int32.le_iff_toInt_le] at zc_1
    try rw [zz_toInt j (by omega)] at zc_1
    try rw [show (8 : Int32).toInt = 8 from by decide] at zc_1
    obtain ⟨hP9, hD9⟩ := zz_sub2 (ws' := [(a 34, .inr (2, [.ref (a 35), .ref (a 36), .ref (a 37), .ref (a 38), .ref (a 39), .ref (a 40), .ref (a 41), .ref (a 42), .int (nI me)])), (a 37, .inl (cI, 8, .inl g2)), (a 40, .inl (cI, 8, .inl g5)), (a 41, .inl (cI, 8, .inl g6)), (a 42, .inl (cI, 8, .inl g7))]) hP hD [0, 1, 2, 3, 4] (by decide) rfl
    have hK9 := hK.sub (tys' := [(cI, .int)]) [0] rfl
    exact W.vret hx hb hr (fun t ht hW => ⟨⟨(me, g2, g5, g6, g7), rfl, ⟨by rw [← zz_eve (zz_fb_none (zz_nopb (by omega))) iev]; exact ipw, ic, zz_evz (fun h _ hh => (zz_nopb (x := sx) (by omega)) h hh) iz, is0, ir⟩, by rw [ht]; exact hP9, va_K.moved hW.alike hK9, hD9⟩, hS.F ht⟩) hS.2.2 dX2_payWithin_134
  · have zc_1 := c_1
    rw [Int32.le_iff_toInt_le] at zc_1
    try rw [zz_toInt j (by omega)] at zc_1
    try rw [show (8 : Int32).toInt = 8 from by decide] at zc_1
    refine lv_aload_n hx hb dX2_payWithin_8 rfl (lv_at hl 0 rfl) ?_
    refine va_get (D := (dC, dI)) (ci := 2) (v := .int (nI me)) (C := RX2) (T := TX2) (N := 9) hx hb hw zz_inX2 hown hK hP 0 rfl rfl 8 (by decide) (hw _ tw_105) (fun _ h9 => h9) rfl dX2_payWithin_9 ?_
    refine lv_bipush (v := 8) hx hb dX2_payWithin_12 (by decide) ?_
    refine lv_icmp_ge (tgt := 134) hx hb dX2_payWithin_14 (by decide) (fun c_2 => ?_) (fun c_2 => ?_)
    · have zc_2 := c_2
      rw [Int32.le_iff_toInt_le] at zc_2
      try rw [zz_toInt me (by omega)] at zc_2
      try rw [show (8 : Int32).toInt = 8 from by decide] at zc_2
      obtain ⟨hP9, hD9⟩ := zz_sub2 (ws' := [(a 34, .inr (2, [.ref (a 35), .ref (a 36), .ref (a 37), .ref (a 38), .ref (a 39), .ref (a 40), .ref (a 41), .ref (a 42), .int (nI me)])), (a 37, .inl (cI, 8, .inl g2)), (a 40, .inl (cI, 8, .inl g5)), (a 41, .inl (cI, 8, .inl g6)), (a 42, .inl (cI, 8, .inl g7))]) hP hD [0, 1, 2, 3, 4] (by decide) rfl
      have hK9 := hK.sub (tys' := [(cI, .int)]) [0] rfl
      exact W.vret hx hb hr (fun t ht hW => ⟨⟨(me, g2, g5, g6, g7), rfl, ⟨by rw [← zz_eve (zz_fb_none (zz_nopb (by omega))) iev]; exact ipw, ic, zz_evz (fun h _ hh => (zz_nopb (x := sx) (by omega)) h hh) iz, is0, ir⟩, by rw [ht]; exact hP9, va_K.moved hW.alike hK9, hD9⟩, hS.F ht⟩) hS.2.2 dX2_payWithin_134
    · have zc_2 := c_2
      rw [Int32.le_iff_toInt_le] at zc_2
      try rw [zz_toInt me (by omega)] at zc_2
      try rw [show (8 : Int32).toInt = 8 from by decide] at zc_2
      refine lv_aload_n hx hb dX2_payWithin_17 rfl (lv_at hl 0 rfl) ?_
      refine lv_iload_n hx hb dX2_payWithin_18 rfl (lv_at hl 1 rfl) ?_
      refine lv_iconst (v := (-1)) hx hb dX2_payWithin_19 (by decide) ?_
      obtain ⟨hPc, hDc⟩ := zz_sub2 (ws' := [(a 34, .inr (2, [.ref (a 35), .ref (a 36), .ref (a 37), .ref (a 38), .ref (a 39), .ref (a 40), .ref (a 41), .ref (a 42), .int (nI me)])), (a 37, .inl (cI, 8, .inl g2))]) hP hD [0, 1] (by decide) rfl
      have hKc := hK.sub (tys' := [(cI, .int)]) [0] rfl
      have hFc := zz_free0 hS hA
      refine va_calli (va_runV (As := [.int (nI sx), .int (-1)]) (rest := []) ⟨hx, hb, hml, hown, hw⟩ (kx_leastNeg l dC dI a cI me g2 sx H.size (by omega) ir) ⟨callB_of 2 hw (zz_good tw_106) rfl rfl rfl (hw _ tw_107) (hw _ tw_108) (by decide +kernel) ⟨Nat.le_of_ble_eq_true rfl, Nat.le_of_ble_eq_true rfl⟩, (hw _ tw_109), (hw _ tw_110)⟩ ⟨zz_blind, va_recv hKc hPc (ci := 2) (q0 := 0) rfl rfl, zz_pre hPc hKc hDc hN⟩ rfl rfl hl.1 rfl (lv_room (Nat.le_of_ble_eq_true rfl)) dX2_payWithin_20 ⟨Nat.le_of_ble_eq_true rfl, Nat.le_of_ble_eq_true rfl⟩) hS (fun q _ h => hFc q h) hFc (fun r_3 u_3 t H1 locs ht hvm e_3 hB hz1 hk1 hS => ?_)
      try dsimp only at e_3
      have hP := zz_keep hP hk1
      clear hk1 hB ht hvm
      generalize H1 = H at hP hS ⊢
      rcases e_3 with ⟨er_3, lg_3⟩ | ⟨q_3, hq_3, er_3, lp_3, lm_3⟩
      · refine zz_seti (-1) er_3 ?_
        refine lv_istore_n (lv' := [(3, .int (-1)), (0, .ref (a 34)), (1, .int (nI sx)), (2, .int (nI j))]) hx hb dX2_payWithin_23 rfl hl (by decide) rfl (fun ls hl => ?_)
        refine lv_aload_n hx hb dX2_payWithin_24 rfl (lv_at hl 1 rfl) ?_
        refine lv_iload_n hx hb dX2_payWithin_25 rfl (lv_at hl 2 rfl) ?_
        refine lv_iconst (v := 1) hx hb dX2_payWithin_26 (by decide) ?_
        obtain ⟨hPc, hDc⟩ := zz_sub2 (ws' := [(a 34, .inr (2, [.ref (a 35), .ref (a 36), .ref (a 37), .ref (a 38), .ref (a 39), .ref (a 40), .ref (a 41), .ref (a 42), .int (nI me)])), (a 37, .inl (cI, 8, .inl g2))]) hP hD [0, 1] (by decide) rfl
        have hKc := hK.sub (tys' := [(cI, .int)]) [0] rfl
        have hFc := zz_free0 hS hA
        refine va_calli (va_runV (As := [.int (nI sx), .int 1]) (rest := []) ⟨hx, hb, hml, hown, hw⟩ (kx_leastPos l dC dI a cI me g2 sx H.size (by omega) ir) ⟨callB_of 2 hw (zz_good tw_106) rfl rfl rfl (hw _ tw_107) (hw _ tw_108) (by decide +kernel) ⟨Nat.le_of_ble_eq_true rfl, Nat.le_of_ble_eq_true rfl⟩, (hw _ tw_109), (hw _ tw_110)⟩ ⟨zz_blind, va_recv hKc hPc (ci := 2) (q0 := 0) rfl rfl, zz_pre hPc hKc hDc hN⟩ rfl rfl hl.1 rfl (lv_room (Nat.le_of_ble_eq_true rfl)) dX2_payWithin_27 ⟨Nat.le_of_ble_eq_true rfl, Nat.le_of_ble_eq_true rfl⟩) hS (fun q _ h => hFc q h) hFc (fun r_4 u_4 t H1 locs ht hvm e_4 hB hz1 hk1 hS => ?_)
        try dsimp only at e_4
        have hP := zz_keep hP hk1
        clear hk1 hB ht hvm
        generalize H1 = H at hP hS ⊢
        rcases e_4 with ⟨er_4, lg_4⟩ | ⟨q_4, hq_4, er_4, lp_4, lm_4⟩
        · refine zz_seti (-1) er_4 ?_
          refine lv_istore (lv' := [(4, .int (-1)), (3, .int (-1)), (0, .ref (a 34)), (1, .int (nI sx)), (2, .int (nI j))]) hx hb dX2_payWithin_30 hl (by decide) rfl (fun ls hl => ?_)
          refine lv_iload_n hx hb dX2_payWithin_32 rfl (lv_at hl 1 rfl) ?_
          refine lv_iconst (v := (-1)) hx hb dX2_payWithin_33 (by decide) ?_
          refine lv_icmp_eq (tgt := 43) hx hb dX2_payWithin_34 (by decide) (fun _ => ?_) (fun c_9 => absurd c_9 (by decide))
          obtain ⟨hP9, hD9⟩ := zz_sub2 (ws' := [(a 34, .inr (2, [.ref (a 35), .ref (a 36), .ref (a 37), .ref (a 38), .ref (a 39), .ref (a 40), .ref (a 41), .ref (a 42), .int (nI me)])), (a 37, .inl (cI, 8, .inl g2)), (a 40, .inl (cI, 8, .inl g5)), (a 41, .inl (cI, 8, .inl g6)), (a 42, .inl (cI, 8, .inl g7))]) hP hD [0, 1, 2, 3, 4] (by decide) rfl
          have hK9 := hK.sub (tys' := [(cI, .int)]) [0] rfl
          exact W.vret hx hb hr (fun t ht hW => ⟨⟨(me, g2, g5, g6, g7), rfl, ⟨by rw [← zz_eve (zz_fb_none lg_3) iev]; exact ipw, ic, zz_evz (fun h _ hh => lg_3 h hh) iz, is0, ir⟩, by rw [ht]; exact hP9, va_K.moved hW.alike hK9, hD9⟩, hS.F ht⟩) hS.2.2 dX2_payWithin_43
        · refine zz_seti (nI q_4) er_4 ?_
          refine lv_istore (lv' := [(4, .int (nI q_4)), (3, .int (-1)), (0, .ref (a 34)), (1, .int (nI sx)), (2, .int (nI j))]) hx hb dX2_payWithin_30 hl (by decide) rfl (fun ls hl => ?_)
          refine lv_iload_n hx hb dX2_payWithin_32 rfl (lv_at hl 1 rfl) ?_
          refine lv_iconst (v := (-1)) hx hb dX2_payWithin_33 (by decide) ?_
          refine lv_icmp_eq (tgt := 43) hx hb dX2_payWithin_34 (by decide) (fun _ => ?_) (fun c_9 => absurd c_9 (by decide))
          obtain ⟨hP9, hD9⟩ := zz_sub2 (ws' := [(a 34, .inr (2, [.ref (a 35), .ref (a 36), .ref (a 37), .ref (a 38), .ref (a 39), .ref (a 40), .ref (a 41), .ref (a 42), .int (nI me)])), (a 37, .inl (cI, 8, .inl g2)), (a 40, .inl (cI, 8, .inl g5)), (a 41, .inl (cI, 8, .inl g6)), (a 42, .inl (cI, 8, .inl g7))]) hP hD [0, 1, 2, 3, 4] (by decide) rfl
          have hK9 := hK.sub (tys' := [(cI, .int)]) [0] rfl
          exact W.vret hx hb hr (fun t ht hW => ⟨⟨(me, g2, g5, g6, g7), rfl, ⟨by rw [← zz_eve (zz_fb_none lg_3) iev]; exact ipw, ic, zz_evz (fun h _ hh => lg_3 h hh) iz, is0, ir⟩, by rw [ht]; exact hP9, va_K.moved hW.alike hK9, hD9⟩, hS.F ht⟩) hS.2.2 dX2_payWithin_43
      · refine zz_seti (nI q_3) er_3 ?_
        refine lv_istore_n (lv' := [(3, .int (nI q_3)), (0, .ref (a 34)), (1, .int (nI sx)), (2, .int (nI j))]) hx hb dX2_payWithin_23 rfl hl (by decide) rfl (fun ls hl => ?_)
        refine lv_aload_n hx hb dX2_payWithin_24 rfl (lv_at hl 1 rfl) ?_
        refine lv_iload_n hx hb dX2_payWithin_25 rfl (lv_at hl 2 rfl) ?_
        refine lv_iconst (v := 1) hx hb dX2_payWithin_26 (by decide) ?_
        obtain ⟨hPc, hDc⟩ := zz_sub2 (ws' := [(a 34, .inr (2, [.ref (a 35), .ref (a 36), .ref (a 37), .ref (a 38), .ref (a 39), .ref (a 40), .ref (a 41), .ref (a 42), .int (nI me)])), (a 37, .inl (cI, 8, .inl g2))]) hP hD [0, 1] (by decide) rfl
        have hKc := hK.sub (tys' := [(cI, .int)]) [0] rfl
        have hFc := zz_free0 hS hA
        refine va_calli (va_runV (As := [.int (nI sx), .int 1]) (rest := []) ⟨hx, hb, hml, hown, hw⟩ (kx_leastPos l dC dI a cI me g2 sx H.size (by omega) ir) ⟨callB_of 2 hw (zz_good tw_106) rfl rfl rfl (hw _ tw_107) (hw _ tw_108) (by decide +kernel) ⟨Nat.le_of_ble_eq_true rfl, Nat.le_of_ble_eq_true rfl⟩, (hw _ tw_109), (hw _ tw_110)⟩ ⟨zz_blind, va_recv hKc hPc (ci := 2) (q0 := 0) rfl rfl, zz_pre hPc hKc hDc hN⟩ rfl rfl hl.1 rfl (lv_room (Nat.le_of_ble_eq_true rfl)) dX2_payWithin_27 ⟨Nat.le_of_ble_eq_true rfl, Nat.le_of_ble_eq_true rfl⟩) hS (fun q _ h => hFc q h) hFc (fun r_5 u_5 t H1 locs ht hvm e_5 hB hz1 hk1 hS => ?_)
        try dsimp only at e_5
        have hP := zz_keep hP hk1
        clear hk1 hB ht hvm
        generalize H1 = H at hP hS ⊢
        rcases e_5 with ⟨er_5, lg_5⟩ | ⟨q_5, hq_5, er_5, lp_5, lm_5⟩
        · refine zz_seti (-1) er_5 ?_
          refine lv_istore (lv' := [(4, .int (-1)), (3, .int (nI q_3)), (0, .ref (a 34)), (1, .int (nI sx)), (2, .int (nI j))]) hx hb dX2_payWithin_30 hl (by decide) rfl (fun ls hl => ?_)
          refine lv_iload_n hx hb dX2_payWithin_32 rfl (lv_at hl 1 rfl) ?_
          refine lv_iconst (v := (-1)) hx hb dX2_payWithin_33 (by decide) ?_
          refine lv_icmp_eq (tgt := 43) hx hb dX2_payWithin_34 (by decide) (fun c_6 => absurd c_6 (by rw [← Int32.toInt_inj, zz_toInt q_3 (by omega), show ((-1) : Int32).toInt = -1 from by decide]; omega)) (fun _ => ?_)
          refine lv_iload hx hb dX2_payWithin_37 (lv_at hl 0 rfl) ?_
          refine lv_iconst (v := (-1)) hx hb dX2_payWithin_39 (by decide) ?_
          refine lv_icmp_ne (tgt := 44) hx hb dX2_payWithin_40 (by decide) (fun c_9 => absurd c_9 (by decide)) (fun _ => ?_)
          obtain ⟨hP9, hD9⟩ := zz_sub2 (ws' := [(a 34, .inr (2, [.ref (a 35), .ref (a 36), .ref (a 37), .ref (a 38), .ref (a 39), .ref (a 40), .ref (a 41), .ref (a 42), .int (nI me)])), (a 37, .inl (cI, 8, .inl g2)), (a 40, .inl (cI, 8, .inl g5)), (a 41, .inl (cI, 8, .inl g6)), (a 42, .inl (cI, 8, .inl g7))]) hP hD [0, 1, 2, 3, 4] (by decide) rfl
          have hK9 := hK.sub (tys' := [(cI, .int)]) [0] rfl
          exact W.vret hx hb hr (fun t ht hW => ⟨⟨(me, g2, g5, g6, g7), rfl, (by exfalso; exact zz_evb (fun h _ hh => lg_5 h hh) iz hq_3 lp_3), by rw [ht]; exact hP9, va_K.moved hW.alike hK9, hD9⟩, hS.F ht⟩) hS.2.2 dX2_payWithin_43
        · refine zz_seti (nI q_5) er_5 ?_
          refine lv_istore (lv' := [(4, .int (nI q_5)), (3, .int (nI q_3)), (0, .ref (a 34)), (1, .int (nI sx)), (2, .int (nI j))]) hx hb dX2_payWithin_30 hl (by decide) rfl (fun ls hl => ?_)
          refine lv_iload_n hx hb dX2_payWithin_32 rfl (lv_at hl 1 rfl) ?_
          refine lv_iconst (v := (-1)) hx hb dX2_payWithin_33 (by decide) ?_
          refine lv_icmp_eq (tgt := 43) hx hb dX2_payWithin_34 (by decide) (fun c_7 => absurd c_7 (by rw [← Int32.toInt_inj, zz_toInt q_3 (by omega), show ((-1) : Int32).toInt = -1 from by decide]; omega)) (fun _ => ?_)
          refine lv_iload hx hb dX2_payWithin_37 (lv_at hl 0 rfl) ?_
          refine lv_iconst (v := (-1)) hx hb dX2_payWithin_39 (by decide) ?_
          refine lv_icmp_ne (tgt := 44) hx hb dX2_payWithin_40 (by decide) (fun _ => ?_) (fun c_8 => absurd c_8 (by rw [← Int32.toInt_inj, zz_toInt q_5 (by omega), show ((-1) : Int32).toInt = -1 from by decide]; omega))
          have fb_3 := zz_fb_some hq_3 lp_3 lm_3
          have fa_5 := zz_fa_some hq_5 lp_5 lm_5
          obtain ⟨hv1, hv2, hv3, hv4⟩ := zz_pw_ev hq_3 hq_5 lp_3 lp_5 ir
          refine lv_aload_n hx hb dX2_payWithin_44 rfl (lv_at hl 2 rfl) ?_
          refine va_get (D := (dC, dI)) (ci := 2) (v := .ref (a 37)) (C := RX2) (T := TX2) (N := 9) hx hb hw zz_inX2 hown hK hP 0 rfl rfl 2 (by decide) (hw _ tw_102) (fun _ h9 => h9) rfl dX2_payWithin_45 ?_
          refine lv_iload_n hx hb dX2_payWithin_48 rfl (lv_at hl 1 rfl) ?_
          refine va_iald hx hb hK hP 1 0 rfl rfl (vp_in_iff.mpr (by rw [zz_toInt q_3 (by omega)]; constructor <;> omega)) dX2_payWithin_49 ?_
          refine zz_seti (g2 q_3) (congrArg g2 (zz_cl (by omega))) ?_
          refine lv_ineg hx hb dX2_payWithin_50 ?_
          refine lv_aload_n hx hb dX2_payWithin_51 rfl (lv_at hl 2 rfl) ?_
          refine va_get (D := (dC, dI)) (ci := 2) (v := .ref (a 37)) (C := RX2) (T := TX2) (N := 9) hx hb hw zz_inX2 hown hK hP 0 rfl rfl 2 (by decide) (hw _ tw_102) (fun _ h9 => h9) rfl dX2_payWithin_52 ?_
          refine lv_iload hx hb dX2_payWithin_55 (lv_at hl 0 rfl) ?_
          refine va_iald hx hb hK hP 1 0 rfl rfl (vp_in_iff.mpr (by rw [zz_toInt q_5 (by omega)]; constructor <;> omega)) dX2_payWithin_57 ?_
          refine zz_seti (g2 q_5) (congrArg g2 (zz_cl (by omega))) ?_
          refine va_mmin hx hb (by rw [hml]; exact hl.1.symm) hown (hw _ tw_111) (hw _ tw_27) (hw _ tw_28) (hw _ tw_29) (Nat.le_of_ble_eq_true rfl) (Nat.le_of_ble_eq_true rfl) (Nat.le_of_ble_eq_true rfl) (Nat.le_of_ble_eq_true rfl) dX2_payWithin_58 ?_
          refine zz_seti (zz_mn g2 q_3 q_5) rfl ?_
          refine lv_istore (lv' := [(5, .int (zz_mn g2 q_3 q_5)), (4, .int (nI q_5)), (3, .int (nI q_3)), (0, .ref (a 34)), (1, .int (nI sx)), (2, .int (nI j))]) hx hb dX2_payWithin_61 hl (by decide) rfl (fun ls hl => ?_)
          refine lv_aload_n hx hb dX2_payWithin_63 rfl (lv_at hl 3 rfl) ?_
          refine va_get (D := (dC, dI)) (ci := 2) (v := .ref (a 37)) (C := RX2) (T := TX2) (N := 9) hx hb hw zz_inX2 hown hK hP 0 rfl rfl 2 (by decide) (hw _ tw_102) (fun _ h9 => h9) rfl dX2_payWithin_64 ?_
          refine lv_iload_n hx hb dX2_payWithin_67 rfl (lv_at hl 2 rfl) ?_
          refine lv_dup2_11 hx hb dX2_payWithin_68 rfl rfl ?_
          refine va_iald hx hb hK hP 1 0 rfl rfl (vp_in_iff.mpr (by rw [zz_toInt q_3 (by omega)]; constructor <;> omega)) dX2_payWithin_69 ?_
          refine zz_seti (g2 q_3) (congrArg g2 (zz_cl (by omega))) ?_
          refine lv_iload hx hb dX2_payWithin_70 (lv_at hl 0 rfl) ?_
          refine lv_iadd hx hb dX2_payWithin_72 ?_
          refine va_iast hx hb hK hP hD hS 1 0 rfl rfl (vp_in_iff.mpr (by rw [zz_toInt q_3 (by omega)]; constructor <;> omega)) dX2_payWithin_73 (fun H locs hP hD hS => ?_)
          obtain ⟨hP, hD⟩ := zz_ty (D := (dC, dI)) (cl := vwCl) (A := A) (H := H) [(a 34, .inr (2, [.ref (a 35), .ref (a 36), .ref (a 37), .ref (a 38), .ref (a 39), .ref (a 40), .ref (a 41), .ref (a 42), .int (nI me)])), (a 37, .inl (cI, 8, .inl (upd g2 (Int32.toNatClampNeg (nI q_3)) ((g2 q_3) + (zz_mn g2 q_3 q_5))))), (a 40, .inl (cI, 8, .inl g5)), (a 41, .inl (cI, 8, .inl g6)), (a 42, .inl (cI, 8, .inl g7))] hP hD rfl
          refine lv_aload_n hx hb dX2_payWithin_74 rfl (lv_at hl 3 rfl) ?_
          refine va_get (D := (dC, dI)) (ci := 2) (v := .ref (a 37)) (C := RX2) (T := TX2) (N := 9) hx hb hw zz_inX2 hown hK hP 0 rfl rfl 2 (by decide) (hw _ tw_102) (fun _ h9 => h9) rfl dX2_payWithin_75 ?_
          refine lv_iload hx hb dX2_payWithin_78 (lv_at hl 1 rfl) ?_
          refine lv_dup2_11 hx hb dX2_payWithin_80 rfl rfl ?_
          refine va_iald hx hb hK hP 1 0 rfl rfl (vp_in_iff.mpr (by rw [zz_toInt q_5 (by omega)]; constructor <;> omega)) dX2_payWithin_81 ?_
          refine zz_seti ((upd g2 (Int32.toNatClampNeg (nI q_3)) ((g2 q_3) + (zz_mn g2 q_3 q_5))) q_5) (congrArg (upd g2 (Int32.toNatClampNeg (nI q_3)) ((g2 q_3) + (zz_mn g2 q_3 q_5))) (zz_cl (by omega))) ?_
          refine lv_iload hx hb dX2_payWithin_82 (lv_at hl 0 rfl) ?_
          refine lv_isub hx hb dX2_payWithin_84 ?_
          refine va_iast hx hb hK hP hD hS 1 0 rfl rfl (vp_in_iff.mpr (by rw [zz_toInt q_5 (by omega)]; constructor <;> omega)) dX2_payWithin_85 (fun H locs hP hD hS => ?_)
          obtain ⟨hP, hD⟩ := zz_ty (D := (dC, dI)) (cl := vwCl) (A := A) (H := H) [(a 34, .inr (2, [.ref (a 35), .ref (a 36), .ref (a 37), .ref (a 38), .ref (a 39), .ref (a 40), .ref (a 41), .ref (a 42), .int (nI me)])), (a 37, .inl (cI, 8, .inl (upd (upd g2 (Int32.toNatClampNeg (nI q_3)) ((g2 q_3) + (zz_mn g2 q_3 q_5))) (Int32.toNatClampNeg (nI q_5)) (((upd g2 (Int32.toNatClampNeg (nI q_3)) ((g2 q_3) + (zz_mn g2 q_3 q_5))) q_5) - (zz_mn g2 q_3 q_5))))), (a 40, .inl (cI, 8, .inl g5)), (a 41, .inl (cI, 8, .inl g6)), (a 42, .inl (cI, 8, .inl g7))] hP hD rfl
          obtain ⟨hP, hD⟩ := zz_ty (D := (dC, dI)) (cl := vwCl) (A := A) (H := H) [(a 34, .inr (2, [.ref (a 35), .ref (a 36), .ref (a 37), .ref (a 38), .ref (a 39), .ref (a 40), .ref (a 41), .ref (a 42), .int (nI me)])), (a 37, .inl (cI, 8, .inl (zz_un2 g2 q_3 q_5))), (a 40, .inl (cI, 8, .inl g5)), (a 41, .inl (cI, 8, .inl g6)), (a 42, .inl (cI, 8, .inl g7))] hP hD rfl
          refine lv_aload_n hx hb dX2_payWithin_86 rfl (lv_at hl 3 rfl) ?_
          refine va_get (D := (dC, dI)) (ci := 2) (v := .ref (a 40)) (C := RX2) (T := TX2) (N := 9) hx hb hw zz_inX2 hown hK hP 0 rfl rfl 5 (by decide) (hw _ tw_112) (fun _ h9 => h9) rfl dX2_payWithin_87 ?_
          refine lv_aload_n hx hb dX2_payWithin_90 rfl (lv_at hl 3 rfl) ?_
          refine va_get (D := (dC, dI)) (ci := 2) (v := .int (nI me)) (C := RX2) (T := TX2) (N := 9) hx hb hw zz_inX2 hown hK hP 0 rfl rfl 8 (by decide) (hw _ tw_105) (fun _ h9 => h9) rfl dX2_payWithin_91 ?_
          refine lv_iload_n hx hb dX2_payWithin_94 rfl (lv_at hl 2 rfl) ?_
          refine va_iast hx hb hK hP hD hS 2 0 rfl rfl (vp_in_iff.mpr (by rw [zz_toInt me (by omega)]; constructor <;> omega)) dX2_payWithin_95 (fun H locs hP hD hS => ?_)
          obtain ⟨hP, hD⟩ := zz_ty (D := (dC, dI)) (cl := vwCl) (A := A) (H := H) [(a 34, .inr (2, [.ref (a 35), .ref (a 36), .ref (a 37), .ref (a 38), .ref (a 39), .ref (a 40), .ref (a 41), .ref (a 42), .int (nI me)])), (a 37, .inl (cI, 8, .inl (zz_un2 g2 q_3 q_5))), (a 40, .inl (cI, 8, .inl (upd g5 (Int32.toNatClampNeg (nI me)) (nI q_3)))), (a 41, .inl (cI, 8, .inl g6)), (a 42, .inl (cI, 8, .inl g7))] hP hD rfl
          refine lv_aload_n hx hb dX2_payWithin_96 rfl (lv_at hl 3 rfl) ?_
          refine va_get (D := (dC, dI)) (ci := 2) (v := .ref (a 41)) (C := RX2) (T := TX2) (N := 9) hx hb hw zz_inX2 hown hK hP 0 rfl rfl 6 (by decide) (hw _ tw_113) (fun _ h9 => h9) rfl dX2_payWithin_97 ?_
          refine lv_aload_n hx hb dX2_payWithin_100 rfl (lv_at hl 3 rfl) ?_
          refine va_get (D := (dC, dI)) (ci := 2) (v := .int (nI me)) (C := RX2) (T := TX2) (N := 9) hx hb hw zz_inX2 hown hK hP 0 rfl rfl 8 (by decide) (hw _ tw_105) (fun _ h9 => h9) rfl dX2_payWithin_101 ?_
          refine lv_iload hx hb dX2_payWithin_104 (lv_at hl 1 rfl) ?_
          refine va_iast hx hb hK hP hD hS 3 0 rfl rfl (vp_in_iff.mpr (by rw [zz_toInt me (by omega)]; constructor <;> omega)) dX2_payWithin_106 (fun H locs hP hD hS => ?_)
          obtain ⟨hP, hD⟩ := zz_ty (D := (dC, dI)) (cl := vwCl) (A := A) (H := H) [(a 34, .inr (2, [.ref (a 35), .ref (a 36), .ref (a 37), .ref (a 38), .ref (a 39), .ref (a 40), .ref (a 41), .ref (a 42), .int (nI me)])), (a 37, .inl (cI, 8, .inl (zz_un2 g2 q_3 q_5))), (a 40, .inl (cI, 8, .inl (upd g5 (Int32.toNatClampNeg (nI me)) (nI q_3)))), (a 41, .inl (cI, 8, .inl (upd g6 (Int32.toNatClampNeg (nI me)) (nI q_5)))), (a 42, .inl (cI, 8, .inl g7))] hP hD rfl
          refine lv_aload_n hx hb dX2_payWithin_107 rfl (lv_at hl 3 rfl) ?_
          refine va_get (D := (dC, dI)) (ci := 2) (v := .ref (a 42)) (C := RX2) (T := TX2) (N := 9) hx hb hw zz_inX2 hown hK hP 0 rfl rfl 7 (by decide) (hw _ tw_114) (fun _ h9 => h9) rfl dX2_payWithin_108 ?_
          refine lv_aload_n hx hb dX2_payWithin_111 rfl (lv_at hl 3 rfl) ?_
          refine va_get (D := (dC, dI)) (ci := 2) (v := .int (nI me)) (C := RX2) (T := TX2) (N := 9) hx hb hw zz_inX2 hown hK hP 0 rfl rfl 8 (by decide) (hw _ tw_105) (fun _ h9 => h9) rfl dX2_payWithin_112 ?_
          refine lv_iload hx hb dX2_payWithin_115 (lv_at hl 0 rfl) ?_
          refine va_iast hx hb hK hP hD hS 4 0 rfl rfl (vp_in_iff.mpr (by rw [zz_toInt me (by omega)]; constructor <;> omega)) dX2_payWithin_117 (fun H locs hP hD hS => ?_)
          obtain ⟨hP, hD⟩ := zz_ty (D := (dC, dI)) (cl := vwCl) (A := A) (H := H) [(a 34, .inr (2, [.ref (a 35), .ref (a 36), .ref (a 37), .ref (a 38), .ref (a 39), .ref (a 40), .ref (a 41), .ref (a 42), .int (nI me)])), (a 37, .inl (cI, 8, .inl (zz_un2 g2 q_3 q_5))), (a 40, .inl (cI, 8, .inl (upd g5 (Int32.toNatClampNeg (nI me)) (nI q_3)))), (a 41, .inl (cI, 8, .inl (upd g6 (Int32.toNatClampNeg (nI me)) (nI q_5)))), (a 42, .inl (cI, 8, .inl (upd g7 (Int32.toNatClampNeg (nI me)) (zz_mn g2 q_3 q_5))))] hP hD rfl
          refine lv_aload_n hx hb dX2_payWithin_118 rfl (lv_at hl 3 rfl) ?_
          refine lv_dup hx hb dX2_payWithin_119 rfl ?_
          refine va_get (D := (dC, dI)) (ci := 2) (v := .int (nI me)) (C := RX2) (T := TX2) (N := 9) hx hb hw zz_inX2 hown hK hP 0 rfl rfl 8 (by decide) (hw _ tw_105) (fun _ h9 => h9) rfl dX2_payWithin_120 ?_
          refine lv_iconst (v := 1) hx hb dX2_payWithin_123 (by decide) ?_
          refine lv_iadd hx hb dX2_payWithin_124 ?_
          refine zz_seti (nI (me + 1)) (nI_1 _) ?_
          refine va_put (D := (dC, dI)) (ci := 2) (v := .int (nI (me + 1))) (ty := .int) (C := RX2) (T := TX2) (N := 9) hx hb hw zz_inX2 tyX2 tyX2_ok nmX2 hown hK hP hD hS 0 rfl rfl 8 (by decide) (hw _ tw_105) (fun _ h9 => h9) rfl (by decide +kernel) rfl rfl (Nat.le_of_ble_eq_true rfl) dX2_payWithin_125 (fun H locs hP hD hS => ?_)
          obtain ⟨hP, hD⟩ := zz_ty (D := (dC, dI)) (cl := vwCl) (A := A) (H := H) [(a 34, .inr (2, [.ref (a 35), .ref (a 36), .ref (a 37), .ref (a 38), .ref (a 39), .ref (a 40), .ref (a 41), .ref (a 42), .int (nI (me + 1))])), (a 37, .inl (cI, 8, .inl (zz_un2 g2 q_3 q_5))), (a 40, .inl (cI, 8, .inl (upd g5 (Int32.toNatClampNeg (nI me)) (nI q_3)))), (a 41, .inl (cI, 8, .inl (upd g6 (Int32.toNatClampNeg (nI me)) (nI q_5)))), (a 42, .inl (cI, 8, .inl (upd g7 (Int32.toNatClampNeg (nI me)) (zz_mn g2 q_3 q_5))))] hP hD rfl
          refine lv_iinc (v := (nI (j + 1))) (lv' := [(2, .int (nI (j + 1))), (5, .int (zz_mn g2 q_3 q_5)), (4, .int (nI q_5)), (3, .int (nI q_3)), (0, .ref (a 34)), (1, .int (nI sx))]) hx hb dX2_payWithin_128 hl (k := 5) rfl (nI_1 _) (by decide) rfl (fun ls hl => ?_)
          refine lv_goto (tgt := 2) hx hb dX2_payWithin_131 (by decide) ?_
          exact ih_2 ((j + 1), (me + 1), (zz_un2 g2 q_3 q_5), (upd g5 (Int32.toNatClampNeg (nI me)) (nI q_3)), (upd g6 (Int32.toNatClampNeg (nI me)) (nI q_5)), (upd g7 (Int32.toNatClampNeg (nI me)) (zz_mn g2 q_3 q_5)), (lk ++ [(q_3, q_5, zz_mn g2 q_3 q_5)])) ⟨by omega, zz_pw_snoc ipw (by omega), hv1.trans iz, hv2, by omega, fun h hh => (hv4 h hh).trans (is0 h hh), by omega, zz_evs (fb_3) (fa_5) (by omega) iev⟩ (show 8 - (j + 1) < 8 - j from by omega) _ _ _ (hP.sub [0, 1, 2, 3, 4] rfl) (hD.sub [0, 1, 2, 3, 4] (by decide) rfl) hS (lv_sub hl [4, 5, 0] rfl)
