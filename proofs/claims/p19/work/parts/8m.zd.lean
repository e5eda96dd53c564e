set_option maxHeartbeats 4000000 in
set_option maxRecDepth 100000 in
theorem kx_leastNeg (l : Launch) (dC : Nat → ClassId) (dI : Nat → Nat → Nat) (a : Nat → Nat) (cI : ClassId) (ne : Nat) (e2 : Nat → Int32) (sx : Nat) (sz : Nat) (hsx : sx < 256) (hrz : zz_rg e2 8 (-930000000) 930000000) : Met l yX2_leastInGroup (zz_w yX2_leastInGroup cX2_leastInGroup 4 (some .int)) ({ frames := 0, cells := 0, slots := 0, locals := 0 }) (va_Pc [.ref (a 34), .int (nI sx), .int (-1)] (zz_B (dC, dI) sz [(a 34, .inr (2, [.ref (a 35), .ref (a 36), .ref (a 37), .ref (a 38), .ref (a 39), .ref (a 40), .ref (a 41), .ref (a 42), .int (nI ne)])), (a 37, .inl (cI, 8, .inl e2))] [(cI, .int)])) (va_Qi (fun (r : Int32) (_ : Unit) => (r = -1 ∧ ∀ h : Nat, h < 8 → ¬ zz_pb e2 sx h) ∨ ∃ q : Nat, q < 8 ∧ r = nI q ∧ zz_pb e2 sx q ∧ ∀ h : Nat, h < q → ¬ zz_pb e2 sx h) (fun _ _ => True) (va_A [] sz)) 0 0 (va_A [] sz) := by
  refine Met.ofW (cc := cX2_leastInGroup) (maxL := 4) (ret := (some .int)) (by decide) rfl ?_
  intro p e s m args below meth c s₁ B hml hv
  obtain ⟨rfl, hsz, hP, hK, hD0, hN⟩ := hv
  have hx := B.exec
  have hb := B.bytes
  have hr := B.returns
  have hts := atoms_spec (ws := zz_w yX2_leastInGroup cX2_leastInGroup 4 (some .int)) B.pre
  have hw : ∀ w ∈ zz_all, w.before _ s = true := fun w h => hts w (List.mem_cons_of_mem _ h)
  have hown : s.vm.findClass RX2 = some m.cls := findClass_of_methodNamed B.named
  have hlocks := B.notSynchronized
  subst hsz
  have hD := hD0
  generalize hAe : va_A [] s.heap.size = A
  have hA : ∀ q : Nat, s.heap.size ≤ q → A q := fun q h => by rw [← hAe]; exact Or.inr h
  have hS : va_S A s.heap s.heap [] := va_S.rf
  have hP : va_P (dC, dI) vwCl [(a 34, .inr (2, [.ref (a 35), .ref (a 36), .ref (a 37), .ref (a 38), .ref (a 39), .ref (a 40), .ref (a 41), .ref (a 42), .int (nI ne)])), (a 37, .inl (cI, 8, .inl e2))] s.heap := hP
  have hl := lv_entry ([.ref (a 34), .int (nI sx), .int (-1)]) (n := 4) (Nat.le_of_ble_eq_true rfl)
  rw [lg_entry_eq]
  generalize (lg_sl ([.ref (a 34), .int (nI sx), .int (-1)]) ++ List.replicate (4 - (lg_sl ([.ref (a 34), .int (nI sx), .int (-1)])).length) Slot.unset).toArray = ls at hl ⊢
  have hl : lv_has ls 4 [(0, .ref (a 34)), (1, .int (nI sx)), (2, .int (-1))] := hl
  refine lv_iconst (v := 0) hx hb dX2_leastInGroup_0 (by decide) ?_
  refine lv_istore_n (lv' := [(3, .int 0), (0, .ref (a 34)), (1, .int (nI sx)), (2, .int (-1))]) hx hb dX2_leastInGroup_1 rfl hl (by decide) rfl (fun ls hl => ?_)
  refine zz_loopS (fun (j : (Nat)) => [(a 34, .inr (2, [.ref (a 35), .ref (a 36), .ref (a 37), .ref (a 38), .ref (a 39), .ref (a 40), .ref (a 41), .ref (a 42), .int (nI ne)])), (a 37, .inl (cI, 8, .inl e2))]) (fun (j : (Nat)) => [(0, .ref (a 34)), (1, .int (nI sx)), (2, .int (-1)), (3, .int (nI j))]) (fun (j : (Nat)) => j ≤ 8 ∧ ∀ h : Nat, h < j → ¬ zz_pb e2 sx h) (fun (j : (Nat)) => 8 - j) (fun u hI H locs ls hP hD hS hl ih_2 => ?_) 0 ⟨by omega, fun h hh => absurd hh (Nat.not_lt_zero _)⟩ _ _ _ (hP.sub [0, 1] rfl) (hD.sub [0, 1] (by decide) rfl) hS (lv_sub hl [1, 2, 3, 0] rfl)
  obtain ⟨j, rfl⟩ : ∃ z, z = u := ⟨_, rfl⟩
  obtain ⟨hP, hD⟩ := zz_ty (D := (dC, dI)) (cl := vwCl) (A := (fun _ => True)) (H := H) [(a 34, .inr (2, [.ref (a 35), .ref (a 36), .ref (a 37), .ref (a 38), .ref (a 39), .ref (a 40), .ref (a 41), .ref (a 42), .int (nI ne)])), (a 37, .inl (cI, 8, .inl e2))] hP hD rfl
  have hl : lv_has ls 4 [(0, .ref (a 34)), (1, .int (nI sx)), (2, .int (-1)), (3, .int (nI j))] := hl
  have hI : j ≤ 8 ∧ ∀ h : Nat, h < j → ¬ zz_pb e2 sx h := hI
  obtain ⟨ij, ia⟩ := hI
  refine lv_iload_n hx hb dX2_leastInGroup_2 rfl (lv_at hl 3 rfl) ?_
  refine lv_bipush (v := 8) hx hb dX2_leastInGroup_3 (by decide) ?_
  refine lv_icmp_ge (tgt := 35) hx hb dX2_leastInGroup_5 (by decide) (fun c_1 => ?_) (fun c_1 => ?_)
  · have zc_1 := c_1
    rw [Int32.le_iff_toInt_le] at zc_1
    try rw [zz_toInt j (by omega)] at zc_1
    try rw [show (8 : Int32).toInt = 8 from by decide] at zc_1
    refine lv_iconst (v := (-1)) hx hb dX2_leastInGroup_35 (by decide) ?_
    exact W.iret (v := (-1)) hx hb hr (fun t ht hW => ⟨⟨(-1), (), rfl, (Or.inl ⟨rfl, fun h hh => ia h (by omega)⟩), trivial⟩, hS.F ht⟩) hS.2.2 dX2_leastInGroup_36
  · have zc_1 := c_1
    rw [Int32.le_iff_toInt_le] at zc_1
    try rw [zz_toInt j (by omega)] at zc_1
    try rw [show (8 : Int32).toInt = 8 from by decide] at zc_1
    have hpw := zz_p2le (j := j) (by omega)
    refine lv_iload_n hx hb dX2_leastInGroup_8 rfl (lv_at hl 1 rfl) ?_
    refine lv_iconst (v := 1) hx hb dX2_leastInGroup_9 (by decide) ?_
    refine lv_iload_n hx hb dX2_leastInGroup_10 rfl (lv_at hl 3 rfl) ?_
    refine lv_ishl hx hb dX2_leastInGroup_11 ?_
    refine zz_seti (nI (2 ^ j)) (zz_shl (by omega)) ?_
    refine lv_iand hx hb dX2_leastInGroup_12 ?_
    refine zz_seti (nI (sx &&& (2 ^ j))) (zz_andN (by omega) (by omega)) ?_
    have hand_2 := Nat.and_le_left (n := sx) (m := (2 ^ j))
    refine lv_if_eq (tgt := 29) hx hb dX2_leastInGroup_13 (by decide) (fun c_3 => ?_) (fun c_3 => ?_)
    · have zc_3 := c_3
      rw [← Int32.toInt_inj] at zc_3
      try rw [zz_toInt (sx &&& (2 ^ j)) (by omega)] at zc_3
      try rw [show (0 : Int32).toInt = 0 from by decide] at zc_3
      refine lv_iinc (v := (nI (j + 1))) (lv' := [(3, .int (nI (j + 1))), (0, .ref (a 34)), (1, .int (nI sx)), (2, .int (-1))]) hx hb dX2_leastInGroup_29 hl (k := 3) rfl (nI_1 _) (by decide) rfl (fun ls hl => ?_)
      refine lv_goto (tgt := 2) hx hb dX2_leastInGroup_32 (by decide) ?_
      exact ih_2 (j + 1) ⟨by omega, zz_nox (P := zz_pb e2 sx) ia (fun h9 => by have h8 := h9.1; rw [zz_tb0 (by omega)] at h8; cases h8)⟩ (show 8 - (j + 1) < 8 - j from by omega) _ _ _ (hP.sub [0, 1] rfl) (hD.sub [0, 1] (by decide) rfl) hS (lv_sub hl [1, 2, 3, 0] rfl)
    · have zc_3 := c_3
      rw [← Int32.toInt_inj] at zc_3
      try rw [zz_toInt (sx &&& (2 ^ j)) (by omega)] at zc_3
      try rw [show (0 : Int32).toInt = 0 from by decide] at zc_3
      refine lv_aload_n hx hb dX2_leastInGroup_16 rfl (lv_at hl 0 rfl) ?_
      refine va_get (D := (dC, dI)) (ci := 2) (v := .ref (a 37)) (C := RX2) (T := TX2) (N := 9) hx hb hw zz_inX2 hown hK hP 0 rfl rfl 2 (by decide) (hw _ tw_102) (fun _ h9 => h9) rfl dX2_leastInGroup_17 ?_
      refine lv_iload_n hx hb dX2_leastInGroup_20 rfl (lv_at hl 3 rfl) ?_
      refine va_iald hx hb hK hP 1 0 rfl rfl (vp_in_iff.mpr (by rw [zz_toInt j (by omega)]; constructor <;> omega)) dX2_leastInGroup_21 ?_
      refine zz_seti (e2 j) (congrArg e2 (zz_cl (by omega))) ?_
      refine lv_iload_n hx hb dX2_leastInGroup_22 rfl (lv_at hl 2 rfl) ?_
      refine lv_imul hx hb dX2_leastInGroup_23 ?_
      refine lv_topi (fun pv epv => ?_)
      have zpv : pv.toInt = -(e2 j).toInt := by rw [epv]; exact zz_mulm (hrz j (by omega))
      refine lv_if_le (tgt := 29) hx hb dX2_leastInGroup_24 (by decide) (fun c_4 => ?_) (fun c_4 => ?_)
      · have zc_4 := c_4
        rw [Int32.le_iff_toInt_le] at zc_4
        try rw [show (0 : Int32).toInt = 0 from by decide] at zc_4
        refine lv_iinc (v := (nI (j + 1))) (lv' := [(3, .int (nI (j + 1))), (0, .ref (a 34)), (1, .int (nI sx)), (2, .int (-1))]) hx hb dX2_leastInGroup_29 hl (k := 3) rfl (nI_1 _) (by decide) rfl (fun ls hl => ?_)
        refine lv_goto (tgt := 2) hx hb dX2_leastInGroup_32 (by decide) ?_
        exact ih_2 (j + 1) ⟨by omega, zz_nox (P := zz_pb e2 sx) ia (fun h9 => by have h8 := h9.2; omega)⟩ (show 8 - (j + 1) < 8 - j from by omega) _ _ _ (hP.sub [0, 1] rfl) (hD.sub [0, 1] (by decide) rfl) hS (lv_sub hl [1, 2, 3, 0] rfl)
      · have zc_4 := c_4
        rw [Int32.le_iff_toInt_le] at zc_4
        try rw [show (0 : Int32).toInt = 0 from by decide] at zc_4
        refine lv_iload_n hx hb dX2_leastInGroup_27 rfl (lv_at hl 3 rfl) ?_
        exact W.iret (v := (nI j)) hx hb hr (fun t ht hW => ⟨⟨(nI j), (), rfl, (Or.inr ⟨j, by omega, rfl, ⟨zz_tb1 (by omega), by omega⟩, ia⟩), trivial⟩, hS.F ht⟩) hS.2.2 dX2_leastInGroup_28
set_option maxHeartbeats 4000000 in
set_option maxRecDepth 100000 in
theorem kx_leastPos (l : Launch) (dC : Nat → ClassId) (dI : Nat → Nat → Nat) (a : Nat → Nat) (cI : ClassId) (ne : Nat) (e2 : Nat → Int32) (sx : Nat) (sz : Nat) (hsx : sx < 256) (hrz : zz_rg e2 8 (-930000000) 930000000) : Met l yX2_leastInGroup (zz_w yX2_leastInGroup cX2_leastInGroup 4 (some .int)) ({ frames := 0, cells := 0, slots := 0, locals := 0 }) (va_Pc [.ref (a 34), .int (nI sx), .int 1] (zz_B (dC, dI) sz [(a 34, .inr (2, [.ref (a 35), .ref (a 36), .ref (a 37), .ref (a 38), .ref (a 39), .ref (a 40), .ref (a 41), .ref (a 42), .int (nI ne)])), (a 37, .inl (cI, 8, .inl e2))] [(cI, .int)])) (va_Qi (fun (r : Int32) (_ : Unit) => (r = -1 ∧ ∀ h : Nat, h < 8 → ¬ zz_pa e2 sx h) ∨ ∃ q : Nat, q < 8 ∧ r = nI q ∧ zz_pa e2 sx q ∧ ∀ h : Nat, h < q → ¬ zz_pa e2 sx h) (fun _ _ => True) (va_A [] sz)) 0 0 (va_A [] sz) := by
  refine Met.ofW (cc := cX2_leastInGroup) (maxL := 4) (ret := (some .int)) (by decide) rfl ?_
  intro p e s m args below meth c s₁ B hml hv
  obtain ⟨rfl, hsz, hP, hK, hD0, hN⟩ := hv
  have hx := B.exec
  have hb := B.bytes
  have hr := B.returns
  have hts := atoms_spec (ws := zz_w yX2_leastInGroup cX2_leastInGroup 4 (some .int)) B.pre
  have hw : ∀ w ∈ zz_all, w.before _ s = true := fun w h => hts w (List.mem_cons_of_mem _ h)
  have hown : s.vm.findClass RX2 = some m.cls := findClass_of_methodNamed B.named
  have hlocks := B.notSynchronized
  subst hsz
  have hD := hD0
  generalize hAe : va_A [] s.heap.size = A
  have hA : ∀ q : Nat, s.heap.size ≤ q → A q := fun q h => by rw [← hAe]; exact Or.inr h
  have hS : va_S A s.heap s.heap [] := va_S.rf
  have hP : va_P (dC, dI) vwCl [(a 34, .inr (2, [.ref (a 35), .ref (a 36), .ref (a 37), .ref (a 38), .ref (a 39), .ref (a 40), .ref (a 41), .ref (a 42), .int (nI ne)])), (a 37, .inl (cI, 8, .inl e2))] s.heap := hP
  have hl := lv_entry ([.ref (a 34), .int (nI sx), .int 1]) (n := 4) (Nat.le_of_ble_eq_true rfl)
  rw [lg_entry_eq]
  generalize (lg_sl ([.ref (a 34), .int (nI sx), .int 1]) ++ List.replicate (4 - (lg_sl ([.ref (a 34), .int (nI sx), .int 1])).length) Slot.unset).toArray = ls at hl ⊢
  have hl : lv_has ls 4 [(0, .ref (a 34)), (1, .int (nI sx)), (2, .int 1)] := hl
  refine lv_iconst (v := 0) hx hb dX2_leastInGroup_0 (by decide) ?_
  refine lv_istore_n (lv' := [(3, .int 0), (0, .ref (a 34)), (1, .int (nI sx)), (2, .int 1)]) hx hb dX2_leastInGroup_1 rfl hl (by decide) rfl (fun ls hl => ?_)
  refine zz_loopS (fun (j : (Nat)) => [(a 34, .inr (2, [.ref (a 35), .ref (a 36), .ref (a 37), .ref (a 38), .ref (a 39), .ref (a 40), .ref (a 41), .ref (a 42), .int (nI ne)])), (a 37, .inl (cI, 8, .inl e2))]) (fun (j : (Nat)) => [(0, .ref (a 34)), (1, .int (nI sx)), (2, .int 1), (3, .int (nI j))]) (fun (j : (Nat)) => j ≤ 8 ∧ ∀ h : Nat, h < j → ¬ zz_pa e2 sx h) (fun (j : (Nat)) => 8 - j) (fun u hI H locs ls hP hD hS hl ih_2 => ?_) 0 ⟨by omega, fun h hh => absurd hh (Nat.not_lt_zero _)⟩ _ _ _ (hP.sub [0, 1] rfl) (hD.sub [0, 1] (by decide) rfl) hS (lv_sub hl [1, 2, 3, 0] rfl)
  obtain ⟨j, rfl⟩ : ∃ z, z = u := ⟨_, rfl⟩
  obtain ⟨hP, hD⟩ := zz_ty (D := (dC, dI)) (cl := vwCl) (A := (fun _ => True)) (H := H) [(a 34, .inr (2, [.ref (a 35), .ref (a 36), .ref (a 37), .ref (a 38), .ref (a 39), .ref (a 40), .ref (a 41), .ref (a 42), .int (nI ne)])), (a 37, .inl (cI, 8, .inl e2))] hP hD rfl
  have hl : lv_has ls 4 [(0, .ref (a 34)), (1, .int (nI sx)), (2, .int 1), (3, .int (nI j))] := hl
  have hI : j ≤ 8 ∧ ∀ h : Nat, h < j → ¬ zz_pa e2 sx h := hI
  obtain ⟨ij, ia⟩ := hI
  refine lv_iload_n hx hb dX2_leastInGroup_2 rfl (lv_at hl 3 rfl) ?_
  refine lv_bipush (v := 8) hx hb dX2_leastInGroup_3 (by decide) ?_
  refine lv_icmp_ge (tgt := 35) hx hb dX2_leastInGroup_5 (by decide) (fun c_1 => ?_) (fun c_1 => ?_)
  · have zc_1 := c_1
    rw [Int32.le_iff_toInt_le] at zc_1
    try rw [zz_toInt j (by omega)] at zc_1
    try rw [show (8 : Int32).toInt = 8 from by decide] at zc_1
    refine lv_iconst (v := (-1)) hx hb dX2_leastInGroup_35 (by decide) ?_
    exact W.iret (v := (-1)) hx hb hr (fun t ht hW => ⟨⟨(-1), (), rfl, (Or.inl ⟨rfl, fun h hh => ia h (by omega)⟩), trivial⟩, hS.F ht⟩) hS.2.2 dX2_leastInGroup_36
  · have zc_1 := c_1
    rw [Int32.le_iff_toInt_le] at zc_1
    try rw [zz_toInt j (by omega)] at zc_1
    try rw [show (8 : Int32).toInt = 8 from by decide] at zc_1
    have hpw := zz_p2le (j := j) (by omega)
    refine lv_iload_n hx hb dX2_leastInGroup_8 rfl (lv_at hl 1 rfl) ?_
    refine lv_iconst (v := 1) hx hb dX2_leastInGroup_9 (by decide) ?_
    refine lv_iload_n hx hb dX2_leastInGroup_10 rfl (lv_at hl 3 rfl) ?_
    refine lv_ishl hx hb dX2_leastInGroup_11 ?_
    refine zz_seti (nI (2 ^ j)) (zz_shl (by omega)) ?_
    refine lv_iand hx hb dX2_leastInGroup_12 ?_
    refine zz_seti (nI (sx &&& (2 ^ j))) (zz_andN (by omega) (by omega)) ?_
    have hand_2 := Nat.and_le_left (n := sx) (m := (2 ^ j))
    refine lv_if_eq (tgt := 29) hx hb dX2_leastInGroup_13 (by decide) (fun c_3 => ?_) (fun c_3 => ?_)
    · have zc_3 := c_3
      rw [← Int32.toInt_inj] at zc_3
      try rw [zz_toInt (sx &&& (2 ^ j)) (by omega)] at zc_3
      try rw [show (0 : Int32).toInt = 0 from by decide] at zc_3
      refine lv_iinc (v := (nI (j + 1))) (lv' := [(3, .int (nI (j + 1))), (0, .ref (a 34)), (1, .int (nI sx)), (2, .int 1)]) hx hb dX2_leastInGroup_29 hl (k := 3) rfl (nI_1 _) (by decide) rfl (fun ls hl => ?_)
      refine lv_goto (tgt := 2) hx hb dX2_leastInGroup_32 (by decide) ?_
      exact ih_2 (j + 1) ⟨by omega, zz_nox (P := zz_pa e2 sx) ia (fun h9 => by have h8 := h9.1; rw [zz_tb0 (by omega)] at h8; cases h8)⟩ (show 8 - (j + 1) < 8 - j from by omega) _ _ _ (hP.sub [0, 1] rfl) (hD.sub [0, 1] (by decide) rfl) hS (lv_sub hl [1, 2, 3, 0] rfl)
    · have zc_3 := c_3
      rw [← Int32.toInt_inj] at zc_3
      try rw [zz_toInt (sx &&& (2 ^ j)) (by omega)] at zc_3
      try rw [show (0 : Int32).toInt = 0 from by decide] at zc_3
      refine lv_aload_n hx hb dX2_leastInGroup_16 rfl (lv_at hl 0 rfl) ?_
      refine va_get (D := (dC, dI)) (ci := 2) (v := .ref (a 37)) (C := RX2) (T := TX2) (N := 9) hx hb hw zz_inX2 hown hK hP 0 rfl rfl 2 (by decide) (hw _ tw_102) (fun _ h9 => h9) rfl dX2_leastInGroup_17 ?_
      refine lv_iload_n hx hb dX2_leastInGroup_20 rfl (lv_at hl 3 rfl) ?_
      refine va_iald hx hb hK hP 1 0 rfl rfl (vp_in_iff.mpr (by rw [zz_toInt j (by omega)]; constructor <;> omega)) dX2_leastInGroup_21 ?_
      refine zz_seti (e2 j) (congrArg e2 (zz_cl (by omega))) ?_
      refine lv_iload_n hx hb dX2_leastInGroup_22 rfl (lv_at hl 2 rfl) ?_
      refine lv_imul hx hb dX2_leastInGroup_23 ?_
      refine lv_topi (fun pv epv => ?_)
      have zpv : pv.toInt = (e2 j).toInt := by rw [epv]; rw [Int32.mul_one]
      refine lv_if_le (tgt := 29) hx hb dX2_leastInGroup_24 (by decide) (fun c_4 => ?_) (fun c_4 => ?_)
      · have zc_4 := c_4
        rw [Int32.le_iff_toInt_le] at zc_4
        try rw [show (0 : Int32).toInt = 0 from by decide] at zc_4
        refine lv_iinc (v := (nI (j + 1))) (lv' := [(3, .int (nI (j + 1))), (0, .ref (a 34)), (1, .int (nI sx)), (2, .int 1)]) hx hb dX2_leastInGroup_29 hl (k := 3) rfl (nI_1 _) (by decide) rfl (fun ls hl => ?_)
        refine lv_goto (tgt := 2) hx hb dX2_leastInGroup_32 (by decide) ?_
        exact ih_2 (j + 1) ⟨by omega, zz_nox (P := zz_pa e2 sx) ia (fun h9 => by have h8 := h9.2; omega)⟩ (show 8 - (j + 1) < 8 - j from by omega) _ _ _ (hP.sub [0, 1] rfl) (hD.sub [0, 1] (by decide) rfl) hS (lv_sub hl [1, 2, 3, 0] rfl)
      · have zc_4 := c_4
        rw [Int32.le_iff_toInt_le] at zc_4
        try rw [show (0 : Int32).toInt = 0 from by decide] at zc_4
        refine lv_iload_n hx hb dX2_leastInGroup_27 rfl (lv_at hl 3 rfl) ?_
        exact W.iret (v := (nI j)) hx hb hr (fun t ht hW => ⟨⟨(nI j), (), rfl, (Or.inr ⟨j, by omega, rfl, ⟨zz_tb1 (by omega), by omega⟩, ia⟩), trivial⟩, hS.F ht⟩) hS.2.2 dX2_leastInGroup_28
