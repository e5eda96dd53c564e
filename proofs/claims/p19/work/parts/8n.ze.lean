theorem zz_e4q {x y : Int32} (hx : 0 ≤ x.toInt ∧ x.toInt ≤ 255) (hy : 0 ≤ y.toInt ∧ y.toInt ≤ 255) (h : x.toInt + 1 = y.toInt) : x = y - 1 := by
  rw [← Int32.toInt_inj, zz_subI (by rw [show (1 : Int32).toInt = 1 from by decide]; omega) (by rw [show (1 : Int32).toInt = 1 from by decide]; omega), show (1 : Int32).toInt = 1 from by decide]
  omega
theorem zz_e4p {x y : Int32} (hx : 0 ≤ x.toInt ∧ x.toInt ≤ 255) (hy : 0 ≤ y.toInt ∧ y.toInt ≤ 255) (h : x = y - 1) : x.toInt + 1 = y.toInt := by
  have e1 : (1 : Int32).toInt = 1 := by decide
  have q := congrArg Int32.toInt h
  rw [Int32.toInt_sub, e1, Int.bmod_eq_of_le (by omega) (by omega)] at q
  omega
set_option maxHeartbeats 4000000 in
set_option maxRecDepth 100000 in
theorem kx_leastGroup (l : Launch) (dC : Nat → ClassId) (dI : Nat → Nat → Nat) (a : Nat → Nat) (cI : ClassId) (ne : Nat) (e3 : Nat → Int32) (e4 : Nat → Int32) (N : Nat → Int32) (nr : Nat) (sz : Nat) (hr2 : nr < 256) (h1r : 1 ≤ nr) (hz : zz_is N nr 8 = 0) (hRC : zz_RC N (fun s => (e4 s).toInt)) (h3n : ∀ s : Nat, 1 ≤ s → s < 256 → e3 s = Int32.ofInt (zz_is N s 8)) (hisb : ∀ p : Nat, -930000000 ≤ zz_is N p 8 ∧ zz_is N p 8 ≤ 930000000) (he4b : ∀ s : Nat, s < 256 → 0 ≤ (e4 s).toInt ∧ (e4 s).toInt ≤ 255) : Met l yX2_leastGroup (zz_w yX2_leastGroup cX2_leastGroup 5 (some .int)) ({ frames := 0, cells := 0, slots := 0, locals := 0 }) (va_Pc [.ref (a 34), .int (nI nr)] (zz_B (dC, dI) sz [(a 34, .inr (2, [.ref (a 35), .ref (a 36), .ref (a 37), .ref (a 38), .ref (a 39), .ref (a 40), .ref (a 41), .ref (a 42), .int (nI ne)])), (a 38, .inl (cI, 256, .inl e3)), (a 39, .inl (cI, 256, .inl e4))] [(cI, .int)])) (va_Qi (fun (r : Int32) (_ : Unit) => ∃ q : Nat, q < 256 ∧ r = nI q ∧ zz_LQ N (fun s => (e4 s).toInt) nr q) (fun _ _ => True) (va_A [] sz)) 0 0 (va_A [] sz) := by
  refine Met.ofW (cc := cX2_leastGroup) (maxL := 5) (ret := (some .int)) (by decide) rfl ?_
  intro p e s m args below meth c s₁ B hml hv
  obtain ⟨rfl, hsz, hP, hK, hD0, hN⟩ := hv
  have hx := B.exec
  have hb := B.bytes
  have hr := B.returns
  have hts := atoms_spec (ws := zz_w yX2_leastGroup cX2_leastGroup 5 (some .int)) B.pre
  have hw : ∀ w ∈ zz_all, w.before _ s = true := fun w h => hts w (List.mem_cons_of_mem _ h)
  have hown : s.vm.findClass RX2 = some m.cls := findClass_of_methodNamed B.named
  have hlocks := B.notSynchronized
  subst hsz
  have hD := hD0
  generalize hAe : va_A [] s.heap.size = A
  have hA : ∀ q : Nat, s.heap.size ≤ q → A q := fun q h => by rw [← hAe]; exact Or.inr h
  have hS : va_S A s.heap s.heap [] := va_S.rf
  have hP : va_P (dC, dI) vwCl [(a 34, .inr (2, [.ref (a 35), .ref (a 36), .ref (a 37), .ref (a 38), .ref (a 39), .ref (a 40), .ref (a 41), .ref (a 42), .int (nI ne)])), (a 38, .inl (cI, 256, .inl e3)), (a 39, .inl (cI, 256, .inl e4))] s.heap := hP
  have hl := lv_entry ([.ref (a 34), .int (nI nr)]) (n := 5) (Nat.le_of_ble_eq_true rfl)
  rw [lg_entry_eq]
  generalize (lg_sl ([.ref (a 34), .int (nI nr)]) ++ List.replicate (5 - (lg_sl ([.ref (a 34), .int (nI nr)])).length) Slot.unset).toArray = ls at hl ⊢
  have hl : lv_has ls 5 [(0, .ref (a 34)), (1, .int (nI nr))] := hl
  refine lv_iload_n hx hb dX2_leastGroup_0 rfl (lv_at hl 1 rfl) ?_
  refine lv_iload_n hx hb dX2_leastGroup_1 rfl (lv_at hl 1 rfl) ?_
  refine lv_ineg hx hb dX2_leastGroup_2 ?_
  have hls := zz_ls_in nr hr2 h1r
  have hpl := zz_p2le (j := (zz_ls nr)) hls.2
  refine lv_iand hx hb dX2_leastGroup_3 ?_
  refine zz_seti (nI (2 ^ (zz_ls nr))) (zz_lowb nr hr2 h1r) ?_
  refine lv_istore_n (lv' := [(2, .int (nI (2 ^ (zz_ls nr)))), (0, .ref (a 34)), (1, .int (nI nr))]) hx hb dX2_leastGroup_4 rfl hl (by decide) rfl (fun ls hl => ?_)
  refine lv_iload_n hx hb dX2_leastGroup_5 rfl (lv_at hl 0 rfl) ?_
  refine lv_istore_n (lv' := [(3, .int (nI (2 ^ (zz_ls nr)))), (2, .int (nI (2 ^ (zz_ls nr)))), (0, .ref (a 34)), (1, .int (nI nr))]) hx hb dX2_leastGroup_6 rfl hl (by decide) rfl (fun ls hl => ?_)
  refine zz_loopS (fun (j : (Nat)) => [(a 34, .inr (2, [.ref (a 35), .ref (a 36), .ref (a 37), .ref (a 38), .ref (a 39), .ref (a 40), .ref (a 41), .ref (a 42), .int (nI ne)])), (a 38, .inl (cI, 256, .inl e3)), (a 39, .inl (cI, 256, .inl e4))]) (fun (j : (Nat)) => [(0, .ref (a 34)), (1, .int (nI nr)), (2, .int (nI (2 ^ (zz_ls nr)))), (3, .int (nI j))]) (fun (j : (Nat)) => 2 ^ (zz_ls nr) ≤ j ∧ j ≤ 256 ∧ ∀ q : Nat, q < j → ¬ zz_Q2 N (fun s => (e4 s).toInt) nr q) (fun (j : (Nat)) => 256 - j) (fun u hI H locs ls hP hD hS hl ih_7 => ?_) (2 ^ (zz_ls nr)) ⟨by omega, by omega, fun q hq h9 => absurd h9.2.2.1 (by rw [zz_lowp hq]; decide)⟩ _ _ _ (hP.sub [0, 1, 2] rfl) (hD.sub [0, 1, 2] (by decide) rfl) hS (lv_sub hl [2, 3, 1, 0] rfl)
  obtain ⟨j, rfl⟩ : ∃ z, z = u := ⟨_, rfl⟩
  obtain ⟨hP, hD⟩ := zz_ty (D := (dC, dI)) (cl := vwCl) (A := (fun _ => True)) (H := H) [(a 34, .inr (2, [.ref (a 35), .ref (a 36), .ref (a 37), .ref (a 38), .ref (a 39), .ref (a 40), .ref (a 41), .ref (a 42), .int (nI ne)])), (a 38, .inl (cI, 256, .inl e3)), (a 39, .inl (cI, 256, .inl e4))] hP hD rfl
  have hl : lv_has ls 5 [(0, .ref (a 34)), (1, .int (nI nr)), (2, .int (nI (2 ^ (zz_ls nr)))), (3, .int (nI j))] := hl
  have hI : 2 ^ (zz_ls nr) ≤ j ∧ j ≤ 256 ∧ ∀ q : Nat, q < j → ¬ zz_Q2 N (fun s => (e4 s).toInt) nr q := hI
  obtain ⟨ij, ij2, ia⟩ := hI
  refine lv_iload_n hx hb dX2_leastGroup_7 rfl (lv_at hl 3 rfl) ?_
  refine lv_iload_n hx hb dX2_leastGroup_8 rfl (lv_at hl 1 rfl) ?_
  refine lv_icmp_ge (tgt := 81) hx hb dX2_leastGroup_9 (by decide) (fun c_1 => ?_) (fun c_1 => ?_)
  · have zc_1 := c_1
    rw [Int32.le_iff_toInt_le] at zc_1
    try rw [zz_toInt j (by omega)] at zc_1
    try rw [zz_toInt nr (by omega)] at zc_1
    refine lv_iload_n hx hb dX2_leastGroup_81 rfl (lv_at hl 1 rfl) ?_
    exact W.iret (v := (nI nr)) hx hb hr (fun t ht hW => ⟨⟨(nI nr), (), rfl, ⟨nr, by omega, rfl, zz_LQ_end hRC hr2 h1r hz (by omega) ia⟩, trivial⟩, hS.F ht⟩) hS.2.2 dX2_leastGroup_82
  · have zc_1 := c_1
    rw [Int32.le_iff_toInt_le] at zc_1
    try rw [zz_toInt j (by omega)] at zc_1
    try rw [zz_toInt nr (by omega)] at zc_1
    refine lv_iload_n hx hb dX2_leastGroup_12 rfl (lv_at hl 3 rfl) ?_
    refine lv_sipush (v := 256) hx hb dX2_leastGroup_13 (by decide) ?_
    refine lv_icmp_ge (tgt := 81) hx hb dX2_leastGroup_16 (by decide) (fun c_2 => ?_) (fun c_2 => ?_)
    · have zc_2 := c_2
      rw [Int32.le_iff_toInt_le] at zc_2
      try rw [zz_toInt j (by omega)] at zc_2
      try rw [show (256 : Int32).toInt = 256 from by decide] at zc_2
      refine lv_iload_n hx hb dX2_leastGroup_81 rfl (lv_at hl 1 rfl) ?_
      exact W.iret (v := (nI nr)) hx hb hr (fun t ht hW => ⟨⟨(nI nr), (), rfl, ⟨nr, by omega, rfl, zz_LQ_end hRC hr2 h1r hz (by omega) ia⟩, trivial⟩, hS.F ht⟩) hS.2.2 dX2_leastGroup_82
    · have zc_2 := c_2
      rw [Int32.le_iff_toInt_le] at zc_2
      try rw [zz_toInt j (by omega)] at zc_2
      try rw [show (256 : Int32).toInt = 256 from by decide] at zc_2
      refine lv_iload_n hx hb dX2_leastGroup_19 rfl (lv_at hl 3 rfl) ?_
      refine lv_iload_n hx hb dX2_leastGroup_20 rfl (lv_at hl 1 rfl) ?_
      refine lv_iconst (v := (-1)) hx hb dX2_leastGroup_21 (by decide) ?_
      refine lv_ixor hx hb dX2_leastGroup_22 ?_
      refine lv_iand hx hb dX2_leastGroup_23 ?_
      refine lv_topi (fun gm egm => ?_)
      refine lv_if_ne (tgt := 46) hx hb dX2_leastGroup_24 (by decide) (fun c_3 => ?_) (fun c_3 => ?_)
      · have zc_3 := c_3
        rw [← Int32.toInt_inj] at zc_3
        try rw [show (0 : Int32).toInt = 0 from by decide] at zc_3
        refine lv_iconst (v := 0) hx hb dX2_leastGroup_46 (by decide) ?_
        refine lv_istore (lv' := [(4, .int 0), (0, .ref (a 34)), (1, .int (nI nr)), (2, .int (nI (2 ^ (zz_ls nr)))), (3, .int (nI j))]) hx hb dX2_leastGroup_47 hl (by decide) rfl (fun ls hl => ?_)
        refine lv_iload hx hb dX2_leastGroup_49 (lv_at hl 0 rfl) ?_
        refine lv_if_eq (tgt := 75) hx hb dX2_leastGroup_51 (by decide) (fun _ => ?_) (fun c_9 => absurd c_9 (by decide))
        refine lv_iinc (v := (nI (j + 1))) (lv' := [(3, .int (nI (j + 1))), (4, .int 0), (0, .ref (a 34)), (1, .int (nI nr)), (2, .int (nI (2 ^ (zz_ls nr))))]) hx hb dX2_leastGroup_75 hl (k := 4) rfl (nI_1 _) (by decide) rfl (fun ls hl => ?_)
        refine lv_goto (tgt := 7) hx hb dX2_leastGroup_78 (by decide) ?_
        exact ih_7 (j + 1) ⟨by omega, by omega, zz_nox (P := zz_Q2 N (fun s => (e4 s).toInt) nr) ia (fun h9 => c_3 (egm.trans ((zz_notin (by omega) hr2).mpr h9.2.1)))⟩ (show 256 - (j + 1) < 256 - j from by omega) _ _ _ (hP.sub [0, 1, 2] rfl) (hD.sub [0, 1, 2] (by decide) rfl) hS (lv_sub hl [2, 3, 4, 0] rfl)
      · have zc_3 := c_3
        rw [← Int32.toInt_inj] at zc_3
        try rw [show (0 : Int32).toInt = 0 from by decide] at zc_3
        have hin : j &&& nr = j := (zz_notin (by omega) hr2).mp (egm.symm.trans c_3)
        refine lv_iload_n hx hb dX2_leastGroup_27 rfl (lv_at hl 3 rfl) ?_
        refine lv_iload_n hx hb dX2_leastGroup_28 rfl (lv_at hl 2 rfl) ?_
        refine lv_iand hx hb dX2_leastGroup_29 ?_
        refine zz_seti (nI (j &&& (2 ^ (zz_ls nr)))) (zz_andN (by omega) (by omega)) ?_
        have hand_4 := Nat.and_le_left (n := j) (m := (2 ^ (zz_ls nr)))
        refine lv_if_eq (tgt := 46) hx hb dX2_leastGroup_30 (by decide) (fun c_5 => ?_) (fun c_5 => ?_)
        · have zc_5 := c_5
          rw [← Int32.toInt_inj] at zc_5
          try rw [zz_toInt (j &&& (2 ^ (zz_ls nr))) (by omega)] at zc_5
          try rw [show (0 : Int32).toInt = 0 from by decide] at zc_5
          refine lv_iconst (v := 0) hx hb dX2_leastGroup_46 (by decide) ?_
          refine lv_istore (lv' := [(4, .int 0), (0, .ref (a 34)), (1, .int (nI nr)), (2, .int (nI (2 ^ (zz_ls nr)))), (3, .int (nI j))]) hx hb dX2_leastGroup_47 hl (by decide) rfl (fun ls hl => ?_)
          refine lv_iload hx hb dX2_leastGroup_49 (lv_at hl 0 rfl) ?_
          refine lv_if_eq (tgt := 75) hx hb dX2_leastGroup_51 (by decide) (fun _ => ?_) (fun c_9 => absurd c_9 (by decide))
          refine lv_iinc (v := (nI (j + 1))) (lv' := [(3, .int (nI (j + 1))), (4, .int 0), (0, .ref (a 34)), (1, .int (nI nr)), (2, .int (nI (2 ^ (zz_ls nr))))]) hx hb dX2_leastGroup_75 hl (k := 4) rfl (nI_1 _) (by decide) rfl (fun ls hl => ?_)
          refine lv_goto (tgt := 7) hx hb dX2_leastGroup_78 (by decide) ?_
          exact ih_7 (j + 1) ⟨by omega, by omega, zz_nox (P := zz_Q2 N (fun s => (e4 s).toInt) nr) ia (fun h9 => by have h8 := h9.2.2.1; rw [zz_tb0 (by omega)] at h8; cases h8)⟩ (show 256 - (j + 1) < 256 - j from by omega) _ _ _ (hP.sub [0, 1, 2] rfl) (hD.sub [0, 1, 2] (by decide) rfl) hS (lv_sub hl [2, 3, 4, 0] rfl)
        · have zc_5 := c_5
          rw [← Int32.toInt_inj] at zc_5
          try rw [zz_toInt (j &&& (2 ^ (zz_ls nr))) (by omega)] at zc_5
          try rw [show (0 : Int32).toInt = 0 from by decide] at zc_5
          refine lv_aload_n hx hb dX2_leastGroup_33 rfl (lv_at hl 0 rfl) ?_
          refine va_get (D := (dC, dI)) (ci := 2) (v := .ref (a 38)) (C := RX2) (T := TX2) (N := 9) hx hb hw zz_inX2 hown hK hP 0 rfl rfl 3 (by decide) (hw _ tw_103) (fun _ h9 => h9) rfl dX2_leastGroup_34 ?_
          refine lv_iload_n hx hb dX2_leastGroup_37 rfl (lv_at hl 3 rfl) ?_
          refine va_iald hx hb hK hP 1 0 rfl rfl (vp_in_iff.mpr (by rw [zz_toInt j (by omega)]; constructor <;> omega)) dX2_leastGroup_38 ?_
          refine zz_seti (e3 j) (congrArg e3 (zz_cl (by omega))) ?_
          refine lv_if_ne (tgt := 46) hx hb dX2_leastGroup_39 (by decide) (fun c_6 => ?_) (fun c_6 => ?_)
          · have zc_6 := c_6
            rw [← Int32.toInt_inj] at zc_6
            try rw [show (0 : Int32).toInt = 0 from by decide] at zc_6
            refine lv_iconst (v := 0) hx hb dX2_leastGroup_46 (by decide) ?_
            refine lv_istore (lv' := [(4, .int 0), (0, .ref (a 34)), (1, .int (nI nr)), (2, .int (nI (2 ^ (zz_ls nr)))), (3, .int (nI j))]) hx hb dX2_leastGroup_47 hl (by decide) rfl (fun ls hl => ?_)
            refine lv_iload hx hb dX2_leastGroup_49 (lv_at hl 0 rfl) ?_
            refine lv_if_eq (tgt := 75) hx hb dX2_leastGroup_51 (by decide) (fun _ => ?_) (fun c_9 => absurd c_9 (by decide))
            refine lv_iinc (v := (nI (j + 1))) (lv' := [(3, .int (nI (j + 1))), (4, .int 0), (0, .ref (a 34)), (1, .int (nI nr)), (2, .int (nI (2 ^ (zz_ls nr))))]) hx hb dX2_leastGroup_75 hl (k := 4) rfl (nI_1 _) (by decide) rfl (fun ls hl => ?_)
            refine lv_goto (tgt := 7) hx hb dX2_leastGroup_78 (by decide) ?_
            exact ih_7 (j + 1) ⟨by omega, by omega, zz_nox (P := zz_Q2 N (fun s => (e4 s).toInt) nr) ia (fun h9 => c_6 (by rw [h3n j (by omega) (by omega), h9.2.2.2.1]; decide))⟩ (show 256 - (j + 1) < 256 - j from by omega) _ _ _ (hP.sub [0, 1, 2] rfl) (hD.sub [0, 1, 2] (by decide) rfl) hS (lv_sub hl [2, 3, 4, 0] rfl)
          · have zc_6 := c_6
            rw [← Int32.toInt_inj] at zc_6
            try rw [show (0 : Int32).toInt = 0 from by decide] at zc_6
            refine lv_iconst (v := 1) hx hb dX2_leastGroup_42 (by decide) ?_
            refine lv_goto (tgt := 47) hx hb dX2_leastGroup_43 (by decide) ?_
            refine lv_istore (lv' := [(4, .int 1), (0, .ref (a 34)), (1, .int (nI nr)), (2, .int (nI (2 ^ (zz_ls nr)))), (3, .int (nI j))]) hx hb dX2_leastGroup_47 hl (by decide) rfl (fun ls hl => ?_)
            refine lv_iload hx hb dX2_leastGroup_49 (lv_at hl 0 rfl) ?_
            refine lv_if_eq (tgt := 75) hx hb dX2_leastGroup_51 (by decide) (fun c_9 => absurd c_9 (by decide)) (fun _ => ?_)
            refine lv_aload_n hx hb dX2_leastGroup_54 rfl (lv_at hl 1 rfl) ?_
            refine va_get (D := (dC, dI)) (ci := 2) (v := .ref (a 39)) (C := RX2) (T := TX2) (N := 9) hx hb hw zz_inX2 hown hK hP 0 rfl rfl 4 (by decide) (hw _ tw_104) (fun _ h9 => h9) rfl dX2_leastGroup_55 ?_
            refine lv_iload_n hx hb dX2_leastGroup_58 rfl (lv_at hl 2 rfl) ?_
            refine lv_iload_n hx hb dX2_leastGroup_59 rfl (lv_at hl 4 rfl) ?_
            refine lv_ixor hx hb dX2_leastGroup_60 ?_
            refine zz_seti (nI (nr - j)) (zz_xorp hr2 hin) ?_
            refine va_iald hx hb hK hP 2 0 rfl rfl (vp_in_iff.mpr (by rw [zz_toInt (nr - j) (by omega)]; constructor <;> omega)) dX2_leastGroup_61 ?_
            refine zz_seti (e4 (nr - j)) (congrArg e4 (zz_cl (by omega))) ?_
            refine lv_aload_n hx hb dX2_leastGroup_62 rfl (lv_at hl 1 rfl) ?_
            refine va_get (D := (dC, dI)) (ci := 2) (v := .ref (a 39)) (C := RX2) (T := TX2) (N := 9) hx hb hw zz_inX2 hown hK hP 0 rfl rfl 4 (by decide) (hw _ tw_104) (fun _ h9 => h9) rfl dX2_leastGroup_63 ?_
            refine lv_iload_n hx hb dX2_leastGroup_66 rfl (lv_at hl 2 rfl) ?_
            refine va_iald hx hb hK hP 2 0 rfl rfl (vp_in_iff.mpr (by rw [zz_toInt nr (by omega)]; constructor <;> omega)) dX2_leastGroup_67 ?_
            refine zz_seti (e4 nr) (congrArg e4 (zz_cl (by omega))) ?_
            refine lv_iconst (v := 1) hx hb dX2_leastGroup_68 (by decide) ?_
            refine lv_isub hx hb dX2_leastGroup_69 ?_
            refine lv_icmp_ne (tgt := 75) hx hb dX2_leastGroup_70 (by decide) (fun c_7 => ?_) (fun c_7 => ?_)
            · have zc_7 := c_7
              rw [← Int32.toInt_inj] at zc_7
              refine lv_iinc (v := (nI (j + 1))) (lv' := [(3, .int (nI (j + 1))), (4, .int 1), (0, .ref (a 34)), (1, .int (nI nr)), (2, .int (nI (2 ^ (zz_ls nr))))]) hx hb dX2_leastGroup_75 hl (k := 4) rfl (nI_1 _) (by decide) rfl (fun ls hl => ?_)
              refine lv_goto (tgt := 7) hx hb dX2_leastGroup_78 (by decide) ?_
              exact ih_7 (j + 1) ⟨by omega, by omega, zz_nox (P := zz_Q2 N (fun s => (e4 s).toInt) nr) ia (fun h9 => c_7 (zz_e4q (he4b _ (by omega)) (he4b _ hr2) h9.2.2.2.2))⟩ (show 256 - (j + 1) < 256 - j from by omega) _ _ _ (hP.sub [0, 1, 2] rfl) (hD.sub [0, 1, 2] (by decide) rfl) hS (lv_sub hl [2, 3, 4, 0] rfl)
            · have zc_7 := c_7
              rw [← Int32.toInt_inj] at zc_7
              refine lv_iload_n hx hb dX2_leastGroup_73 rfl (lv_at hl 4 rfl) ?_
              exact W.iret (v := (nI j)) hx hb hr (fun t ht hW => ⟨⟨(nI j), (), rfl, ⟨j, by omega, rfl, ⟨by omega, hin, zz_tb1 (by omega), zz_oi_z (by have := hisb j; omega) (by have := hisb j; omega) ((h3n j (by omega) (by omega)).symm.trans c_6), zz_e4p (he4b _ (by omega)) (he4b _ hr2) c_7⟩, ia⟩, trivial⟩, hS.F ht⟩) hS.2.2 dX2_leastGroup_74
