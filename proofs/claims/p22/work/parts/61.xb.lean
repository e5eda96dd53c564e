set_option maxHeartbeats 4000000 in
set_option maxRecDepth 100000 in
theorem kx_at (l : Launch) (dC : Nat → ClassId) (dI : Nat → Nat → Nat) (a : Nat → Nat) (cI : ClassId) (nt : Nat) (fb : Nat → Int32) (p0 : Int32) (sz : Nat) (hnt : nt ≤ 200) : Met l yX6_at (zz_w yX6_at cX6_at 2 (some .int)) ({ frames := 0, cells := 0, slots := 0, locals := 0 }) (va_Pc [.ref (a 24), .int p0] (zz_B (dC, dI) sz [(a 24, .inr (6, [.ref (a 25), .int (nI nt)])), (a 25, .inl (cI, 200, .inl fb))] [(cI, .int)])) (va_Qi (fun (r : Int32) (_ : Unit) => r = zz_ca fb nt p0) (fun _ _ => True) (va_A [] sz)) 0 0 (va_A [] sz) := by
  refine Met.ofW (cc := cX6_at) (maxL := 2) (ret := (some .int)) (by decide) rfl ?_
  intro p e s m args below meth c s₁ B hml hv
  obtain ⟨rfl, hsz, hP, hK, hD0, hN⟩ := hv
  have hx := B.exec
  have hb := B.bytes
  have hr := B.returns
  have hts := atoms_spec (ws := zz_w yX6_at cX6_at 2 (some .int)) B.pre
  have hw : ∀ w ∈ zz_all, w.before _ s = true := fun w h => hts w (List.mem_cons_of_mem _ h)
  have hown : s.vm.findClass RX6 = some m.cls := findClass_of_methodNamed B.named
  have hlocks := B.notSynchronized
  subst hsz
  have hD := hD0
  generalize hAe : va_A [] s.heap.size = A
  have hA : ∀ q : Nat, s.heap.size ≤ q → A q := fun q h => by rw [← hAe]; exact Or.inr h
  have hS : va_S A s.heap s.heap [] := va_S.rf
  have hP : va_P (dC, dI) vwCl [(a 24, .inr (6, [.ref (a 25), .int (nI nt)])), (a 25, .inl (cI, 200, .inl fb))] s.heap := hP
  have hl := lv_entry ([.ref (a 24), .int p0]) (n := 2) (Nat.le_of_ble_eq_true rfl)
  rw [lg_entry_eq]
  generalize (lg_sl ([.ref (a 24), .int p0]) ++ List.replicate (2 - (lg_sl ([.ref (a 24), .int p0])).length) Slot.unset).toArray = ls at hl ⊢
  have hl : lv_has ls 2 [(0, .ref (a 24)), (1, .int p0)] := hl
  refine lv_iload_n hx hb dX6_at_0 rfl (lv_at hl 1 rfl) ?_
  refine lv_if_lt (tgt := 28) hx hb dX6_at_1 (by decide) (fun c_1 => ?_) (fun c_1 => ?_)
  · have zc_1 := c_1
    rw [Int32.lt_iff_toInt_lt] at zc_1
    try rw [show (0 : Int32).toInt = 0 from by decide] at zc_1
    refine lv_bipush (v := 32) hx hb dX6_at_28 (by decide) ?_
    exact W.iret (v := 32) hx hb hr (fun t ht hW => ⟨⟨32, (), rfl, (by unfold zz_ca; first | exact (if_pos (by omega)).symm | exact (if_neg (by omega)).symm), trivial⟩, hS.F ht⟩) hS.2.2 dX6_at_30
  · have zc_1 := c_1
    rw [Int32.lt_iff_toInt_lt] at zc_1
    try rw [show (0 : Int32).toInt = 0 from by decide] at zc_1
    refine lv_iload_n hx hb dX6_at_4 rfl (lv_at hl 1 rfl) ?_
    refine lv_aload_n hx hb dX6_at_5 rfl (lv_at hl 0 rfl) ?_
    refine va_get (D := (dC, dI)) (ci := 6) (v := .int (nI nt)) (C := RX6) (T := TX6) (N := 2) hx hb hw zz_inX6 hown hK hP 0 rfl rfl 1 (by decide) (hw _ tw_95) (fun _ h9 => h9) rfl dX6_at_6 ?_
    refine lv_icmp_ge (tgt := 28) hx hb dX6_at_9 (by decide) (fun c_2 => ?_) (fun c_2 => ?_)
    · have zc_2 := c_2
      rw [Int32.le_iff_toInt_le] at zc_2
      try rw [zz_toInt nt (by omega)] at zc_2
      refine lv_bipush (v := 32) hx hb dX6_at_28 (by decide) ?_
      exact W.iret (v := 32) hx hb hr (fun t ht hW => ⟨⟨32, (), rfl, (by unfold zz_ca; first | exact (if_pos (by omega)).symm | exact (if_neg (by omega)).symm), trivial⟩, hS.F ht⟩) hS.2.2 dX6_at_30
    · have zc_2 := c_2
      rw [Int32.le_iff_toInt_le] at zc_2
      try rw [zz_toInt nt (by omega)] at zc_2
      refine lv_iload_n hx hb dX6_at_12 rfl (lv_at hl 1 rfl) ?_
      refine lv_sipush (v := 200) hx hb dX6_at_13 (by decide) ?_
      refine lv_icmp_ge (tgt := 28) hx hb dX6_at_16 (by decide) (fun c_3 => ?_) (fun c_3 => ?_)
      · have zc_3 := c_3
        rw [Int32.le_iff_toInt_le] at zc_3
        try rw [show (200 : Int32).toInt = 200 from by decide] at zc_3
        refine lv_bipush (v := 32) hx hb dX6_at_28 (by decide) ?_
        exact W.iret (v := 32) hx hb hr (fun t ht hW => ⟨⟨32, (), rfl, (by unfold zz_ca; first | exact (if_pos (by omega)).symm | exact (if_neg (by omega)).symm), trivial⟩, hS.F ht⟩) hS.2.2 dX6_at_30
      · have zc_3 := c_3
        rw [Int32.le_iff_toInt_le] at zc_3
        try rw [show (200 : Int32).toInt = 200 from by decide] at zc_3
        refine lv_aload_n hx hb dX6_at_19 rfl (lv_at hl 0 rfl) ?_
        refine va_get (D := (dC, dI)) (ci := 6) (v := .ref (a 25)) (C := RX6) (T := TX6) (N := 2) hx hb hw zz_inX6 hown hK hP 0 rfl rfl 0 (by decide) (hw _ tw_96) (fun _ h9 => h9) rfl dX6_at_20 ?_
        refine lv_iload_n hx hb dX6_at_23 rfl (lv_at hl 1 rfl) ?_
        refine va_iald hx hb hK hP 1 0 rfl rfl (vp_in_iff.mpr (by constructor <;> omega)) dX6_at_24 ?_
        refine lv_goto (tgt := 30) hx hb dX6_at_25 (by decide) ?_
        exact W.iret (v := (fb (Int32.toNatClampNeg p0))) hx hb hr (fun t ht hW => ⟨⟨(fb (Int32.toNatClampNeg p0)), (), rfl, (by unfold zz_ca; first | exact (if_pos (by omega)).symm | exact (if_neg (by omega)).symm), trivial⟩, hS.F ht⟩) hS.2.2 dX6_at_30
set_option maxHeartbeats 4000000 in
set_option maxRecDepth 100000 in
theorem kx_sortOf (l : Launch) (dC : Nat → ClassId) (dI : Nat → Nat → Nat) (p0 : Int32) (sz : Nat) : Met l yX0_sortOf (zz_w yX0_sortOf cX0_sortOf 1 (some .int)) ({ frames := 0, cells := 0, slots := 0, locals := 0 }) (va_Pc [.int p0] (zz_B (dC, dI) sz [] [])) (va_Qi (fun (r : Int32) (_ : Unit) => r = zz_so p0) (fun _ _ => True) (va_A [] sz)) 0 0 (va_A [] sz) := by
  refine Met.ofW (cc := cX0_sortOf) (maxL := 1) (ret := (some .int)) (by decide) rfl ?_
  intro p e s m args below meth c s₁ B hml hv
  obtain ⟨rfl, hsz, hP, hK, hD0, hN⟩ := hv
  have hx := B.exec
  have hb := B.bytes
  have hr := B.returns
  have hts := atoms_spec (ws := zz_w yX0_sortOf cX0_sortOf 1 (some .int)) B.pre
  have hw : ∀ w ∈ zz_all, w.before _ s = true := fun w h => hts w (List.mem_cons_of_mem _ h)
  have hown : s.vm.findClass RX0 = some m.cls := findClass_of_methodNamed B.named
  have hlocks := B.notSynchronized
  subst hsz
  have hD := hD0
  generalize hAe : va_A [] s.heap.size = A
  have hA : ∀ q : Nat, s.heap.size ≤ q → A q := fun q h => by rw [← hAe]; exact Or.inr h
  have hS : va_S A s.heap s.heap [] := va_S.rf
  have hP : va_P (dC, dI) vwCl [] s.heap := hP
  have hl := lv_entry ([.int p0]) (n := 1) (Nat.le_of_ble_eq_true rfl)
  rw [lg_entry_eq]
  generalize (lg_sl ([.int p0]) ++ List.replicate (1 - (lg_sl ([.int p0])).length) Slot.unset).toArray = ls at hl ⊢
  have hl : lv_has ls 1 [(0, .int p0)] := hl
  refine lv_iload_n hx hb dX0_sortOf_0 rfl (lv_at hl 0 rfl) ?_
  refine lv_bipush (v := 32) hx hb dX0_sortOf_1 (by decide) ?_
  refine lv_icmp_ne (tgt := 8) hx hb dX0_sortOf_3 (by decide) (fun c_1 => ?_) (fun c_1 => ?_)
  · have zc_1 := c_1
    rw [← Int32.toInt_inj] at zc_1
    try rw [show (32 : Int32).toInt = 32 from by decide] at zc_1
    refine lv_iload_n hx hb dX0_sortOf_8 rfl (lv_at hl 0 rfl) ?_
    refine lv_bipush (v := 97) hx hb dX0_sortOf_9 (by decide) ?_
    refine lv_icmp_lt (tgt := 20) hx hb dX0_sortOf_11 (by decide) (fun c_2 => ?_) (fun c_2 => ?_)
    · have zc_2 := c_2
      rw [Int32.lt_iff_toInt_lt] at zc_2
      try rw [show (97 : Int32).toInt = 97 from by decide] at zc_2
      refine lv_iload_n hx hb dX0_sortOf_20 rfl (lv_at hl 0 rfl) ?_
      refine lv_bipush (v := 65) hx hb dX0_sortOf_21 (by decide) ?_
      refine lv_icmp_lt (tgt := 34) hx hb dX0_sortOf_23 (by decide) (fun c_3 => ?_) (fun c_3 => ?_)
      · have zc_3 := c_3
        rw [Int32.lt_iff_toInt_lt] at zc_3
        try rw [show (65 : Int32).toInt = 65 from by decide] at zc_3
        refine lv_iload_n hx hb dX0_sortOf_34 rfl (lv_at hl 0 rfl) ?_
        refine lv_bipush (v := 48) hx hb dX0_sortOf_35 (by decide) ?_
        refine lv_icmp_lt (tgt := 48) hx hb dX0_sortOf_37 (by decide) (fun c_4 => ?_) (fun c_4 => ?_)
        · have zc_4 := c_4
          rw [Int32.lt_iff_toInt_lt] at zc_4
          try rw [show (48 : Int32).toInt = 48 from by decide] at zc_4
          refine lv_iload_n hx hb dX0_sortOf_48 rfl (lv_at hl 0 rfl) ?_
          refine lv_bipush (v := 59) hx hb dX0_sortOf_49 (by decide) ?_
          refine lv_icmp_ne (tgt := 58) hx hb dX0_sortOf_51 (by decide) (fun c_5 => ?_) (fun c_5 => ?_)
          · have zc_5 := c_5
            rw [← Int32.toInt_inj] at zc_5
            try rw [show (59 : Int32).toInt = 59 from by decide] at zc_5
            refine lv_iconst (v := 4) hx hb dX0_sortOf_58 (by decide) ?_
            exact W.iret (v := 4) hx hb hr (fun t ht hW => ⟨⟨4, (), rfl, (zz_so4 (by omega) (by omega) (by omega) (by omega)), trivial⟩, hS.F ht⟩) hS.2.2 dX0_sortOf_59
          · have zc_5 := c_5
            rw [← Int32.toInt_inj] at zc_5
            try rw [show (59 : Int32).toInt = 59 from by decide] at zc_5
            refine lv_iconst (v := 3) hx hb dX0_sortOf_54 (by decide) ?_
            refine lv_goto (tgt := 59) hx hb dX0_sortOf_55 (by decide) ?_
            exact W.iret (v := 3) hx hb hr (fun t ht hW => ⟨⟨3, (), rfl, (zz_so3.mpr (by omega)).symm, trivial⟩, hS.F ht⟩) hS.2.2 dX0_sortOf_59
        · have zc_4 := c_4
          rw [Int32.lt_iff_toInt_lt] at zc_4
          try rw [show (48 : Int32).toInt = 48 from by decide] at zc_4
          refine lv_iload_n hx hb dX0_sortOf_40 rfl (lv_at hl 0 rfl) ?_
          refine lv_bipush (v := 57) hx hb dX0_sortOf_41 (by decide) ?_
          refine lv_icmp_gt (tgt := 48) hx hb dX0_sortOf_43 (by decide) (fun c_6 => ?_) (fun c_6 => ?_)
          · have zc_6 := c_6
            rw [Int32.lt_iff_toInt_lt] at zc_6
            try rw [show (57 : Int32).toInt = 57 from by decide] at zc_6
            refine lv_iload_n hx hb dX0_sortOf_48 rfl (lv_at hl 0 rfl) ?_
            refine lv_bipush (v := 59) hx hb dX0_sortOf_49 (by decide) ?_
            refine lv_icmp_ne (tgt := 58) hx hb dX0_sortOf_51 (by decide) (fun c_7 => ?_) (fun c_7 => ?_)
            · have zc_7 := c_7
              rw [← Int32.toInt_inj] at zc_7
              try rw [show (59 : Int32).toInt = 59 from by decide] at zc_7
              refine lv_iconst (v := 4) hx hb dX0_sortOf_58 (by decide) ?_
              exact W.iret (v := 4) hx hb hr (fun t ht hW => ⟨⟨4, (), rfl, (zz_so4 (by omega) (by omega) (by omega) (by omega)), trivial⟩, hS.F ht⟩) hS.2.2 dX0_sortOf_59
            · have zc_7 := c_7
              rw [← Int32.toInt_inj] at zc_7
              try rw [show (59 : Int32).toInt = 59 from by decide] at zc_7
              refine lv_iconst (v := 3) hx hb dX0_sortOf_54 (by decide) ?_
              refine lv_goto (tgt := 59) hx hb dX0_sortOf_55 (by decide) ?_
              exact W.iret (v := 3) hx hb hr (fun t ht hW => ⟨⟨3, (), rfl, (zz_so3.mpr (by omega)).symm, trivial⟩, hS.F ht⟩) hS.2.2 dX0_sortOf_59
          · have zc_6 := c_6
            rw [Int32.lt_iff_toInt_lt] at zc_6
            try rw [show (57 : Int32).toInt = 57 from by decide] at zc_6
            refine lv_iconst (v := 2) hx hb dX0_sortOf_46 (by decide) ?_
            exact W.iret (v := 2) hx hb hr (fun t ht hW => ⟨⟨2, (), rfl, (zz_so2.mpr (by omega)).symm, trivial⟩, hS.F ht⟩) hS.2.2 dX0_sortOf_47
      · have zc_3 := c_3
        rw [Int32.lt_iff_toInt_lt] at zc_3
        try rw [show (65 : Int32).toInt = 65 from by decide] at zc_3
        refine lv_iload_n hx hb dX0_sortOf_26 rfl (lv_at hl 0 rfl) ?_
        refine lv_bipush (v := 90) hx hb dX0_sortOf_27 (by decide) ?_
        refine lv_icmp_gt (tgt := 34) hx hb dX0_sortOf_29 (by decide) (fun c_8 => ?_) (fun c_8 => ?_)
        · have zc_8 := c_8
          rw [Int32.lt_iff_toInt_lt] at zc_8
          try rw [show (90 : Int32).toInt = 90 from by decide] at zc_8
          refine lv_iload_n hx hb dX0_sortOf_34 rfl (lv_at hl 0 rfl) ?_
          refine lv_bipush (v := 48) hx hb dX0_sortOf_35 (by decide) ?_
          refine lv_icmp_lt (tgt := 48) hx hb dX0_sortOf_37 (by decide) (fun c_9 => ?_) (fun c_9 => ?_)
          · have zc_9 := c_9
            rw [Int32.lt_iff_toInt_lt] at zc_9
            try rw [show (48 : Int32).toInt = 48 from by decide] at zc_9
            refine lv_iload_n hx hb dX0_sortOf_48 rfl (lv_at hl 0 rfl) ?_
            refine lv_bipush (v := 59) hx hb dX0_sortOf_49 (by decide) ?_
            refine lv_icmp_ne (tgt := 58) hx hb dX0_sortOf_51 (by decide) (fun c_10 => ?_) (fun c_10 => ?_)
            · have zc_10 := c_10
              rw [← Int32.toInt_inj] at zc_10
              try rw [show (59 : Int32).toInt = 59 from by decide] at zc_10
              refine lv_iconst (v := 4) hx hb dX0_sortOf_58 (by decide) ?_
              exact W.iret (v := 4) hx hb hr (fun t ht hW => ⟨⟨4, (), rfl, (zz_so4 (by omega) (by omega) (by omega) (by omega)), trivial⟩, hS.F ht⟩) hS.2.2 dX0_sortOf_59
            · have zc_10 := c_10
              rw [← Int32.toInt_inj] at zc_10
              try rw [show (59 : Int32).toInt = 59 from by decide] at zc_10
              refine lv_iconst (v := 3) hx hb dX0_sortOf_54 (by decide) ?_
              refine lv_goto (tgt := 59) hx hb dX0_sortOf_55 (by decide) ?_
              exact W.iret (v := 3) hx hb hr (fun t ht hW => ⟨⟨3, (), rfl, (zz_so3.mpr (by omega)).symm, trivial⟩, hS.F ht⟩) hS.2.2 dX0_sortOf_59
          · have zc_9 := c_9
            rw [Int32.lt_iff_toInt_lt] at zc_9
            try rw [show (48 : Int32).toInt = 48 from by decide] at zc_9
            refine lv_iload_n hx hb dX0_sortOf_40 rfl (lv_at hl 0 rfl) ?_
            refine lv_bipush (v := 57) hx hb dX0_sortOf_41 (by decide) ?_
            refine lv_icmp_gt (tgt := 48) hx hb dX0_sortOf_43 (by decide) (fun c_11 => ?_) (fun c_11 => ?_)
            · have zc_11 := c_11
              rw [Int32.lt_iff_toInt_lt] at zc_11
              try rw [show (57 : Int32).toInt = 57 from by decide] at zc_11
              refine lv_iload_n hx hb dX0_sortOf_48 rfl (lv_at hl 0 rfl) ?_
              refine lv_bipush (v := 59) hx hb dX0_sortOf_49 (by decide) ?_
              refine lv_icmp_ne (tgt := 58) hx hb dX0_sortOf_51 (by decide) (fun c_12 => ?_) (fun c_12 => ?_)
              · have zc_12 := c_12
                rw [← Int32.toInt_inj] at zc_12
                try rw [show (59 : Int32).toInt = 59 from by decide] at zc_12
                refine lv_iconst (v := 4) hx hb dX0_sortOf_58 (by decide) ?_
                exact W.iret (v := 4) hx hb hr (fun t ht hW => ⟨⟨4, (), rfl, (zz_so4 (by omega) (by omega) (by omega) (by omega)), trivial⟩, hS.F ht⟩) hS.2.2 dX0_sortOf_59
              · have zc_12 := c_12
                rw [← Int32.toInt_inj] at zc_12
                try rw [show (59 : Int32).toInt = 59 from by decide] at zc_12
                refine lv_iconst (v := 3) hx hb dX0_sortOf_54 (by decide) ?_
                refine lv_goto (tgt := 59) hx hb dX0_sortOf_55 (by decide) ?_
                exact W.iret (v := 3) hx hb hr (fun t ht hW => ⟨⟨3, (), rfl, (zz_so3.mpr (by omega)).symm, trivial⟩, hS.F ht⟩) hS.2.2 dX0_sortOf_59
            · have zc_11 := c_11
              rw [Int32.lt_iff_toInt_lt] at zc_11
              try rw [show (57 : Int32).toInt = 57 from by decide] at zc_11
              refine lv_iconst (v := 2) hx hb dX0_sortOf_46 (by decide) ?_
              exact W.iret (v := 2) hx hb hr (fun t ht hW => ⟨⟨2, (), rfl, (zz_so2.mpr (by omega)).symm, trivial⟩, hS.F ht⟩) hS.2.2 dX0_sortOf_47
        · have zc_8 := c_8
          rw [Int32.lt_iff_toInt_lt] at zc_8
          try rw [show (90 : Int32).toInt = 90 from by decide] at zc_8
          refine lv_iconst (v := 1) hx hb dX0_sortOf_32 (by decide) ?_
          exact W.iret (v := 1) hx hb hr (fun t ht hW => ⟨⟨1, (), rfl, (zz_so1.mpr (by omega)).symm, trivial⟩, hS.F ht⟩) hS.2.2 dX0_sortOf_33
    · have zc_2 := c_2
      rw [Int32.lt_iff_toInt_lt] at zc_2
      try rw [show (97 : Int32).toInt = 97 from by decide] at zc_2
      refine lv_iload_n hx hb dX0_sortOf_14 rfl (lv_at hl 0 rfl) ?_
      refine lv_bipush (v := 122) hx hb dX0_sortOf_15 (by decide) ?_
      refine lv_icmp_le (tgt := 32) hx hb dX0_sortOf_17 (by decide) (fun c_13 => ?_) (fun c_13 => ?_)
      · have zc_13 := c_13
        rw [Int32.le_iff_toInt_le] at zc_13
        try rw [show (122 : Int32).toInt = 122 from by decide] at zc_13
        refine lv_iconst (v := 1) hx hb dX0_sortOf_32 (by decide) ?_
        exact W.iret (v := 1) hx hb hr (fun t ht hW => ⟨⟨1, (), rfl, (zz_so1.mpr (by omega)).symm, trivial⟩, hS.F ht⟩) hS.2.2 dX0_sortOf_33
      · have zc_13 := c_13
        rw [Int32.le_iff_toInt_le] at zc_13
        try rw [show (122 : Int32).toInt = 122 from by decide] at zc_13
        refine lv_iload_n hx hb dX0_sortOf_20 rfl (lv_at hl 0 rfl) ?_
        refine lv_bipush (v := 65) hx hb dX0_sortOf_21 (by decide) ?_
        refine lv_icmp_lt (tgt := 34) hx hb dX0_sortOf_23 (by decide) (fun c_14 => ?_) (fun c_14 => ?_)
        · have zc_14 := c_14
          rw [Int32.lt_iff_toInt_lt] at zc_14
          try rw [show (65 : Int32).toInt = 65 from by decide] at zc_14
          refine lv_iload_n hx hb dX0_sortOf_34 rfl (lv_at hl 0 rfl) ?_
          refine lv_bipush (v := 48) hx hb dX0_sortOf_35 (by decide) ?_
          refine lv_icmp_lt (tgt := 48) hx hb dX0_sortOf_37 (by decide) (fun c_15 => ?_) (fun c_15 => ?_)
          · have zc_15 := c_15
            rw [Int32.lt_iff_toInt_lt] at zc_15
            try rw [show (48 : Int32).toInt = 48 from by decide] at zc_15
            refine lv_iload_n hx hb dX0_sortOf_48 rfl (lv_at hl 0 rfl) ?_
            refine lv_bipush (v := 59) hx hb dX0_sortOf_49 (by decide) ?_
            refine lv_icmp_ne (tgt := 58) hx hb dX0_sortOf_51 (by decide) (fun c_16 => ?_) (fun c_16 => ?_)
            · have zc_16 := c_16
              rw [← Int32.toInt_inj] at zc_16
              try rw [show (59 : Int32).toInt = 59 from by decide] at zc_16
              refine lv_iconst (v := 4) hx hb dX0_sortOf_58 (by decide) ?_
              exact W.iret (v := 4) hx hb hr (fun t ht hW => ⟨⟨4, (), rfl, (zz_so4 (by omega) (by omega) (by omega) (by omega)), trivial⟩, hS.F ht⟩) hS.2.2 dX0_sortOf_59
            · have zc_16 := c_16
              rw [← Int32.toInt_inj] at zc_16
              try rw [show (59 : Int32).toInt = 59 from by decide] at zc_16
              refine lv_iconst (v := 3) hx hb dX0_sortOf_54 (by decide) ?_
              refine lv_goto (tgt := 59) hx hb dX0_sortOf_55 (by decide) ?_
              exact W.iret (v := 3) hx hb hr (fun t ht hW => ⟨⟨3, (), rfl, (zz_so3.mpr (by omega)).symm, trivial⟩, hS.F ht⟩) hS.2.2 dX0_sortOf_59
          · have zc_15 := c_15
            rw [Int32.lt_iff_toInt_lt] at zc_15
            try rw [show (48 : Int32).toInt = 48 from by decide] at zc_15
            refine lv_iload_n hx hb dX0_sortOf_40 rfl (lv_at hl 0 rfl) ?_
            refine lv_bipush (v := 57) hx hb dX0_sortOf_41 (by decide) ?_
            refine lv_icmp_gt (tgt := 48) hx hb dX0_sortOf_43 (by decide) (fun c_17 => ?_) (fun c_17 => ?_)
            · have zc_17 := c_17
              rw [Int32.lt_iff_toInt_lt] at zc_17
              try rw [show (57 : Int32).toInt = 57 from by decide] at zc_17
              refine lv_iload_n hx hb dX0_sortOf_48 rfl (lv_at hl 0 rfl) ?_
              refine lv_bipush (v := 59) hx hb dX0_sortOf_49 (by decide) ?_
              refine lv_icmp_ne (tgt := 58) hx hb dX0_sortOf_51 (by decide) (fun c_18 => ?_) (fun c_18 => ?_)
              · have zc_18 := c_18
                rw [← Int32.toInt_inj] at zc_18
                try rw [show (59 : Int32).toInt = 59 from by decide] at zc_18
                refine lv_iconst (v := 4) hx hb dX0_sortOf_58 (by decide) ?_
                exact W.iret (v := 4) hx hb hr (fun t ht hW => ⟨⟨4, (), rfl, (zz_so4 (by omega) (by omega) (by omega) (by omega)), trivial⟩, hS.F ht⟩) hS.2.2 dX0_sortOf_59
              · have zc_18 := c_18
                rw [← Int32.toInt_inj] at zc_18
                try rw [show (59 : Int32).toInt = 59 from by decide] at zc_18
                refine lv_iconst (v := 3) hx hb dX0_sortOf_54 (by decide) ?_
                refine lv_goto (tgt := 59) hx hb dX0_sortOf_55 (by decide) ?_
                exact W.iret (v := 3) hx hb hr (fun t ht hW => ⟨⟨3, (), rfl, (zz_so3.mpr (by omega)).symm, trivial⟩, hS.F ht⟩) hS.2.2 dX0_sortOf_59
            · have zc_17 := c_17
              rw [Int32.lt_iff_toInt_lt] at zc_17
              try rw [show (57 : Int32).toInt = 57 from by decide] at zc_17
              refine lv_iconst (v := 2) hx hb dX0_sortOf_46 (by decide) ?_
              exact W.iret (v := 2) hx hb hr (fun t ht hW => ⟨⟨2, (), rfl, (zz_so2.mpr (by omega)).symm, trivial⟩, hS.F ht⟩) hS.2.2 dX0_sortOf_47
        · have zc_14 := c_14
          rw [Int32.lt_iff_toInt_lt] at zc_14
          try rw [show (65 : Int32).toInt = 65 from by decide] at zc_14
          refine lv_iload_n hx hb dX0_sortOf_26 rfl (lv_at hl 0 rfl) ?_
          refine lv_bipush (v := 90) hx hb dX0_sortOf_27 (by decide) ?_
          refine lv_icmp_gt (tgt := 34) hx hb dX0_sortOf_29 (by decide) (fun c_19 => ?_) (fun c_19 => ?_)
          · have zc_19 := c_19
            rw [Int32.lt_iff_toInt_lt] at zc_19
            try rw [show (90 : Int32).toInt = 90 from by decide] at zc_19
            refine lv_iload_n hx hb dX0_sortOf_34 rfl (lv_at hl 0 rfl) ?_
            refine lv_bipush (v := 48) hx hb dX0_sortOf_35 (by decide) ?_
            refine lv_icmp_lt (tgt := 48) hx hb dX0_sortOf_37 (by decide) (fun c_20 => ?_) (fun c_20 => ?_)
            · have zc_20 := c_20
              rw [Int32.lt_iff_toInt_lt] at zc_20
              try rw [show (48 : Int32).toInt = 48 from by decide] at zc_20
              refine lv_iload_n hx hb dX0_sortOf_48 rfl (lv_at hl 0 rfl) ?_
              refine lv_bipush (v := 59) hx hb dX0_sortOf_49 (by decide) ?_
              refine lv_icmp_ne (tgt := 58) hx hb dX0_sortOf_51 (by decide) (fun c_21 => ?_) (fun c_21 => ?_)
              · have zc_21 := c_21
                rw [← Int32.toInt_inj] at zc_21
                try rw [show (59 : Int32).toInt = 59 from by decide] at zc_21
                refine lv_iconst (v := 4) hx hb dX0_sortOf_58 (by decide) ?_
                exact W.iret (v := 4) hx hb hr (fun t ht hW => ⟨⟨4, (), rfl, (zz_so4 (by omega) (by omega) (by omega) (by omega)), trivial⟩, hS.F ht⟩) hS.2.2 dX0_sortOf_59
              · have zc_21 := c_21
                rw [← Int32.toInt_inj] at zc_21
                try rw [show (59 : Int32).toInt = 59 from by decide] at zc_21
                refine lv_iconst (v := 3) hx hb dX0_sortOf_54 (by decide) ?_
                refine lv_goto (tgt := 59) hx hb dX0_sortOf_55 (by decide) ?_
                exact W.iret (v := 3) hx hb hr (fun t ht hW => ⟨⟨3, (), rfl, (zz_so3.mpr (by omega)).symm, trivial⟩, hS.F ht⟩) hS.2.2 dX0_sortOf_59
            · have zc_20 := c_20
              rw [Int32.lt_iff_toInt_lt] at zc_20
              try rw [show (48 : Int32).toInt = 48 from by decide] at zc_20
              refine lv_iload_n hx hb dX0_sortOf_40 rfl (lv_at hl 0 rfl) ?_
              refine lv_bipush (v := 57) hx hb dX0_sortOf_41 (by decide) ?_
              refine lv_icmp_gt (tgt := 48) hx hb dX0_sortOf_43 (by decide) (fun c_22 => ?_) (fun c_22 => ?_)
              · have zc_22 := c_22
                rw [Int32.lt_iff_toInt_lt] at zc_22
                try rw [show (57 : Int32).toInt = 57 from by decide] at zc_22
                refine lv_iload_n hx hb dX0_sortOf_48 rfl (lv_at hl 0 rfl) ?_
                refine lv_bipush (v := 59) hx hb dX0_sortOf_49 (by decide) ?_
                refine lv_icmp_ne (tgt := 58) hx hb dX0_sortOf_51 (by decide) (fun c_23 => ?_) (fun c_23 => ?_)
                · have zc_23 := c_23
                  rw [← Int32.toInt_inj] at zc_23
                  try rw [show (59 : Int32).toInt = 59 from by decide] at zc_23
                  refine lv_iconst (v := 4) hx hb dX0_sortOf_58 (by decide) ?_
                  exact W.iret (v := 4) hx hb hr (fun t ht hW => ⟨⟨4, (), rfl, (zz_so4 (by omega) (by omega) (by omega) (by omega)), trivial⟩, hS.F ht⟩) hS.2.2 dX0_sortOf_59
                · have zc_23 := c_23
                  rw [← Int32.toInt_inj] at zc_23
                  try rw [show (59 : Int32).toInt = 59 from by decide] at zc_23
                  refine lv_iconst (v := 3) hx hb dX0_sortOf_54 (by decide) ?_
                  refine lv_goto (tgt := 59) hx hb dX0_sortOf_55 (by decide) ?_
                  exact W.iret (v := 3) hx hb hr (fun t ht hW => ⟨⟨3, (), rfl, (zz_so3.mpr (by omega)).symm, trivial⟩, hS.F ht⟩) hS.2.2 dX0_sortOf_59
              · have zc_22 := c_22
                rw [Int32.lt_iff_toInt_lt] at zc_22
                try rw [show (57 : Int32).toInt = 57 from by decide] at zc_22
                refine lv_iconst (v := 2) hx hb dX0_sortOf_46 (by decide) ?_
                exact W.iret (v := 2) hx hb hr (fun t ht hW => ⟨⟨2, (), rfl, (zz_so2.mpr (by omega)).symm, trivial⟩, hS.F ht⟩) hS.2.2 dX0_sortOf_47
          · have zc_19 := c_19
            rw [Int32.lt_iff_toInt_lt] at zc_19
            try rw [show (90 : Int32).toInt = 90 from by decide] at zc_19
            refine lv_iconst (v := 1) hx hb dX0_sortOf_32 (by decide) ?_
            exact W.iret (v := 1) hx hb hr (fun t ht hW => ⟨⟨1, (), rfl, (zz_so1.mpr (by omega)).symm, trivial⟩, hS.F ht⟩) hS.2.2 dX0_sortOf_33
  · have zc_1 := c_1
    rw [← Int32.toInt_inj] at zc_1
    try rw [show (32 : Int32).toInt = 32 from by decide] at zc_1
    refine lv_iconst (v := 0) hx hb dX0_sortOf_6 (by decide) ?_
    exact W.iret (v := 0) hx hb hr (fun t ht hW => ⟨⟨0, (), rfl, (zz_so0.mpr (by omega)).symm, trivial⟩, hS.F ht⟩) hS.2.2 dX0_sortOf_7
