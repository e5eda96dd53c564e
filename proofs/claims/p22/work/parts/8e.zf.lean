set_option maxHeartbeats 4000000 in
set_option maxRecDepth 100000 in
theorem mx_owed (l : Launch) (dC : Nat → ClassId) (dI : Nat → Nat → Nat) (b : Nat → Nat) (gg : Nat → Int32) (mt : Nat) (mc : Nat) (mh : Nat) (mf : Nat) (md : Nat) (cI : ClassId) (mo : Nat → Int32) (mr : Nat → Int32) (my : Nat → Int32) (mu : Nat → Int32) (p0 : Int32) (p1 : Int32) (sz : Nat) (hmd : md ≤ 300) : Met l yX8_owed (zz_w yX8_owed cX8_owed 5 (some .int)) ({ frames := 0, cells := 0, slots := 0, locals := 0 }) (va_Pc [.ref (b 0), .int p0, .int p1] (zz_B (dC, dI) sz [(b 0, .inr (8, [.ref (b 1), .int (nI mt), .int (gg 2), .int (gg 3), .int (gg 4), .int (gg 5), .int (gg 6), .int (gg 7), .int (gg 8), .int (gg 9), .ref (b 11), .ref (b 12), .ref (b 13), .int (nI mc), .int (nI mh), .ref (b 16), .ref (b 17), .ref (b 18), .ref (b 19), .ref (b 20), .ref (b 21), .ref (b 22), .ref (b 23), .ref (b 24), .int (nI mf), .ref (b 26), .ref (b 27), .ref (b 28), .ref (b 29), .ref (b 30), .ref (b 31), .ref (b 32), .int (gg 32), .int (nI md), .ref (b 35), .ref (b 36), .ref (b 37), .ref (b 38), .ref (b 39), .ref (b 40), .int (gg 40), .ref (b 42), .ref (b 43), .ref (b 44), .int (gg 44), .ref (b 46), .ref (b 47), .int (gg 47), .ref (b 49)])), (b 35, .inl (cI, 300, .inl mo)), (b 36, .inl (cI, 300, .inl mr)), (b 37, .inl (cI, 300, .inl my)), (b 38, .inl (cI, 300, .inl mu))] [(cI, .int)])) (va_Qi (fun (r : Int32) (_ : Unit) => r = zz_su mo mr mu p0 p1 md) (fun _ _ => True) (va_A [] sz)) 0 0 (va_A [] sz) := by
  refine Met.ofW (cc := cX8_owed) (maxL := 5) (ret := (some .int)) (by decide) rfl ?_
  intro p e s m args below meth c s₁ B hml hv
  obtain ⟨rfl, hsz, hP, hK, hD0, hN⟩ := hv
  have hx := B.exec
  have hb := B.bytes
  have hr := B.returns
  have hts := atoms_spec (ws := zz_w yX8_owed cX8_owed 5 (some .int)) B.pre
  have hw : ∀ w ∈ zz_all, w.before _ s = true := fun w h => hts w (List.mem_cons_of_mem _ h)
  have hown : s.vm.findClass RX8 = some m.cls := findClass_of_methodNamed B.named
  have hlocks := B.notSynchronized
  subst hsz
  have hD := hD0
  generalize hAe : va_A [] s.heap.size = A
  have hA : ∀ q : Nat, s.heap.size ≤ q → A q := fun q h => by rw [← hAe]; exact Or.inr h
  have hS : va_S A s.heap s.heap [] := va_S.rf
  have hP : va_P (dC, dI) vwCl [(b 0, .inr (8, [.ref (b 1), .int (nI mt), .int (gg 2), .int (gg 3), .int (gg 4), .int (gg 5), .int (gg 6), .int (gg 7), .int (gg 8), .int (gg 9), .ref (b 11), .ref (b 12), .ref (b 13), .int (nI mc), .int (nI mh), .ref (b 16), .ref (b 17), .ref (b 18), .ref (b 19), .ref (b 20), .ref (b 21), .ref (b 22), .ref (b 23), .ref (b 24), .int (nI mf), .ref (b 26), .ref (b 27), .ref (b 28), .ref (b 29), .ref (b 30), .ref (b 31), .ref (b 32), .int (gg 32), .int (nI md), .ref (b 35), .ref (b 36), .ref (b 37), .ref (b 38), .ref (b 39), .ref (b 40), .int (gg 40), .ref (b 42), .ref (b 43), .ref (b 44), .int (gg 44), .ref (b 46), .ref (b 47), .int (gg 47), .ref (b 49)])), (b 35, .inl (cI, 300, .inl mo)), (b 36, .inl (cI, 300, .inl mr)), (b 37, .inl (cI, 300, .inl my)), (b 38, .inl (cI, 300, .inl mu))] s.heap := hP
  have hl := lv_entry ([.ref (b 0), .int p0, .int p1]) (n := 5) (Nat.le_of_ble_eq_true rfl)
  rw [lg_entry_eq]
  generalize (lg_sl ([.ref (b 0), .int p0, .int p1]) ++ List.replicate (5 - (lg_sl ([.ref (b 0), .int p0, .int p1])).length) Slot.unset).toArray = ls at hl ⊢
  have hl : lv_has ls 5 [(0, .ref (b 0)), (1, .int p0), (2, .int p1)] := hl
  refine lv_iconst (v := 0) hx hb dX8_owed_0 (by decide) ?_
  refine lv_istore_n (lv' := [(3, .int 0), (0, .ref (b 0)), (1, .int p0), (2, .int p1)]) hx hb dX8_owed_1 rfl hl (by decide) rfl (fun ls hl => ?_)
  refine lv_iconst (v := 0) hx hb dX8_owed_2 (by decide) ?_
  refine lv_istore (lv' := [(4, .int 0), (3, .int 0), (0, .ref (b 0)), (1, .int p0), (2, .int p1)]) hx hb dX8_owed_3 hl (by decide) rfl (fun ls hl => ?_)
  refine zz_loopS (fun (u : (Nat) × (Int32)) => match u with | (j, y) => [(b 0, .inr (8, [.ref (b 1), .int (nI mt), .int (gg 2), .int (gg 3), .int (gg 4), .int (gg 5), .int (gg 6), .int (gg 7), .int (gg 8), .int (gg 9), .ref (b 11), .ref (b 12), .ref (b 13), .int (nI mc), .int (nI mh), .ref (b 16), .ref (b 17), .ref (b 18), .ref (b 19), .ref (b 20), .ref (b 21), .ref (b 22), .ref (b 23), .ref (b 24), .int (nI mf), .ref (b 26), .ref (b 27), .ref (b 28), .ref (b 29), .ref (b 30), .ref (b 31), .ref (b 32), .int (gg 32), .int (nI md), .ref (b 35), .ref (b 36), .ref (b 37), .ref (b 38), .ref (b 39), .ref (b 40), .int (gg 40), .ref (b 42), .ref (b 43), .ref (b 44), .int (gg 44), .ref (b 46), .ref (b 47), .int (gg 47), .ref (b 49)])), (b 35, .inl (cI, 300, .inl mo)), (b 36, .inl (cI, 300, .inl mr)), (b 37, .inl (cI, 300, .inl my)), (b 38, .inl (cI, 300, .inl mu))]) (fun (u : (Nat) × (Int32)) => match u with | (j, y) => [(0, .ref (b 0)), (1, .int p0), (2, .int p1), (3, .int y), (4, .int (nI j))]) (fun (u : (Nat) × (Int32)) => match u with | (j, y) => j ≤ md ∧ y = zz_su mo mr mu p0 p1 j) (fun (u : (Nat) × (Int32)) => match u with | (j, y) => md - j) (fun u hI H locs ls hP hD hS hl ih_5 => ?_) (0, 0) ⟨by omega, rfl⟩ _ _ _ (hP.sub [0, 1, 2, 3, 4] rfl) (hD.sub [0, 1, 2, 3, 4] (by decide) rfl) hS (lv_sub hl [2, 3, 4, 1, 0] rfl)
  obtain ⟨j, y⟩ := u
  obtain ⟨hP, hD⟩ := zz_ty (D := (dC, dI)) (cl := vwCl) (A := (fun _ => True)) (H := H) [(b 0, .inr (8, [.ref (b 1), .int (nI mt), .int (gg 2), .int (gg 3), .int (gg 4), .int (gg 5), .int (gg 6), .int (gg 7), .int (gg 8), .int (gg 9), .ref (b 11), .ref (b 12), .ref (b 13), .int (nI mc), .int (nI mh), .ref (b 16), .ref (b 17), .ref (b 18), .ref (b 19), .ref (b 20), .ref (b 21), .ref (b 22), .ref (b 23), .ref (b 24), .int (nI mf), .ref (b 26), .ref (b 27), .ref (b 28), .ref (b 29), .ref (b 30), .ref (b 31), .ref (b 32), .int (gg 32), .int (nI md), .ref (b 35), .ref (b 36), .ref (b 37), .ref (b 38), .ref (b 39), .ref (b 40), .int (gg 40), .ref (b 42), .ref (b 43), .ref (b 44), .int (gg 44), .ref (b 46), .ref (b 47), .int (gg 47), .ref (b 49)])), (b 35, .inl (cI, 300, .inl mo)), (b 36, .inl (cI, 300, .inl mr)), (b 37, .inl (cI, 300, .inl my)), (b 38, .inl (cI, 300, .inl mu))] hP hD rfl
  have hl : lv_has ls 5 [(0, .ref (b 0)), (1, .int p0), (2, .int p1), (3, .int y), (4, .int (nI j))] := hl
  have hI : j ≤ md ∧ y = zz_su mo mr mu p0 p1 j := hI
  obtain ⟨ij, iy⟩ := hI
  refine lv_iload hx hb dX8_owed_5 (lv_at hl 4 rfl) ?_
  refine lv_aload_n hx hb dX8_owed_7 rfl (lv_at hl 0 rfl) ?_
  refine va_get (D := (dC, dI)) (ci := 8) (v := .int (nI md)) (C := RX8) (T := TX8) (N := 49) hx hb hw zz_inX8 hown hK hP 0 rfl rfl 33 (by decide) (hw _ tw_206) (fun _ h9 => h9) rfl dX8_owed_8 ?_
  refine lv_icmp_ge (tgt := 56) hx hb dX8_owed_11 (by decide) (fun c_1 => ?_) (fun c_1 => ?_)
  · have zc_1 := c_1
    rw [Int32.le_iff_toInt_le] at zc_1
    try rw [zz_toInt j (by omega)] at zc_1
    try rw [zz_toInt md (by omega)] at zc_1
    refine lv_iload_n hx hb dX8_owed_56 rfl (lv_at hl 3 rfl) ?_
    exact W.iret (v := y) hx hb hr (fun t ht hW => ⟨⟨y, (), rfl, (by rw [show md = j from by omega]; exact iy), trivial⟩, hS.F ht⟩) hS.2.2 dX8_owed_57
  · have zc_1 := c_1
    rw [Int32.le_iff_toInt_le] at zc_1
    try rw [zz_toInt j (by omega)] at zc_1
    try rw [zz_toInt md (by omega)] at zc_1
    refine lv_iload_n hx hb dX8_owed_14 rfl (lv_at hl 3 rfl) ?_
    refine lv_aload_n hx hb dX8_owed_15 rfl (lv_at hl 0 rfl) ?_
    refine va_get (D := (dC, dI)) (ci := 8) (v := .ref (b 35)) (C := RX8) (T := TX8) (N := 49) hx hb hw zz_inX8 hown hK hP 0 rfl rfl 34 (by decide) (hw _ tw_207) (fun _ h9 => h9) rfl dX8_owed_16 ?_
    refine lv_iload hx hb dX8_owed_19 (lv_at hl 4 rfl) ?_
    refine va_iald hx hb hK hP 1 0 rfl rfl (vp_in_iff.mpr (by rw [zz_toInt j (by omega)]; constructor <;> omega)) dX8_owed_21 ?_
    refine zz_seti (mo j) (congrArg mo (zz_cl (by omega))) ?_
    refine lv_iload_n hx hb dX8_owed_22 rfl (lv_at hl 1 rfl) ?_
    refine lv_icmp_ne (tgt := 47) hx hb dX8_owed_23 (by decide) (fun c_2 => ?_) (fun c_2 => ?_)
    · have zc_2 := c_2
      rw [← Int32.toInt_inj] at zc_2
      refine lv_iconst (v := 0) hx hb dX8_owed_47 (by decide) ?_
      refine lv_iadd hx hb dX8_owed_48 ?_
      refine lv_istore_n (lv' := [(3, .int (y + 0)), (0, .ref (b 0)), (1, .int p0), (2, .int p1), (4, .int (nI j))]) hx hb dX8_owed_49 rfl hl (by decide) rfl (fun ls hl => ?_)
      refine lv_iinc (v := (nI (j + 1))) (lv' := [(4, .int (nI (j + 1))), (3, .int (y + 0)), (0, .ref (b 0)), (1, .int p0), (2, .int p1)]) hx hb dX8_owed_50 hl (k := 4) rfl (nI_1 _) (by decide) rfl (fun ls hl => ?_)
      refine lv_goto (tgt := 5) hx hb dX8_owed_53 (by decide) ?_
      exact ih_5 ((j + 1), (y + 0)) ⟨by omega, zz_su_0 iy (fun h9 => c_2 h9.1)⟩ (show md - (j + 1) < md - j from by omega) _ _ _ (hP.sub [0, 1, 2, 3, 4] rfl) (hD.sub [0, 1, 2, 3, 4] (by decide) rfl) hS (lv_sub hl [2, 3, 4, 1, 0] rfl)
    · have zc_2 := c_2
      rw [← Int32.toInt_inj] at zc_2
      refine lv_aload_n hx hb dX8_owed_26 rfl (lv_at hl 0 rfl) ?_
      refine va_get (D := (dC, dI)) (ci := 8) (v := .ref (b 36)) (C := RX8) (T := TX8) (N := 49) hx hb hw zz_inX8 hown hK hP 0 rfl rfl 35 (by decide) (hw _ tw_208) (fun _ h9 => h9) rfl dX8_owed_27 ?_
      refine lv_iload hx hb dX8_owed_30 (lv_at hl 4 rfl) ?_
      refine va_iald hx hb hK hP 2 0 rfl rfl (vp_in_iff.mpr (by rw [zz_toInt j (by omega)]; constructor <;> omega)) dX8_owed_32 ?_
      refine zz_seti (mr j) (congrArg mr (zz_cl (by omega))) ?_
      refine lv_iload_n hx hb dX8_owed_33 rfl (lv_at hl 2 rfl) ?_
      refine lv_icmp_ne (tgt := 47) hx hb dX8_owed_34 (by decide) (fun c_3 => ?_) (fun c_3 => ?_)
      · have zc_3 := c_3
        rw [← Int32.toInt_inj] at zc_3
        refine lv_iconst (v := 0) hx hb dX8_owed_47 (by decide) ?_
        refine lv_iadd hx hb dX8_owed_48 ?_
        refine lv_istore_n (lv' := [(3, .int (y + 0)), (0, .ref (b 0)), (1, .int p0), (2, .int p1), (4, .int (nI j))]) hx hb dX8_owed_49 rfl hl (by decide) rfl (fun ls hl => ?_)
        refine lv_iinc (v := (nI (j + 1))) (lv' := [(4, .int (nI (j + 1))), (3, .int (y + 0)), (0, .ref (b 0)), (1, .int p0), (2, .int p1)]) hx hb dX8_owed_50 hl (k := 4) rfl (nI_1 _) (by decide) rfl (fun ls hl => ?_)
        refine lv_goto (tgt := 5) hx hb dX8_owed_53 (by decide) ?_
        exact ih_5 ((j + 1), (y + 0)) ⟨by omega, zz_su_0 iy (fun h9 => c_3 h9.2)⟩ (show md - (j + 1) < md - j from by omega) _ _ _ (hP.sub [0, 1, 2, 3, 4] rfl) (hD.sub [0, 1, 2, 3, 4] (by decide) rfl) hS (lv_sub hl [2, 3, 4, 1, 0] rfl)
      · have zc_3 := c_3
        rw [← Int32.toInt_inj] at zc_3
        refine lv_aload_n hx hb dX8_owed_37 rfl (lv_at hl 0 rfl) ?_
        refine va_get (D := (dC, dI)) (ci := 8) (v := .ref (b 38)) (C := RX8) (T := TX8) (N := 49) hx hb hw zz_inX8 hown hK hP 0 rfl rfl 37 (by decide) (hw _ tw_210) (fun _ h9 => h9) rfl dX8_owed_38 ?_
        refine lv_iload hx hb dX8_owed_41 (lv_at hl 4 rfl) ?_
        refine va_iald hx hb hK hP 4 0 rfl rfl (vp_in_iff.mpr (by rw [zz_toInt j (by omega)]; constructor <;> omega)) dX8_owed_43 ?_
        refine zz_seti (mu j) (congrArg mu (zz_cl (by omega))) ?_
        refine lv_goto (tgt := 48) hx hb dX8_owed_44 (by decide) ?_
        refine lv_iadd hx hb dX8_owed_48 ?_
        refine lv_istore_n (lv' := [(3, .int (y + (mu j))), (0, .ref (b 0)), (1, .int p0), (2, .int p1), (4, .int (nI j))]) hx hb dX8_owed_49 rfl hl (by decide) rfl (fun ls hl => ?_)
        refine lv_iinc (v := (nI (j + 1))) (lv' := [(4, .int (nI (j + 1))), (3, .int (y + (mu j))), (0, .ref (b 0)), (1, .int p0), (2, .int p1)]) hx hb dX8_owed_50 hl (k := 4) rfl (nI_1 _) (by decide) rfl (fun ls hl => ?_)
        refine lv_goto (tgt := 5) hx hb dX8_owed_53 (by decide) ?_
        exact ih_5 ((j + 1), (y + (mu j))) ⟨by omega, zz_su_y iy ⟨c_2, c_3⟩⟩ (show md - (j + 1) < md - j from by omega) _ _ _ (hP.sub [0, 1, 2, 3, 4] rfl) (hD.sub [0, 1, 2, 3, 4] (by decide) rfl) hS (lv_sub hl [2, 3, 4, 1, 0] rfl)
set_option maxHeartbeats 4000000 in
set_option maxRecDepth 100000 in
theorem mx_net (l : Launch) (dC : Nat → ClassId) (dI : Nat → Nat → Nat) (b : Nat → Nat) (gg : Nat → Int32) (mt : Nat) (mc : Nat) (mh : Nat) (mf : Nat) (md : Nat) (cI : ClassId) (mo : Nat → Int32) (mr : Nat → Int32) (my : Nat → Int32) (mu : Nat → Int32) (p0 : Int32) (sz : Nat) (hmd : md ≤ 300) : Met l yX8_net (zz_w yX8_net cX8_net 4 (some .int)) ({ frames := 0, cells := 0, slots := 0, locals := 0 }) (va_Pc [.ref (b 0), .int p0] (zz_B (dC, dI) sz [(b 0, .inr (8, [.ref (b 1), .int (nI mt), .int (gg 2), .int (gg 3), .int (gg 4), .int (gg 5), .int (gg 6), .int (gg 7), .int (gg 8), .int (gg 9), .ref (b 11), .ref (b 12), .ref (b 13), .int (nI mc), .int (nI mh), .ref (b 16), .ref (b 17), .ref (b 18), .ref (b 19), .ref (b 20), .ref (b 21), .ref (b 22), .ref (b 23), .ref (b 24), .int (nI mf), .ref (b 26), .ref (b 27), .ref (b 28), .ref (b 29), .ref (b 30), .ref (b 31), .ref (b 32), .int (gg 32), .int (nI md), .ref (b 35), .ref (b 36), .ref (b 37), .ref (b 38), .ref (b 39), .ref (b 40), .int (gg 40), .ref (b 42), .ref (b 43), .ref (b 44), .int (gg 44), .ref (b 46), .ref (b 47), .int (gg 47), .ref (b 49)])), (b 35, .inl (cI, 300, .inl mo)), (b 36, .inl (cI, 300, .inl mr)), (b 37, .inl (cI, 300, .inl my)), (b 38, .inl (cI, 300, .inl mu))] [(cI, .int)])) (va_Qi (fun (r : Int32) (_ : Unit) => r = zz_nc mo mr mu p0 md) (fun _ _ => True) (va_A [] sz)) 0 0 (va_A [] sz) := by
  refine Met.ofW (cc := cX8_net) (maxL := 4) (ret := (some .int)) (by decide) rfl ?_
  intro p e s m args below meth c s₁ B hml hv
  obtain ⟨rfl, hsz, hP, hK, hD0, hN⟩ := hv
  have hx := B.exec
  have hb := B.bytes
  have hr := B.returns
  have hts := atoms_spec (ws := zz_w yX8_net cX8_net 4 (some .int)) B.pre
  have hw : ∀ w ∈ zz_all, w.before _ s = true := fun w h => hts w (List.mem_cons_of_mem _ h)
  have hown : s.vm.findClass RX8 = some m.cls := findClass_of_methodNamed B.named
  have hlocks := B.notSynchronized
  subst hsz
  have hD := hD0
  generalize hAe : va_A [] s.heap.size = A
  have hA : ∀ q : Nat, s.heap.size ≤ q → A q := fun q h => by rw [← hAe]; exact Or.inr h
  have hS : va_S A s.heap s.heap [] := va_S.rf
  have hP : va_P (dC, dI) vwCl [(b 0, .inr (8, [.ref (b 1), .int (nI mt), .int (gg 2), .int (gg 3), .int (gg 4), .int (gg 5), .int (gg 6), .int (gg 7), .int (gg 8), .int (gg 9), .ref (b 11), .ref (b 12), .ref (b 13), .int (nI mc), .int (nI mh), .ref (b 16), .ref (b 17), .ref (b 18), .ref (b 19), .ref (b 20), .ref (b 21), .ref (b 22), .ref (b 23), .ref (b 24), .int (nI mf), .ref (b 26), .ref (b 27), .ref (b 28), .ref (b 29), .ref (b 30), .ref (b 31), .ref (b 32), .int (gg 32), .int (nI md), .ref (b 35), .ref (b 36), .ref (b 37), .ref (b 38), .ref (b 39), .ref (b 40), .int (gg 40), .ref (b 42), .ref (b 43), .ref (b 44), .int (gg 44), .ref (b 46), .ref (b 47), .int (gg 47), .ref (b 49)])), (b 35, .inl (cI, 300, .inl mo)), (b 36, .inl (cI, 300, .inl mr)), (b 37, .inl (cI, 300, .inl my)), (b 38, .inl (cI, 300, .inl mu))] s.heap := hP
  have hl := lv_entry ([.ref (b 0), .int p0]) (n := 4) (Nat.le_of_ble_eq_true rfl)
  rw [lg_entry_eq]
  generalize (lg_sl ([.ref (b 0), .int p0]) ++ List.replicate (4 - (lg_sl ([.ref (b 0), .int p0])).length) Slot.unset).toArray = ls at hl ⊢
  have hl : lv_has ls 4 [(0, .ref (b 0)), (1, .int p0)] := hl
  refine lv_iconst (v := 0) hx hb dX8_net_0 (by decide) ?_
  refine lv_istore_n (lv' := [(2, .int 0), (0, .ref (b 0)), (1, .int p0)]) hx hb dX8_net_1 rfl hl (by decide) rfl (fun ls hl => ?_)
  refine lv_iconst (v := 0) hx hb dX8_net_2 (by decide) ?_
  refine lv_istore_n (lv' := [(3, .int 0), (2, .int 0), (0, .ref (b 0)), (1, .int p0)]) hx hb dX8_net_3 rfl hl (by decide) rfl (fun ls hl => ?_)
  refine zz_loopS (fun (u : (Nat) × (Int32)) => match u with | (j, y) => [(b 0, .inr (8, [.ref (b 1), .int (nI mt), .int (gg 2), .int (gg 3), .int (gg 4), .int (gg 5), .int (gg 6), .int (gg 7), .int (gg 8), .int (gg 9), .ref (b 11), .ref (b 12), .ref (b 13), .int (nI mc), .int (nI mh), .ref (b 16), .ref (b 17), .ref (b 18), .ref (b 19), .ref (b 20), .ref (b 21), .ref (b 22), .ref (b 23), .ref (b 24), .int (nI mf), .ref (b 26), .ref (b 27), .ref (b 28), .ref (b 29), .ref (b 30), .ref (b 31), .ref (b 32), .int (gg 32), .int (nI md), .ref (b 35), .ref (b 36), .ref (b 37), .ref (b 38), .ref (b 39), .ref (b 40), .int (gg 40), .ref (b 42), .ref (b 43), .ref (b 44), .int (gg 44), .ref (b 46), .ref (b 47), .int (gg 47), .ref (b 49)])), (b 35, .inl (cI, 300, .inl mo)), (b 36, .inl (cI, 300, .inl mr)), (b 37, .inl (cI, 300, .inl my)), (b 38, .inl (cI, 300, .inl mu))]) (fun (u : (Nat) × (Int32)) => match u with | (j, y) => [(0, .ref (b 0)), (1, .int p0), (2, .int y), (3, .int (nI j))]) (fun (u : (Nat) × (Int32)) => match u with | (j, y) => j ≤ md ∧ y = zz_nc mo mr mu p0 j) (fun (u : (Nat) × (Int32)) => match u with | (j, y) => md - j) (fun u hI H locs ls hP hD hS hl ih_4 => ?_) (0, 0) ⟨by omega, rfl⟩ _ _ _ (hP.sub [0, 1, 2, 3, 4] rfl) (hD.sub [0, 1, 2, 3, 4] (by decide) rfl) hS (lv_sub hl [2, 3, 1, 0] rfl)
  obtain ⟨j, y⟩ := u
  obtain ⟨hP, hD⟩ := zz_ty (D := (dC, dI)) (cl := vwCl) (A := (fun _ => True)) (H := H) [(b 0, .inr (8, [.ref (b 1), .int (nI mt), .int (gg 2), .int (gg 3), .int (gg 4), .int (gg 5), .int (gg 6), .int (gg 7), .int (gg 8), .int (gg 9), .ref (b 11), .ref (b 12), .ref (b 13), .int (nI mc), .int (nI mh), .ref (b 16), .ref (b 17), .ref (b 18), .ref (b 19), .ref (b 20), .ref (b 21), .ref (b 22), .ref (b 23), .ref (b 24), .int (nI mf), .ref (b 26), .ref (b 27), .ref (b 28), .ref (b 29), .ref (b 30), .ref (b 31), .ref (b 32), .int (gg 32), .int (nI md), .ref (b 35), .ref (b 36), .ref (b 37), .ref (b 38), .ref (b 39), .ref (b 40), .int (gg 40), .ref (b 42), .ref (b 43), .ref (b 44), .int (gg 44), .ref (b 46), .ref (b 47), .int (gg 47), .ref (b 49)])), (b 35, .inl (cI, 300, .inl mo)), (b 36, .inl (cI, 300, .inl mr)), (b 37, .inl (cI, 300, .inl my)), (b 38, .inl (cI, 300, .inl mu))] hP hD rfl
  have hl : lv_has ls 4 [(0, .ref (b 0)), (1, .int p0), (2, .int y), (3, .int (nI j))] := hl
  have hI : j ≤ md ∧ y = zz_nc mo mr mu p0 j := hI
  obtain ⟨ij, iy⟩ := hI
  refine lv_iload_n hx hb dX8_net_4 rfl (lv_at hl 3 rfl) ?_
  refine lv_aload_n hx hb dX8_net_5 rfl (lv_at hl 0 rfl) ?_
  refine va_get (D := (dC, dI)) (ci := 8) (v := .int (nI md)) (C := RX8) (T := TX8) (N := 49) hx hb hw zz_inX8 hown hK hP 0 rfl rfl 33 (by decide) (hw _ tw_206) (fun _ h9 => h9) rfl dX8_net_6 ?_
  refine lv_icmp_ge (tgt := 64) hx hb dX8_net_9 (by decide) (fun c_1 => ?_) (fun c_1 => ?_)
  · have zc_1 := c_1
    rw [Int32.le_iff_toInt_le] at zc_1
    try rw [zz_toInt j (by omega)] at zc_1
    try rw [zz_toInt md (by omega)] at zc_1
    refine lv_iload_n hx hb dX8_net_64 rfl (lv_at hl 2 rfl) ?_
    exact W.iret (v := y) hx hb hr (fun t ht hW => ⟨⟨y, (), rfl, (by rw [show md = j from by omega]; exact iy), trivial⟩, hS.F ht⟩) hS.2.2 dX8_net_65
  · have zc_1 := c_1
    rw [Int32.le_iff_toInt_le] at zc_1
    try rw [zz_toInt j (by omega)] at zc_1
    try rw [zz_toInt md (by omega)] at zc_1
    refine lv_iload_n hx hb dX8_net_12 rfl (lv_at hl 2 rfl) ?_
    refine lv_aload_n hx hb dX8_net_13 rfl (lv_at hl 0 rfl) ?_
    refine va_get (D := (dC, dI)) (ci := 8) (v := .ref (b 36)) (C := RX8) (T := TX8) (N := 49) hx hb hw zz_inX8 hown hK hP 0 rfl rfl 35 (by decide) (hw _ tw_208) (fun _ h9 => h9) rfl dX8_net_14 ?_
    refine lv_iload_n hx hb dX8_net_17 rfl (lv_at hl 3 rfl) ?_
    refine va_iald hx hb hK hP 2 0 rfl rfl (vp_in_iff.mpr (by rw [zz_toInt j (by omega)]; constructor <;> omega)) dX8_net_18 ?_
    refine zz_seti (mr j) (congrArg mr (zz_cl (by omega))) ?_
    refine lv_iload_n hx hb dX8_net_19 rfl (lv_at hl 1 rfl) ?_
    refine lv_icmp_ne (tgt := 32) hx hb dX8_net_20 (by decide) (fun c_2 => ?_) (fun c_2 => ?_)
    · have zc_2 := c_2
      rw [← Int32.toInt_inj] at zc_2
      refine lv_iconst (v := 0) hx hb dX8_net_32 (by decide) ?_
      refine lv_iadd hx hb dX8_net_33 ?_
      refine lv_istore_n (lv' := [(2, .int (y + 0)), (0, .ref (b 0)), (1, .int p0), (3, .int (nI j))]) hx hb dX8_net_34 rfl hl (by decide) rfl (fun ls hl => ?_)
      refine lv_iload_n hx hb dX8_net_35 rfl (lv_at hl 0 rfl) ?_
      refine lv_aload_n hx hb dX8_net_36 rfl (lv_at hl 1 rfl) ?_
      refine va_get (D := (dC, dI)) (ci := 8) (v := .ref (b 35)) (C := RX8) (T := TX8) (N := 49) hx hb hw zz_inX8 hown hK hP 0 rfl rfl 34 (by decide) (hw _ tw_207) (fun _ h9 => h9) rfl dX8_net_37 ?_
      refine lv_iload_n hx hb dX8_net_40 rfl (lv_at hl 3 rfl) ?_
      refine va_iald hx hb hK hP 1 0 rfl rfl (vp_in_iff.mpr (by rw [zz_toInt j (by omega)]; constructor <;> omega)) dX8_net_41 ?_
      refine zz_seti (mo j) (congrArg mo (zz_cl (by omega))) ?_
      refine lv_iload_n hx hb dX8_net_42 rfl (lv_at hl 2 rfl) ?_
      refine lv_icmp_ne (tgt := 55) hx hb dX8_net_43 (by decide) (fun c_3 => ?_) (fun c_3 => ?_)
      · have zc_3 := c_3
        rw [← Int32.toInt_inj] at zc_3
        refine lv_iconst (v := 0) hx hb dX8_net_55 (by decide) ?_
        refine lv_isub hx hb dX8_net_56 ?_
        refine lv_istore_n (lv' := [(2, .int ((y + 0) - 0)), (0, .ref (b 0)), (1, .int p0), (3, .int (nI j))]) hx hb dX8_net_57 rfl hl (by decide) rfl (fun ls hl => ?_)
        refine lv_iinc (v := (nI (j + 1))) (lv' := [(3, .int (nI (j + 1))), (2, .int ((y + 0) - 0)), (0, .ref (b 0)), (1, .int p0)]) hx hb dX8_net_58 hl (k := 3) rfl (nI_1 _) (by decide) rfl (fun ls hl => ?_)
        refine lv_goto (tgt := 4) hx hb dX8_net_61 (by decide) ?_
        exact ih_4 ((j + 1), ((y + 0) - 0)) ⟨by omega, zz_nc_r iy (if_neg c_2).symm (if_neg c_3).symm⟩ (show md - (j + 1) < md - j from by omega) _ _ _ (hP.sub [0, 1, 2, 3, 4] rfl) (hD.sub [0, 1, 2, 3, 4] (by decide) rfl) hS (lv_sub hl [2, 3, 1, 0] rfl)
      · have zc_3 := c_3
        rw [← Int32.toInt_inj] at zc_3
        refine lv_aload_n hx hb dX8_net_46 rfl (lv_at hl 1 rfl) ?_
        refine va_get (D := (dC, dI)) (ci := 8) (v := .ref (b 38)) (C := RX8) (T := TX8) (N := 49) hx hb hw zz_inX8 hown hK hP 0 rfl rfl 37 (by decide) (hw _ tw_210) (fun _ h9 => h9) rfl dX8_net_47 ?_
        refine lv_iload_n hx hb dX8_net_50 rfl (lv_at hl 3 rfl) ?_
        refine va_iald hx hb hK hP 4 0 rfl rfl (vp_in_iff.mpr (by rw [zz_toInt j (by omega)]; constructor <;> omega)) dX8_net_51 ?_
        refine zz_seti (mu j) (congrArg mu (zz_cl (by omega))) ?_
        refine lv_goto (tgt := 56) hx hb dX8_net_52 (by decide) ?_
        refine lv_isub hx hb dX8_net_56 ?_
        refine lv_istore_n (lv' := [(2, .int ((y + 0) - (mu j))), (0, .ref (b 0)), (1, .int p0), (3, .int (nI j))]) hx hb dX8_net_57 rfl hl (by decide) rfl (fun ls hl => ?_)
        refine lv_iinc (v := (nI (j + 1))) (lv' := [(3, .int (nI (j + 1))), (2, .int ((y + 0) - (mu j))), (0, .ref (b 0)), (1, .int p0)]) hx hb dX8_net_58 hl (k := 3) rfl (nI_1 _) (by decide) rfl (fun ls hl => ?_)
        refine lv_goto (tgt := 4) hx hb dX8_net_61 (by decide) ?_
        exact ih_4 ((j + 1), ((y + 0) - (mu j))) ⟨by omega, zz_nc_r iy (if_neg c_2).symm (if_pos c_3).symm⟩ (show md - (j + 1) < md - j from by omega) _ _ _ (hP.sub [0, 1, 2, 3, 4] rfl) (hD.sub [0, 1, 2, 3, 4] (by decide) rfl) hS (lv_sub hl [2, 3, 1, 0] rfl)
    · have zc_2 := c_2
      rw [← Int32.toInt_inj] at zc_2
      refine lv_aload_n hx hb dX8_net_23 rfl (lv_at hl 0 rfl) ?_
      refine va_get (D := (dC, dI)) (ci := 8) (v := .ref (b 38)) (C := RX8) (T := TX8) (N := 49) hx hb hw zz_inX8 hown hK hP 0 rfl rfl 37 (by decide) (hw _ tw_210) (fun _ h9 => h9) rfl dX8_net_24 ?_
      refine lv_iload_n hx hb dX8_net_27 rfl (lv_at hl 3 rfl) ?_
      refine va_iald hx hb hK hP 4 0 rfl rfl (vp_in_iff.mpr (by rw [zz_toInt j (by omega)]; constructor <;> omega)) dX8_net_28 ?_
      refine zz_seti (mu j) (congrArg mu (zz_cl (by omega))) ?_
      refine lv_goto (tgt := 33) hx hb dX8_net_29 (by decide) ?_
      refine lv_iadd hx hb dX8_net_33 ?_
      refine lv_istore_n (lv' := [(2, .int (y + (mu j))), (0, .ref (b 0)), (1, .int p0), (3, .int (nI j))]) hx hb dX8_net_34 rfl hl (by decide) rfl (fun ls hl => ?_)
      refine lv_iload_n hx hb dX8_net_35 rfl (lv_at hl 0 rfl) ?_
      refine lv_aload_n hx hb dX8_net_36 rfl (lv_at hl 1 rfl) ?_
      refine va_get (D := (dC, dI)) (ci := 8) (v := .ref (b 35)) (C := RX8) (T := TX8) (N := 49) hx hb hw zz_inX8 hown hK hP 0 rfl rfl 34 (by decide) (hw _ tw_207) (fun _ h9 => h9) rfl dX8_net_37 ?_
      refine lv_iload_n hx hb dX8_net_40 rfl (lv_at hl 3 rfl) ?_
      refine va_iald hx hb hK hP 1 0 rfl rfl (vp_in_iff.mpr (by rw [zz_toInt j (by omega)]; constructor <;> omega)) dX8_net_41 ?_
      refine zz_seti (mo j) (congrArg mo (zz_cl (by omega))) ?_
      refine lv_iload_n hx hb dX8_net_42 rfl (lv_at hl 2 rfl) ?_
      refine lv_icmp_ne (tgt := 55) hx hb dX8_net_43 (by decide) (fun c_4 => ?_) (fun c_4 => ?_)
      · have zc_4 := c_4
        rw [← Int32.toInt_inj] at zc_4
        refine lv_iconst (v := 0) hx hb dX8_net_55 (by decide) ?_
        refine lv_isub hx hb dX8_net_56 ?_
        refine lv_istore_n (lv' := [(2, .int ((y + (mu j)) - 0)), (0, .ref (b 0)), (1, .int p0), (3, .int (nI j))]) hx hb dX8_net_57 rfl hl (by decide) rfl (fun ls hl => ?_)
        refine lv_iinc (v := (nI (j + 1))) (lv' := [(3, .int (nI (j + 1))), (2, .int ((y + (mu j)) - 0)), (0, .ref (b 0)), (1, .int p0)]) hx hb dX8_net_58 hl (k := 3) rfl (nI_1 _) (by decide) rfl (fun ls hl => ?_)
        refine lv_goto (tgt := 4) hx hb dX8_net_61 (by decide) ?_
        exact ih_4 ((j + 1), ((y + (mu j)) - 0)) ⟨by omega, zz_nc_r iy (if_pos c_2).symm (if_neg c_4).symm⟩ (show md - (j + 1) < md - j from by omega) _ _ _ (hP.sub [0, 1, 2, 3, 4] rfl) (hD.sub [0, 1, 2, 3, 4] (by decide) rfl) hS (lv_sub hl [2, 3, 1, 0] rfl)
      · have zc_4 := c_4
        rw [← Int32.toInt_inj] at zc_4
        refine lv_aload_n hx hb dX8_net_46 rfl (lv_at hl 1 rfl) ?_
        refine va_get (D := (dC, dI)) (ci := 8) (v := .ref (b 38)) (C := RX8) (T := TX8) (N := 49) hx hb hw zz_inX8 hown hK hP 0 rfl rfl 37 (by decide) (hw _ tw_210) (fun _ h9 => h9) rfl dX8_net_47 ?_
        refine lv_iload_n hx hb dX8_net_50 rfl (lv_at hl 3 rfl) ?_
        refine va_iald hx hb hK hP 4 0 rfl rfl (vp_in_iff.mpr (by rw [zz_toInt j (by omega)]; constructor <;> omega)) dX8_net_51 ?_
        refine zz_seti (mu j) (congrArg mu (zz_cl (by omega))) ?_
        refine lv_goto (tgt := 56) hx hb dX8_net_52 (by decide) ?_
        refine lv_isub hx hb dX8_net_56 ?_
        refine lv_istore_n (lv' := [(2, .int ((y + (mu j)) - (mu j))), (0, .ref (b 0)), (1, .int p0), (3, .int (nI j))]) hx hb dX8_net_57 rfl hl (by decide) rfl (fun ls hl => ?_)
        refine lv_iinc (v := (nI (j + 1))) (lv' := [(3, .int (nI (j + 1))), (2, .int ((y + (mu j)) - (mu j))), (0, .ref (b 0)), (1, .int p0)]) hx hb dX8_net_58 hl (k := 3) rfl (nI_1 _) (by decide) rfl (fun ls hl => ?_)
        refine lv_goto (tgt := 4) hx hb dX8_net_61 (by decide) ?_
        exact ih_4 ((j + 1), ((y + (mu j)) - (mu j))) ⟨by omega, zz_nc_r iy (if_pos c_2).symm (if_pos c_4).symm⟩ (show md - (j + 1) < md - j from by omega) _ _ _ (hP.sub [0, 1, 2, 3, 4] rfl) (hD.sub [0, 1, 2, 3, 4] (by decide) rfl) hS (lv_sub hl [2, 3, 1, 0] rfl)
set_option maxHeartbeats 4000000 in
set_option maxRecDepth 100000 in
theorem mx_owes (l : Launch) (dC : Nat → ClassId) (dI : Nat → Nat → Nat) (b : Nat → Nat) (gg : Nat → Int32) (mt : Nat) (mc : Nat) (mh : Nat) (mf : Nat) (md : Nat) (cI : ClassId) (mo : Nat → Int32) (mr : Nat → Int32) (my : Nat → Int32) (mu : Nat → Int32) (p0 : Int32) (p1 : Int32) (sz : Nat) (hmh : mh ≤ 8) (hmd : md ≤ 300) : Met l yX8_owes (zz_w yX8_owes cX8_owes 3 (some .int)) ({ frames := 2, cells := 0, slots := 0, locals := 46 }) (va_Pc [.ref (b 0), .int p0, .int p1] (zz_B (dC, dI) sz [(b 0, .inr (8, [.ref (b 1), .int (nI mt), .int (gg 2), .int (gg 3), .int (gg 4), .int (gg 5), .int (gg 6), .int (gg 7), .int (gg 8), .int (gg 9), .ref (b 11), .ref (b 12), .ref (b 13), .int (nI mc), .int (nI mh), .ref (b 16), .ref (b 17), .ref (b 18), .ref (b 19), .ref (b 20), .ref (b 21), .ref (b 22), .ref (b 23), .ref (b 24), .int (nI mf), .ref (b 26), .ref (b 27), .ref (b 28), .ref (b 29), .ref (b 30), .ref (b 31), .ref (b 32), .int (gg 32), .int (nI md), .ref (b 35), .ref (b 36), .ref (b 37), .ref (b 38), .ref (b 39), .ref (b 40), .int (gg 40), .ref (b 42), .ref (b 43), .ref (b 44), .int (gg 44), .ref (b 46), .ref (b 47), .int (gg 47), .ref (b 49)])), (b 35, .inl (cI, 300, .inl mo)), (b 36, .inl (cI, 300, .inl mr)), (b 37, .inl (cI, 300, .inl my)), (b 38, .inl (cI, 300, .inl mu))] [(cI, .int)])) (va_Qi (fun (r : Int32) (_ : Unit) => ((¬ p0 = p1 ∧ (0 ≤ p0.toInt ∧ p0.toInt < (mh : Int)) ∧ (0 ≤ p1.toInt ∧ p1.toInt < (mh : Int))) ∧ r = zz_su mo mr mu p0 p1 md) ∨ (¬ (¬ p0 = p1 ∧ (0 ≤ p0.toInt ∧ p0.toInt < (mh : Int)) ∧ (0 ≤ p1.toInt ∧ p1.toInt < (mh : Int))) ∧ r = -1)) (fun _ _ => True) (va_A [] sz)) 0 0 (va_A [] sz) := by
  refine Met.ofW (cc := cX8_owes) (maxL := 3) (ret := (some .int)) (by decide) rfl ?_
  intro p e s m args below meth c s₁ B hml hv
  obtain ⟨rfl, hsz, hP, hK, hD0, hN⟩ := hv
  have hx := B.exec
  have hb := B.bytes
  have hr := B.returns
  have hts := atoms_spec (ws := zz_w yX8_owes cX8_owes 3 (some .int)) B.pre
  have hw : ∀ w ∈ zz_all, w.before _ s = true := fun w h => hts w (List.mem_cons_of_mem _ h)
  have hown : s.vm.findClass RX8 = some m.cls := findClass_of_methodNamed B.named
  have hlocks := B.notSynchronized
  subst hsz
  have hD := hD0
  generalize hAe : va_A [] s.heap.size = A
  have hA : ∀ q : Nat, s.heap.size ≤ q → A q := fun q h => by rw [← hAe]; exact Or.inr h
  have hS : va_S A s.heap s.heap [] := va_S.rf
  have hP : va_P (dC, dI) vwCl [(b 0, .inr (8, [.ref (b 1), .int (nI mt), .int (gg 2), .int (gg 3), .int (gg 4), .int (gg 5), .int (gg 6), .int (gg 7), .int (gg 8), .int (gg 9), .ref (b 11), .ref (b 12), .ref (b 13), .int (nI mc), .int (nI mh), .ref (b 16), .ref (b 17), .ref (b 18), .ref (b 19), .ref (b 20), .ref (b 21), .ref (b 22), .ref (b 23), .ref (b 24), .int (nI mf), .ref (b 26), .ref (b 27), .ref (b 28), .ref (b 29), .ref (b 30), .ref (b 31), .ref (b 32), .int (gg 32), .int (nI md), .ref (b 35), .ref (b 36), .ref (b 37), .ref (b 38), .ref (b 39), .ref (b 40), .int (gg 40), .ref (b 42), .ref (b 43), .ref (b 44), .int (gg 44), .ref (b 46), .ref (b 47), .int (gg 47), .ref (b 49)])), (b 35, .inl (cI, 300, .inl mo)), (b 36, .inl (cI, 300, .inl mr)), (b 37, .inl (cI, 300, .inl my)), (b 38, .inl (cI, 300, .inl mu))] s.heap := hP
  have hl := lv_entry ([.ref (b 0), .int p0, .int p1]) (n := 3) (Nat.le_of_ble_eq_true rfl)
  rw [lg_entry_eq]
  generalize (lg_sl ([.ref (b 0), .int p0, .int p1]) ++ List.replicate (3 - (lg_sl ([.ref (b 0), .int p0, .int p1])).length) Slot.unset).toArray = ls at hl ⊢
  have hl : lv_has ls 3 [(0, .ref (b 0)), (1, .int p0), (2, .int p1)] := hl
  refine lv_aload_n hx hb dX8_owes_0 rfl (lv_at hl 0 rfl) ?_
  refine lv_iload_n hx hb dX8_owes_1 rfl (lv_at hl 1 rfl) ?_
  obtain ⟨hPc, hDc⟩ := zz_sub2 (ws' := [(b 0, .inr (8, [.ref (b 1), .int (nI mt), .int (gg 2), .int (gg 3), .int (gg 4), .int (gg 5), .int (gg 6), .int (gg 7), .int (gg 8), .int (gg 9), .ref (b 11), .ref (b 12), .ref (b 13), .int (nI mc), .int (nI mh), .ref (b 16), .ref (b 17), .ref (b 18), .ref (b 19), .ref (b 20), .ref (b 21), .ref (b 22), .ref (b 23), .ref (b 24), .int (nI mf), .ref (b 26), .ref (b 27), .ref (b 28), .ref (b 29), .ref (b 30), .ref (b 31), .ref (b 32), .int (gg 32), .int (nI md), .ref (b 35), .ref (b 36), .ref (b 37), .ref (b 38), .ref (b 39), .ref (b 40), .int (gg 40), .ref (b 42), .ref (b 43), .ref (b 44), .int (gg 44), .ref (b 46), .ref (b 47), .int (gg 47), .ref (b 49)]))]) hP hD [0] (by decide) rfl
  have hKc := hK.sub (tys' := []) [] rfl
  have hFc := zz_free0 hS hA
  refine va_calli (va_runV (As := [.int p0]) (rest := []) ⟨hx, hb, hml, hown, hw⟩ (m_isHouse l dC dI b gg mt mc mh mf md p0 s.heap.size (by omega)) ⟨callB_of 1 hw (zz_good tw_197) rfl rfl rfl (hw _ tw_184) (hw _ tw_198) (by decide +kernel) ⟨Nat.le_of_ble_eq_true rfl, Nat.le_of_ble_eq_true rfl⟩, (hw _ tw_199), (hw _ tw_200)⟩ ⟨zz_blind, va_recv hKc hPc (ci := 8) (q0 := 0) rfl rfl, zz_pre hPc hKc hDc hN⟩ rfl rfl hl.1 rfl (lv_room (Nat.le_of_ble_eq_true rfl)) dX8_owes_2 ⟨Nat.le_of_ble_eq_true rfl, Nat.le_of_ble_eq_true rfl⟩) hS (fun q _ h => hFc q h) hFc (fun r_1 u_1 t H1 locs ht hvm e_1 hB hz1 hk1 hS => ?_)
  try dsimp only at e_1
  have hP := zz_keep hP hk1
  clear hk1 hB ht hvm
  generalize H1 = H at hP hS ⊢
  rcases e_1 with ⟨n1_1, er_1⟩ | ⟨n1_1, er_1⟩
  · refine zz_seti 1 er_1 ?_
    refine lv_if_eq (tgt := 21) hx hb dX8_owes_5 (by decide) (fun c_9 => absurd c_9 (by decide)) (fun _ => ?_)
    refine lv_aload_n hx hb dX8_owes_8 rfl (lv_at hl 0 rfl) ?_
    refine lv_iload_n hx hb dX8_owes_9 rfl (lv_at hl 2 rfl) ?_
    obtain ⟨hPc, hDc⟩ := zz_sub2 (ws' := [(b 0, .inr (8, [.ref (b 1), .int (nI mt), .int (gg 2), .int (gg 3), .int (gg 4), .int (gg 5), .int (gg 6), .int (gg 7), .int (gg 8), .int (gg 9), .ref (b 11), .ref (b 12), .ref (b 13), .int (nI mc), .int (nI mh), .ref (b 16), .ref (b 17), .ref (b 18), .ref (b 19), .ref (b 20), .ref (b 21), .ref (b 22), .ref (b 23), .ref (b 24), .int (nI mf), .ref (b 26), .ref (b 27), .ref (b 28), .ref (b 29), .ref (b 30), .ref (b 31), .ref (b 32), .int (gg 32), .int (nI md), .ref (b 35), .ref (b 36), .ref (b 37), .ref (b 38), .ref (b 39), .ref (b 40), .int (gg 40), .ref (b 42), .ref (b 43), .ref (b 44), .int (gg 44), .ref (b 46), .ref (b 47), .int (gg 47), .ref (b 49)]))]) hP hD [0] (by decide) rfl
    have hKc := hK.sub (tys' := []) [] rfl
    have hFc := zz_free0 hS hA
    refine va_calli (va_runV (As := [.int p1]) (rest := []) ⟨hx, hb, hml, hown, hw⟩ (m_isHouse l dC dI b gg mt mc mh mf md p1 H.size (by omega)) ⟨callB_of 1 hw (zz_good tw_197) rfl rfl rfl (hw _ tw_184) (hw _ tw_198) (by decide +kernel) ⟨Nat.le_of_ble_eq_true rfl, Nat.le_of_ble_eq_true rfl⟩, (hw _ tw_199), (hw _ tw_200)⟩ ⟨zz_blind, va_recv hKc hPc (ci := 8) (q0 := 0) rfl rfl, zz_pre hPc hKc hDc hN⟩ rfl rfl hl.1 rfl (lv_room (Nat.le_of_ble_eq_true rfl)) dX8_owes_10 ⟨Nat.le_of_ble_eq_true rfl, Nat.le_of_ble_eq_true rfl⟩) hS (fun q _ h => hFc q h) hFc (fun r_2 u_2 t H1 locs ht hvm e_2 hB hz1 hk1 hS => ?_)
    try dsimp only at e_2
    have hP := zz_keep hP hk1
    clear hk1 hB ht hvm
    generalize H1 = H at hP hS ⊢
    rcases e_2 with ⟨n1_2, er_2⟩ | ⟨n1_2, er_2⟩
    · refine zz_seti 1 er_2 ?_
      refine lv_if_eq (tgt := 21) hx hb dX8_owes_13 (by decide) (fun c_9 => absurd c_9 (by decide)) (fun _ => ?_)
      refine lv_iload_n hx hb dX8_owes_16 rfl (lv_at hl 1 rfl) ?_
      refine lv_iload_n hx hb dX8_owes_17 rfl (lv_at hl 2 rfl) ?_
      refine lv_icmp_ne (tgt := 25) hx hb dX8_owes_18 (by decide) (fun c_3 => ?_) (fun c_3 => ?_)
      · have zc_3 := c_3
        rw [← Int32.toInt_inj] at zc_3
        refine lv_aload_n hx hb dX8_owes_25 rfl (lv_at hl 0 rfl) ?_
        refine lv_iload_n hx hb dX8_owes_26 rfl (lv_at hl 1 rfl) ?_
        refine lv_iload_n hx hb dX8_owes_27 rfl (lv_at hl 2 rfl) ?_
        obtain ⟨hPc, hDc⟩ := zz_sub2 (ws' := [(b 0, .inr (8, [.ref (b 1), .int (nI mt), .int (gg 2), .int (gg 3), .int (gg 4), .int (gg 5), .int (gg 6), .int (gg 7), .int (gg 8), .int (gg 9), .ref (b 11), .ref (b 12), .ref (b 13), .int (nI mc), .int (nI mh), .ref (b 16), .ref (b 17), .ref (b 18), .ref (b 19), .ref (b 20), .ref (b 21), .ref (b 22), .ref (b 23), .ref (b 24), .int (nI mf), .ref (b 26), .ref (b 27), .ref (b 28), .ref (b 29), .ref (b 30), .ref (b 31), .ref (b 32), .int (gg 32), .int (nI md), .ref (b 35), .ref (b 36), .ref (b 37), .ref (b 38), .ref (b 39), .ref (b 40), .int (gg 40), .ref (b 42), .ref (b 43), .ref (b 44), .int (gg 44), .ref (b 46), .ref (b 47), .int (gg 47), .ref (b 49)])), (b 35, .inl (cI, 300, .inl mo)), (b 36, .inl (cI, 300, .inl mr)), (b 37, .inl (cI, 300, .inl my)), (b 38, .inl (cI, 300, .inl mu))]) hP hD [0, 1, 2, 3, 4] (by decide) rfl
        have hKc := hK.sub (tys' := [(cI, .int)]) [0] rfl
        have hFc := zz_free0 hS hA
        refine va_calli (va_runV (As := [.int p0, .int p1]) (rest := []) ⟨hx, hb, hml, hown, hw⟩ (mx_owed l dC dI b gg mt mc mh mf md cI mo mr my mu p0 p1 H.size (by omega)) ⟨callB_of 2 hw (zz_good tw_211) rfl rfl rfl (hw _ tw_184) (hw _ tw_212) (by decide +kernel) ⟨Nat.le_of_ble_eq_true rfl, Nat.le_of_ble_eq_true rfl⟩, (hw _ tw_213), (hw _ tw_214)⟩ ⟨zz_blind, va_recv hKc hPc (ci := 8) (q0 := 0) rfl rfl, zz_pre hPc hKc hDc hN⟩ rfl rfl hl.1 rfl (lv_room (Nat.le_of_ble_eq_true rfl)) dX8_owes_28 ⟨Nat.le_of_ble_eq_true rfl, Nat.le_of_ble_eq_true rfl⟩) hS (fun q _ h => hFc q h) hFc (fun r_4 u_4 t H1 locs ht hvm e_4 hB hz1 hk1 hS => ?_)
        try dsimp only at e_4
        have hP := zz_keep hP hk1
        clear hk1 hB ht hvm
        generalize H1 = H at hP hS ⊢
        refine zz_seti (zz_su mo mr mu p0 p1 md) e_4 ?_
        exact W.iret (v := (zz_su mo mr mu p0 p1 md)) hx hb hr (fun t ht hW => ⟨⟨(zz_su mo mr mu p0 p1 md), (), rfl, (Or.inl ⟨⟨c_3, by omega, by omega⟩, rfl⟩), trivial⟩, hS.F ht⟩) hS.2.2 dX8_owes_31
      · have zc_3 := c_3
        rw [← Int32.toInt_inj] at zc_3
        refine lv_iconst (v := (-1)) hx hb dX8_owes_21 (by decide) ?_
        refine lv_goto (tgt := 31) hx hb dX8_owes_22 (by decide) ?_
        exact W.iret (v := (-1)) hx hb hr (fun t ht hW => ⟨⟨(-1), (), rfl, (Or.inr ⟨(fun h9 => by have h8 := h9.1; first | omega | exact h8 (by assumption)), rfl⟩), trivial⟩, hS.F ht⟩) hS.2.2 dX8_owes_31
    · refine zz_seti 0 er_2 ?_
      refine lv_if_eq (tgt := 21) hx hb dX8_owes_13 (by decide) (fun _ => ?_) (fun c_9 => absurd c_9 (by decide))
      refine lv_iconst (v := (-1)) hx hb dX8_owes_21 (by decide) ?_
      refine lv_goto (tgt := 31) hx hb dX8_owes_22 (by decide) ?_
      exact W.iret (v := (-1)) hx hb hr (fun t ht hW => ⟨⟨(-1), (), rfl, (Or.inr ⟨(fun h9 => by have h8 := h9.1; first | omega | exact h8 (by assumption)), rfl⟩), trivial⟩, hS.F ht⟩) hS.2.2 dX8_owes_31
  · refine zz_seti 0 er_1 ?_
    refine lv_if_eq (tgt := 21) hx hb dX8_owes_5 (by decide) (fun _ => ?_) (fun c_9 => absurd c_9 (by decide))
    refine lv_iconst (v := (-1)) hx hb dX8_owes_21 (by decide) ?_
    refine lv_goto (tgt := 31) hx hb dX8_owes_22 (by decide) ?_
    exact W.iret (v := (-1)) hx hb hr (fun t ht hW => ⟨⟨(-1), (), rfl, (Or.inr ⟨(fun h9 => by have h8 := h9.1; first | omega | exact h8 (by assumption)), rfl⟩), trivial⟩, hS.F ht⟩) hS.2.2 dX8_owes_31
set_option maxHeartbeats 4000000 in
set_option maxRecDepth 100000 in
theorem mx_oldest (l : Launch) (dC : Nat → ClassId) (dI : Nat → Nat → Nat) (b : Nat → Nat) (gg : Nat → Int32) (mt : Nat) (mc : Nat) (mh : Nat) (mf : Nat) (md : Nat) (cI : ClassId) (mo : Nat → Int32) (mr : Nat → Int32) (my : Nat → Int32) (mu : Nat → Int32) (p0 : Int32) (p1 : Int32) (sz : Nat) (hmh : mh ≤ 8) (hmd : md ≤ 300) : Met l yX8_oldest (zz_w yX8_oldest cX8_oldest 4 (some .int)) ({ frames := 2, cells := 0, slots := 0, locals := 46 }) (va_Pc [.ref (b 0), .int p0, .int p1] (zz_B (dC, dI) sz [(b 0, .inr (8, [.ref (b 1), .int (nI mt), .int (gg 2), .int (gg 3), .int (gg 4), .int (gg 5), .int (gg 6), .int (gg 7), .int (gg 8), .int (gg 9), .ref (b 11), .ref (b 12), .ref (b 13), .int (nI mc), .int (nI mh), .ref (b 16), .ref (b 17), .ref (b 18), .ref (b 19), .ref (b 20), .ref (b 21), .ref (b 22), .ref (b 23), .ref (b 24), .int (nI mf), .ref (b 26), .ref (b 27), .ref (b 28), .ref (b 29), .ref (b 30), .ref (b 31), .ref (b 32), .int (gg 32), .int (nI md), .ref (b 35), .ref (b 36), .ref (b 37), .ref (b 38), .ref (b 39), .ref (b 40), .int (gg 40), .ref (b 42), .ref (b 43), .ref (b 44), .int (gg 44), .ref (b 46), .ref (b 47), .int (gg 47), .ref (b 49)])), (b 35, .inl (cI, 300, .inl mo)), (b 36, .inl (cI, 300, .inl mr)), (b 37, .inl (cI, 300, .inl my)), (b 38, .inl (cI, 300, .inl mu))] [(cI, .int)])) (va_Qi (fun (r : Int32) (_ : Unit) => (((0 ≤ p0.toInt ∧ p0.toInt < (mh : Int)) ∧ (0 ≤ p1.toInt ∧ p1.toInt < (mh : Int))) ∧ zz_ft1 mo mr my p0 p1 md r) ∨ (¬ ((0 ≤ p0.toInt ∧ p0.toInt < (mh : Int)) ∧ (0 ≤ p1.toInt ∧ p1.toInt < (mh : Int))) ∧ r = -1)) (fun _ _ => True) (va_A [] sz)) 0 0 (va_A [] sz) := by
  refine Met.ofW (cc := cX8_oldest) (maxL := 4) (ret := (some .int)) (by decide) rfl ?_
  intro p e s m args below meth c s₁ B hml hv
  obtain ⟨rfl, hsz, hP, hK, hD0, hN⟩ := hv
  have hx := B.exec
  have hb := B.bytes
  have hr := B.returns
  have hts := atoms_spec (ws := zz_w yX8_oldest cX8_oldest 4 (some .int)) B.pre
  have hw : ∀ w ∈ zz_all, w.before _ s = true := fun w h => hts w (List.mem_cons_of_mem _ h)
  have hown : s.vm.findClass RX8 = some m.cls := findClass_of_methodNamed B.named
  have hlocks := B.notSynchronized
  subst hsz
  have hD := hD0
  generalize hAe : va_A [] s.heap.size = A
  have hA : ∀ q : Nat, s.heap.size ≤ q → A q := fun q h => by rw [← hAe]; exact Or.inr h
  have hS : va_S A s.heap s.heap [] := va_S.rf
  have hP : va_P (dC, dI) vwCl [(b 0, .inr (8, [.ref (b 1), .int (nI mt), .int (gg 2), .int (gg 3), .int (gg 4), .int (gg 5), .int (gg 6), .int (gg 7), .int (gg 8), .int (gg 9), .ref (b 11), .ref (b 12), .ref (b 13), .int (nI mc), .int (nI mh), .ref (b 16), .ref (b 17), .ref (b 18), .ref (b 19), .ref (b 20), .ref (b 21), .ref (b 22), .ref (b 23), .ref (b 24), .int (nI mf), .ref (b 26), .ref (b 27), .ref (b 28), .ref (b 29), .ref (b 30), .ref (b 31), .ref (b 32), .int (gg 32), .int (nI md), .ref (b 35), .ref (b 36), .ref (b 37), .ref (b 38), .ref (b 39), .ref (b 40), .int (gg 40), .ref (b 42), .ref (b 43), .ref (b 44), .int (gg 44), .ref (b 46), .ref (b 47), .int (gg 47), .ref (b 49)])), (b 35, .inl (cI, 300, .inl mo)), (b 36, .inl (cI, 300, .inl mr)), (b 37, .inl (cI, 300, .inl my)), (b 38, .inl (cI, 300, .inl mu))] s.heap := hP
  have hl := lv_entry ([.ref (b 0), .int p0, .int p1]) (n := 4) (Nat.le_of_ble_eq_true rfl)
  rw [lg_entry_eq]
  generalize (lg_sl ([.ref (b 0), .int p0, .int p1]) ++ List.replicate (4 - (lg_sl ([.ref (b 0), .int p0, .int p1])).length) Slot.unset).toArray = ls at hl ⊢
  have hl : lv_has ls 4 [(0, .ref (b 0)), (1, .int p0), (2, .int p1)] := hl
  refine lv_aload_n hx hb dX8_oldest_0 rfl (lv_at hl 0 rfl) ?_
  refine lv_iload_n hx hb dX8_oldest_1 rfl (lv_at hl 1 rfl) ?_
  obtain ⟨hPc, hDc⟩ := zz_sub2 (ws' := [(b 0, .inr (8, [.ref (b 1), .int (nI mt), .int (gg 2), .int (gg 3), .int (gg 4), .int (gg 5), .int (gg 6), .int (gg 7), .int (gg 8), .int (gg 9), .ref (b 11), .ref (b 12), .ref (b 13), .int (nI mc), .int (nI mh), .ref (b 16), .ref (b 17), .ref (b 18), .ref (b 19), .ref (b 20), .ref (b 21), .ref (b 22), .ref (b 23), .ref (b 24), .int (nI mf), .ref (b 26), .ref (b 27), .ref (b 28), .ref (b 29), .ref (b 30), .ref (b 31), .ref (b 32), .int (gg 32), .int (nI md), .ref (b 35), .ref (b 36), .ref (b 37), .ref (b 38), .ref (b 39), .ref (b 40), .int (gg 40), .ref (b 42), .ref (b 43), .ref (b 44), .int (gg 44), .ref (b 46), .ref (b 47), .int (gg 47), .ref (b 49)]))]) hP hD [0] (by decide) rfl
  have hKc := hK.sub (tys' := []) [] rfl
  have hFc := zz_free0 hS hA
  refine va_calli (va_runV (As := [.int p0]) (rest := []) ⟨hx, hb, hml, hown, hw⟩ (m_isHouse l dC dI b gg mt mc mh mf md p0 s.heap.size (by omega)) ⟨callB_of 1 hw (zz_good tw_197) rfl rfl rfl (hw _ tw_184) (hw _ tw_198) (by decide +kernel) ⟨Nat.le_of_ble_eq_true rfl, Nat.le_of_ble_eq_true rfl⟩, (hw _ tw_199), (hw _ tw_200)⟩ ⟨zz_blind, va_recv hKc hPc (ci := 8) (q0 := 0) rfl rfl, zz_pre hPc hKc hDc hN⟩ rfl rfl hl.1 rfl (lv_room (Nat.le_of_ble_eq_true rfl)) dX8_oldest_2 ⟨Nat.le_of_ble_eq_true rfl, Nat.le_of_ble_eq_true rfl⟩) hS (fun q _ h => hFc q h) hFc (fun r_1 u_1 t H1 locs ht hvm e_1 hB hz1 hk1 hS => ?_)
  try dsimp only at e_1
  have hP := zz_keep hP hk1
  clear hk1 hB ht hvm
  generalize H1 = H at hP hS ⊢
  rcases e_1 with ⟨n1_1, er_1⟩ | ⟨n1_1, er_1⟩
  · refine zz_seti 1 er_1 ?_
    refine lv_if_eq (tgt := 16) hx hb dX8_oldest_5 (by decide) (fun c_9 => absurd c_9 (by decide)) (fun _ => ?_)
    refine lv_aload_n hx hb dX8_oldest_8 rfl (lv_at hl 0 rfl) ?_
    refine lv_iload_n hx hb dX8_oldest_9 rfl (lv_at hl 2 rfl) ?_
    obtain ⟨hPc, hDc⟩ := zz_sub2 (ws' := [(b 0, .inr (8, [.ref (b 1), .int (nI mt), .int (gg 2), .int (gg 3), .int (gg 4), .int (gg 5), .int (gg 6), .int (gg 7), .int (gg 8), .int (gg 9), .ref (b 11), .ref (b 12), .ref (b 13), .int (nI mc), .int (nI mh), .ref (b 16), .ref (b 17), .ref (b 18), .ref (b 19), .ref (b 20), .ref (b 21), .ref (b 22), .ref (b 23), .ref (b 24), .int (nI mf), .ref (b 26), .ref (b 27), .ref (b 28), .ref (b 29), .ref (b 30), .ref (b 31), .ref (b 32), .int (gg 32), .int (nI md), .ref (b 35), .ref (b 36), .ref (b 37), .ref (b 38), .ref (b 39), .ref (b 40), .int (gg 40), .ref (b 42), .ref (b 43), .ref (b 44), .int (gg 44), .ref (b 46), .ref (b 47), .int (gg 47), .ref (b 49)]))]) hP hD [0] (by decide) rfl
    have hKc := hK.sub (tys' := []) [] rfl
    have hFc := zz_free0 hS hA
    refine va_calli (va_runV (As := [.int p1]) (rest := []) ⟨hx, hb, hml, hown, hw⟩ (m_isHouse l dC dI b gg mt mc mh mf md p1 H.size (by omega)) ⟨callB_of 1 hw (zz_good tw_197) rfl rfl rfl (hw _ tw_184) (hw _ tw_198) (by decide +kernel) ⟨Nat.le_of_ble_eq_true rfl, Nat.le_of_ble_eq_true rfl⟩, (hw _ tw_199), (hw _ tw_200)⟩ ⟨zz_blind, va_recv hKc hPc (ci := 8) (q0 := 0) rfl rfl, zz_pre hPc hKc hDc hN⟩ rfl rfl hl.1 rfl (lv_room (Nat.le_of_ble_eq_true rfl)) dX8_oldest_10 ⟨Nat.le_of_ble_eq_true rfl, Nat.le_of_ble_eq_true rfl⟩) hS (fun q _ h => hFc q h) hFc (fun r_2 u_2 t H1 locs ht hvm e_2 hB hz1 hk1 hS => ?_)
    try dsimp only at e_2
    have hP := zz_keep hP hk1
    clear hk1 hB ht hvm
    generalize H1 = H at hP hS ⊢
    rcases e_2 with ⟨n1_2, er_2⟩ | ⟨n1_2, er_2⟩
    · refine zz_seti 1 er_2 ?_
      refine lv_if_ne (tgt := 18) hx hb dX8_oldest_13 (by decide) (fun _ => ?_) (fun c_9 => absurd c_9 (by decide))
      refine lv_iconst (v := 0) hx hb dX8_oldest_18 (by decide) ?_
      refine lv_istore_n (lv' := [(3, .int 0), (0, .ref (b 0)), (1, .int p0), (2, .int p1)]) hx hb dX8_oldest_19 rfl hl (by decide) rfl (fun ls hl => ?_)
      refine zz_loopS (fun (j : (Nat)) => [(b 0, .inr (8, [.ref (b 1), .int (nI mt), .int (gg 2), .int (gg 3), .int (gg 4), .int (gg 5), .int (gg 6), .int (gg 7), .int (gg 8), .int (gg 9), .ref (b 11), .ref (b 12), .ref (b 13), .int (nI mc), .int (nI mh), .ref (b 16), .ref (b 17), .ref (b 18), .ref (b 19), .ref (b 20), .ref (b 21), .ref (b 22), .ref (b 23), .ref (b 24), .int (nI mf), .ref (b 26), .ref (b 27), .ref (b 28), .ref (b 29), .ref (b 30), .ref (b 31), .ref (b 32), .int (gg 32), .int (nI md), .ref (b 35), .ref (b 36), .ref (b 37), .ref (b 38), .ref (b 39), .ref (b 40), .int (gg 40), .ref (b 42), .ref (b 43), .ref (b 44), .int (gg 44), .ref (b 46), .ref (b 47), .int (gg 47), .ref (b 49)])), (b 35, .inl (cI, 300, .inl mo)), (b 36, .inl (cI, 300, .inl mr)), (b 37, .inl (cI, 300, .inl my)), (b 38, .inl (cI, 300, .inl mu))]) (fun (j : (Nat)) => [(0, .ref (b 0)), (1, .int p0), (2, .int p1), (3, .int (nI j))]) (fun (j : (Nat)) => j ≤ md ∧ ∀ i : Nat, i < j → ¬ (mo i = p0 ∧ mr i = p1)) (fun (j : (Nat)) => md - j) (fun u hI H locs ls hP hD hS hl ih_20 => ?_) 0 ⟨by omega, fun i hi => absurd hi (Nat.not_lt_zero _)⟩ _ _ _ (hP.sub [0, 1, 2, 3, 4] rfl) (hD.sub [0, 1, 2, 3, 4] (by decide) rfl) hS (lv_sub hl [1, 2, 3, 0] rfl)
      obtain ⟨j, rfl⟩ : ∃ z, z = u := ⟨_, rfl⟩
      obtain ⟨hP, hD⟩ := zz_ty (D := (dC, dI)) (cl := vwCl) (A := (fun _ => True)) (H := H) [(b 0, .inr (8, [.ref (b 1), .int (nI mt), .int (gg 2), .int (gg 3), .int (gg 4), .int (gg 5), .int (gg 6), .int (gg 7), .int (gg 8), .int (gg 9), .ref (b 11), .ref (b 12), .ref (b 13), .int (nI mc), .int (nI mh), .ref (b 16), .ref (b 17), .ref (b 18), .ref (b 19), .ref (b 20), .ref (b 21), .ref (b 22), .ref (b 23), .ref (b 24), .int (nI mf), .ref (b 26), .ref (b 27), .ref (b 28), .ref (b 29), .ref (b 30), .ref (b 31), .ref (b 32), .int (gg 32), .int (nI md), .ref (b 35), .ref (b 36), .ref (b 37), .ref (b 38), .ref (b 39), .ref (b 40), .int (gg 40), .ref (b 42), .ref (b 43), .ref (b 44), .int (gg 44), .ref (b 46), .ref (b 47), .int (gg 47), .ref (b 49)])), (b 35, .inl (cI, 300, .inl mo)), (b 36, .inl (cI, 300, .inl mr)), (b 37, .inl (cI, 300, .inl my)), (b 38, .inl (cI, 300, .inl mu))] hP hD rfl
      have hl : lv_has ls 4 [(0, .ref (b 0)), (1, .int p0), (2, .int p1), (3, .int (nI j))] := hl
      have hI : j ≤ md ∧ ∀ i : Nat, i < j → ¬ (mo i = p0 ∧ mr i = p1) := hI
      obtain ⟨ij, ia⟩ := hI
      refine lv_iload_n hx hb dX8_oldest_20 rfl (lv_at hl 3 rfl) ?_
      refine lv_aload_n hx hb dX8_oldest_21 rfl (lv_at hl 0 rfl) ?_
      refine va_get (D := (dC, dI)) (ci := 8) (v := .int (nI md)) (C := RX8) (T := TX8) (N := 49) hx hb hw zz_inX8 hown hK hP 0 rfl rfl 33 (by decide) (hw _ tw_206) (fun _ h9 => h9) rfl dX8_oldest_22 ?_
      refine lv_icmp_ge (tgt := 61) hx hb dX8_oldest_25 (by decide) (fun c_3 => ?_) (fun c_3 => ?_)
      · have zc_3 := c_3
        rw [Int32.le_iff_toInt_le] at zc_3
        try rw [zz_toInt j (by omega)] at zc_3
        try rw [zz_toInt md (by omega)] at zc_3
        refine lv_iconst (v := (-1)) hx hb dX8_oldest_61 (by decide) ?_
        exact W.iret (v := (-1)) hx hb hr (fun t ht hW => ⟨⟨(-1), (), rfl, (Or.inl ⟨by omega, Or.inr ⟨fun i hi => ia i (by omega), rfl⟩⟩), trivial⟩, hS.F ht⟩) hS.2.2 dX8_oldest_62
      · have zc_3 := c_3
        rw [Int32.le_iff_toInt_le] at zc_3
        try rw [zz_toInt j (by omega)] at zc_3
        try rw [zz_toInt md (by omega)] at zc_3
        refine lv_aload_n hx hb dX8_oldest_28 rfl (lv_at hl 0 rfl) ?_
        refine va_get (D := (dC, dI)) (ci := 8) (v := .ref (b 35)) (C := RX8) (T := TX8) (N := 49) hx hb hw zz_inX8 hown hK hP 0 rfl rfl 34 (by decide) (hw _ tw_207) (fun _ h9 => h9) rfl dX8_oldest_29 ?_
        refine lv_iload_n hx hb dX8_oldest_32 rfl (lv_at hl 3 rfl) ?_
        refine va_iald hx hb hK hP 1 0 rfl rfl (vp_in_iff.mpr (by rw [zz_toInt j (by omega)]; constructor <;> omega)) dX8_oldest_33 ?_
        refine zz_seti (mo j) (congrArg mo (zz_cl (by omega))) ?_
        refine lv_iload_n hx hb dX8_oldest_34 rfl (lv_at hl 1 rfl) ?_
        refine lv_icmp_ne (tgt := 55) hx hb dX8_oldest_35 (by decide) (fun c_4 => ?_) (fun c_4 => ?_)
        · have zc_4 := c_4
          rw [← Int32.toInt_inj] at zc_4
          refine lv_iinc (v := (nI (j + 1))) (lv' := [(3, .int (nI (j + 1))), (0, .ref (b 0)), (1, .int p0), (2, .int p1)]) hx hb dX8_oldest_55 hl (k := 3) rfl (nI_1 _) (by decide) rfl (fun ls hl => ?_)
          refine lv_goto (tgt := 20) hx hb dX8_oldest_58 (by decide) ?_
          exact ih_20 (j + 1) ⟨by omega, zz_nox (P := fun q => mo q = p0 ∧ mr q = p1) ia (fun h9 => c_4 h9.1)⟩ (show md - (j + 1) < md - j from by omega) _ _ _ (hP.sub [0, 1, 2, 3, 4] rfl) (hD.sub [0, 1, 2, 3, 4] (by decide) rfl) hS (lv_sub hl [1, 2, 3, 0] rfl)
        · have zc_4 := c_4
          rw [← Int32.toInt_inj] at zc_4
          refine lv_aload_n hx hb dX8_oldest_38 rfl (lv_at hl 0 rfl) ?_
          refine va_get (D := (dC, dI)) (ci := 8) (v := .ref (b 36)) (C := RX8) (T := TX8) (N := 49) hx hb hw zz_inX8 hown hK hP 0 rfl rfl 35 (by decide) (hw _ tw_208) (fun _ h9 => h9) rfl dX8_oldest_39 ?_
          refine lv_iload_n hx hb dX8_oldest_42 rfl (lv_at hl 3 rfl) ?_
          refine va_iald hx hb hK hP 2 0 rfl rfl (vp_in_iff.mpr (by rw [zz_toInt j (by omega)]; constructor <;> omega)) dX8_oldest_43 ?_
          refine zz_seti (mr j) (congrArg mr (zz_cl (by omega))) ?_
          refine lv_iload_n hx hb dX8_oldest_44 rfl (lv_at hl 2 rfl) ?_
          refine lv_icmp_ne (tgt := 55) hx hb dX8_oldest_45 (by decide) (fun c_5 => ?_) (fun c_5 => ?_)
          · have zc_5 := c_5
            rw [← Int32.toInt_inj] at zc_5
            refine lv_iinc (v := (nI (j + 1))) (lv' := [(3, .int (nI (j + 1))), (0, .ref (b 0)), (1, .int p0), (2, .int p1)]) hx hb dX8_oldest_55 hl (k := 3) rfl (nI_1 _) (by decide) rfl (fun ls hl => ?_)
            refine lv_goto (tgt := 20) hx hb dX8_oldest_58 (by decide) ?_
            exact ih_20 (j + 1) ⟨by omega, zz_nox (P := fun q => mo q = p0 ∧ mr q = p1) ia (fun h9 => c_5 h9.2)⟩ (show md - (j + 1) < md - j from by omega) _ _ _ (hP.sub [0, 1, 2, 3, 4] rfl) (hD.sub [0, 1, 2, 3, 4] (by decide) rfl) hS (lv_sub hl [1, 2, 3, 0] rfl)
          · have zc_5 := c_5
            rw [← Int32.toInt_inj] at zc_5
            refine lv_aload_n hx hb dX8_oldest_48 rfl (lv_at hl 0 rfl) ?_
            refine va_get (D := (dC, dI)) (ci := 8) (v := .ref (b 37)) (C := RX8) (T := TX8) (N := 49) hx hb hw zz_inX8 hown hK hP 0 rfl rfl 36 (by decide) (hw _ tw_209) (fun _ h9 => h9) rfl dX8_oldest_49 ?_
            refine lv_iload_n hx hb dX8_oldest_52 rfl (lv_at hl 3 rfl) ?_
            refine va_iald hx hb hK hP 3 0 rfl rfl (vp_in_iff.mpr (by rw [zz_toInt j (by omega)]; constructor <;> omega)) dX8_oldest_53 ?_
            refine zz_seti (my j) (congrArg my (zz_cl (by omega))) ?_
            exact W.iret (v := (my j)) hx hb hr (fun t ht hW => ⟨⟨(my j), (), rfl, (Or.inl ⟨by omega, Or.inl ⟨j, by omega, ⟨c_4, c_5⟩, ia, rfl⟩⟩), trivial⟩, hS.F ht⟩) hS.2.2 dX8_oldest_54
    · refine zz_seti 0 er_2 ?_
      refine lv_if_ne (tgt := 18) hx hb dX8_oldest_13 (by decide) (fun c_9 => absurd c_9 (by decide)) (fun _ => ?_)
      refine lv_iconst (v := (-1)) hx hb dX8_oldest_16 (by decide) ?_
      exact W.iret (v := (-1)) hx hb hr (fun t ht hW => ⟨⟨(-1), (), rfl, (Or.inr ⟨by omega, rfl⟩), trivial⟩, hS.F ht⟩) hS.2.2 dX8_oldest_17
  · refine zz_seti 0 er_1 ?_
    refine lv_if_eq (tgt := 16) hx hb dX8_oldest_5 (by decide) (fun _ => ?_) (fun c_9 => absurd c_9 (by decide))
    refine lv_iconst (v := (-1)) hx hb dX8_oldest_16 (by decide) ?_
    exact W.iret (v := (-1)) hx hb hr (fun t ht hW => ⟨⟨(-1), (), rfl, (Or.inr ⟨by omega, rfl⟩), trivial⟩, hS.F ht⟩) hS.2.2 dX8_oldest_17
/-- what a house got: the sum over its fields that are done -/
def zz_pn (ow dn gt : Nat → Int32) (x : Int32) : Nat → Int32
  | 0 => 0
  | j + 1 => zz_pn ow dn gt x j + (if ow j = x ∧ 0 ≤ (dn j).toInt then gt j else 0)
theorem zz_pn_y {ow dn gt : Nat → Int32} {x y u : Int32} {j : Nat} (h : y = zz_pn ow dn gt x j) (hu : u = if ow j = x ∧ 0 ≤ (dn j).toInt then gt j else 0) : y + u = zz_pn ow dn gt x (j + 1) := by
  rw [zz_pn, hu, h]
set_option maxHeartbeats 4000000 in
set_option maxRecDepth 100000 in
theorem mx_houseOf (l : Launch) (dC : Nat → ClassId) (dI : Nat → Nat → Nat) (b : Nat → Nat) (gg : Nat → Int32) (mt : Nat) (mc : Nat) (mh : Nat) (mf : Nat) (md : Nat) (cI : ClassId) (cZ : ClassId) (ha : Nat → Int32) (wi : Nat → Int32) (il : Nat → Int32) (us : Nat → Int32) (f1 : Nat → Int32) (f2 : Nat → Int32) (pd : Nat → Int32) (la : Nat → Int32) (ow : Nat → Int32) (dn : Nat → Int32) (gt : Nat → Int32) (mo : Nat → Int32) (mr : Nat → Int32) (my : Nat → Int32) (mu : Nat → Int32) (p0 : Int32) (p1 : Int32) (sz : Nat) (hmh : mh ≤ 8) (hmf : mf ≤ 12) (hmd : md ≤ 300) : Met l yX8_houseOf (zz_w yX8_houseOf cX8_houseOf 5 (some .int)) ({ frames := 2, cells := 0, slots := 0, locals := 46 }) (va_Pc [.ref (b 0), .int p0, .int p1] (zz_B (dC, dI) sz [(b 0, .inr (8, [.ref (b 1), .int (nI mt), .int (gg 2), .int (gg 3), .int (gg 4), .int (gg 5), .int (gg 6), .int (gg 7), .int (gg 8), .int (gg 9), .ref (b 11), .ref (b 12), .ref (b 13), .int (nI mc), .int (nI mh), .ref (b 16), .ref (b 17), .ref (b 18), .ref (b 19), .ref (b 20), .ref (b 21), .ref (b 22), .ref (b 23), .ref (b 24), .int (nI mf), .ref (b 26), .ref (b 27), .ref (b 28), .ref (b 29), .ref (b 30), .ref (b 31), .ref (b 32), .int (gg 32), .int (nI md), .ref (b 35), .ref (b 36), .ref (b 37), .ref (b 38), .ref (b 39), .ref (b 40), .int (gg 40), .ref (b 42), .ref (b 43), .ref (b 44), .int (gg 44), .ref (b 46), .ref (b 47), .int (gg 47), .ref (b 49)])), (b 16, .inl (cI, 8, .inl ha)), (b 17, .inl (cZ, 8, .inl wi)), (b 18, .inl (cI, 8, .inl il)), (b 19, .inl (cI, 8, .inl us)), (b 20, .inl (cI, 8, .inl f1)), (b 21, .inl (cI, 8, .inl f2)), (b 22, .inl (cI, 8, .inl pd)), (b 23, .inl (cI, 8, .inl la)), (b 26, .inl (cI, 12, .inl ow)), (b 31, .inl (cI, 12, .inl dn)), (b 32, .inl (cI, 12, .inl gt)), (b 35, .inl (cI, 300, .inl mo)), (b 36, .inl (cI, 300, .inl mr)), (b 37, .inl (cI, 300, .inl my)), (b 38, .inl (cI, 300, .inl mu))] [(cI, .int), (cZ, .boolean)])) (va_Qi (fun (r : Int32) (_ : Unit) => ((0 ≤ p0.toInt ∧ p0.toInt < (mh : Int)) ∧ r = (zz_hoV (ha (Int32.toNatClampNeg p0)) (if wi (Int32.toNatClampNeg p0) = 0 then 0 else 1) (il (Int32.toNatClampNeg p0)) (zz_fr il ha us (Int32.toNatClampNeg p0)) (zz_nc mo mr mu p0 md) (f1 (Int32.toNatClampNeg p0)) (f2 (Int32.toNatClampNeg p0)) (pd (Int32.toNatClampNeg p0)) (la (Int32.toNatClampNeg p0)) (zz_pn ow dn gt p0 mf) p1)) ∨ (¬ (0 ≤ p0.toInt ∧ p0.toInt < (mh : Int)) ∧ r = -1000000)) (fun _ _ => True) (va_A [] sz)) 0 0 (va_A [] sz) := by
  refine Met.ofW (cc := cX8_houseOf) (maxL := 5) (ret := (some .int)) (by decide) rfl ?_
  intro p e s m args below meth c s₁ B hml hv
  obtain ⟨rfl, hsz, hP, hK, hD0, hN⟩ := hv
  have hx := B.exec
  have hb := B.bytes
  have hr := B.returns
  have hts := atoms_spec (ws := zz_w yX8_houseOf cX8_houseOf 5 (some .int)) B.pre
  have hw : ∀ w ∈ zz_all, w.before _ s = true := fun w h => hts w (List.mem_cons_of_mem _ h)
  have hown : s.vm.findClass RX8 = some m.cls := findClass_of_methodNamed B.named
  have hlocks := B.notSynchronized
  subst hsz
  have hD := hD0
  generalize hAe : va_A [] s.heap.size = A
  have hA : ∀ q : Nat, s.heap.size ≤ q → A q := fun q h => by rw [← hAe]; exact Or.inr h
  have hS : va_S A s.heap s.heap [] := va_S.rf
  have hP : va_P (dC, dI) vwCl [(b 0, .inr (8, [.ref (b 1), .int (nI mt), .int (gg 2), .int (gg 3), .int (gg 4), .int (gg 5), .int (gg 6), .int (gg 7), .int (gg 8), .int (gg 9), .ref (b 11), .ref (b 12), .ref (b 13), .int (nI mc), .int (nI mh), .ref (b 16), .ref (b 17), .ref (b 18), .ref (b 19), .ref (b 20), .ref (b 21), .ref (b 22), .ref (b 23), .ref (b 24), .int (nI mf), .ref (b 26), .ref (b 27), .ref (b 28), .ref (b 29), .ref (b 30), .ref (b 31), .ref (b 32), .int (gg 32), .int (nI md), .ref (b 35), .ref (b 36), .ref (b 37), .ref (b 38), .ref (b 39), .ref (b 40), .int (gg 40), .ref (b 42), .ref (b 43), .ref (b 44), .int (gg 44), .ref (b 46), .ref (b 47), .int (gg 47), .ref (b 49)])), (b 16, .inl (cI, 8, .inl ha)), (b 17, .inl (cZ, 8, .inl wi)), (b 18, .inl (cI, 8, .inl il)), (b 19, .inl (cI, 8, .inl us)), (b 20, .inl (cI, 8, .inl f1)), (b 21, .inl (cI, 8, .inl f2)), (b 22, .inl (cI, 8, .inl pd)), (b 23, .inl (cI, 8, .inl la)), (b 26, .inl (cI, 12, .inl ow)), (b 31, .inl (cI, 12, .inl dn)), (b 32, .inl (cI, 12, .inl gt)), (b 35, .inl (cI, 300, .inl mo)), (b 36, .inl (cI, 300, .inl mr)), (b 37, .inl (cI, 300, .inl my)), (b 38, .inl (cI, 300, .inl mu))] s.heap := hP
  have hl := lv_entry ([.ref (b 0), .int p0, .int p1]) (n := 5) (Nat.le_of_ble_eq_true rfl)
  rw [lg_entry_eq]
  generalize (lg_sl ([.ref (b 0), .int p0, .int p1]) ++ List.replicate (5 - (lg_sl ([.ref (b 0), .int p0, .int p1])).length) Slot.unset).toArray = ls at hl ⊢
  have hl : lv_has ls 5 [(0, .ref (b 0)), (1, .int p0), (2, .int p1)] := hl
  refine lv_aload_n hx hb dX8_houseOf_0 rfl (lv_at hl 0 rfl) ?_
  refine lv_iload_n hx hb dX8_houseOf_1 rfl (lv_at hl 1 rfl) ?_
  obtain ⟨hPc, hDc⟩ := zz_sub2 (ws' := [(b 0, .inr (8, [.ref (b 1), .int (nI mt), .int (gg 2), .int (gg 3), .int (gg 4), .int (gg 5), .int (gg 6), .int (gg 7), .int (gg 8), .int (gg 9), .ref (b 11), .ref (b 12), .ref (b 13), .int (nI mc), .int (nI mh), .ref (b 16), .ref (b 17), .ref (b 18), .ref (b 19), .ref (b 20), .ref (b 21), .ref (b 22), .ref (b 23), .ref (b 24), .int (nI mf), .ref (b 26), .ref (b 27), .ref (b 28), .ref (b 29), .ref (b 30), .ref (b 31), .ref (b 32), .int (gg 32), .int (nI md), .ref (b 35), .ref (b 36), .ref (b 37), .ref (b 38), .ref (b 39), .ref (b 40), .int (gg 40), .ref (b 42), .ref (b 43), .ref (b 44), .int (gg 44), .ref (b 46), .ref (b 47), .int (gg 47), .ref (b 49)]))]) hP hD [0] (by decide) rfl
  have hKc := hK.sub (tys' := []) [] rfl
  have hFc := zz_free0 hS hA
  refine va_calli (va_runV (As := [.int p0]) (rest := []) ⟨hx, hb, hml, hown, hw⟩ (m_isHouse l dC dI b gg mt mc mh mf md p0 s.heap.size (by omega)) ⟨callB_of 1 hw (zz_good tw_197) rfl rfl rfl (hw _ tw_184) (hw _ tw_198) (by decide +kernel) ⟨Nat.le_of_ble_eq_true rfl, Nat.le_of_ble_eq_true rfl⟩, (hw _ tw_199), (hw _ tw_200)⟩ ⟨zz_blind, va_recv hKc hPc (ci := 8) (q0 := 0) rfl rfl, zz_pre hPc hKc hDc hN⟩ rfl rfl hl.1 rfl (lv_room (Nat.le_of_ble_eq_true rfl)) dX8_houseOf_2 ⟨Nat.le_of_ble_eq_true rfl, Nat.le_of_ble_eq_true rfl⟩) hS (fun q _ h => hFc q h) hFc (fun r_1 u_1 t H1 locs ht hvm e_1 hB hz1 hk1 hS => ?_)
  try dsimp only at e_1
  have hP := zz_keep hP hk1
  clear hk1 hB ht hvm
  generalize H1 = H at hP hS ⊢
  rcases e_1 with ⟨n1_1, er_1⟩ | ⟨n1_1, er_1⟩
  · refine zz_seti 1 er_1 ?_
    refine lv_if_ne (tgt := 12) hx hb dX8_houseOf_5 (by decide) (fun _ => ?_) (fun c_9 => absurd c_9 (by decide))
    refine lv_iconst (v := 0) hx hb dX8_houseOf_12 (by decide) ?_
    refine lv_istore_n (lv' := [(3, .int 0), (0, .ref (b 0)), (1, .int p0), (2, .int p1)]) hx hb dX8_houseOf_13 rfl hl (by decide) rfl (fun ls hl => ?_)
    refine lv_iconst (v := 0) hx hb dX8_houseOf_14 (by decide) ?_
    refine lv_istore (lv' := [(4, .int 0), (3, .int 0), (0, .ref (b 0)), (1, .int p0), (2, .int p1)]) hx hb dX8_houseOf_15 hl (by decide) rfl (fun ls hl => ?_)
    refine zz_loopS (fun (u : (Nat) × (Int32)) => match u with | (j, y) => [(b 0, .inr (8, [.ref (b 1), .int (nI mt), .int (gg 2), .int (gg 3), .int (gg 4), .int (gg 5), .int (gg 6), .int (gg 7), .int (gg 8), .int (gg 9), .ref (b 11), .ref (b 12), .ref (b 13), .int (nI mc), .int (nI mh), .ref (b 16), .ref (b 17), .ref (b 18), .ref (b 19), .ref (b 20), .ref (b 21), .ref (b 22), .ref (b 23), .ref (b 24), .int (nI mf), .ref (b 26), .ref (b 27), .ref (b 28), .ref (b 29), .ref (b 30), .ref (b 31), .ref (b 32), .int (gg 32), .int (nI md), .ref (b 35), .ref (b 36), .ref (b 37), .ref (b 38), .ref (b 39), .ref (b 40), .int (gg 40), .ref (b 42), .ref (b 43), .ref (b 44), .int (gg 44), .ref (b 46), .ref (b 47), .int (gg 47), .ref (b 49)])), (b 16, .inl (cI, 8, .inl ha)), (b 17, .inl (cZ, 8, .inl wi)), (b 18, .inl (cI, 8, .inl il)), (b 19, .inl (cI, 8, .inl us)), (b 20, .inl (cI, 8, .inl f1)), (b 21, .inl (cI, 8, .inl f2)), (b 22, .inl (cI, 8, .inl pd)), (b 23, .inl (cI, 8, .inl la)), (b 26, .inl (cI, 12, .inl ow)), (b 31, .inl (cI, 12, .inl dn)), (b 32, .inl (cI, 12, .inl gt)), (b 35, .inl (cI, 300, .inl mo)), (b 36, .inl (cI, 300, .inl mr)), (b 37, .inl (cI, 300, .inl my)), (b 38, .inl (cI, 300, .inl mu))]) (fun (u : (Nat) × (Int32)) => match u with | (j, y) => [(0, .ref (b 0)), (1, .int p0), (2, .int p1), (3, .int y), (4, .int (nI j))]) (fun (u : (Nat) × (Int32)) => match u with | (j, y) => j ≤ mf ∧ y = zz_pn ow dn gt p0 j) (fun (u : (Nat) × (Int32)) => match u with | (j, y) => mf - j) (fun u hI H locs ls hP hD hS hl ih_17 => ?_) (0, 0) ⟨by omega, rfl⟩ _ _ _ (hP.sub [0, 1, 2, 3, 4, 5, 6, 7, 8, 9, 10, 11, 12, 13, 14, 15] rfl) (hD.sub [0, 1, 2, 3, 4, 5, 6, 7, 8, 9, 10, 11, 12, 13, 14, 15] (by decide) rfl) hS (lv_sub hl [2, 3, 4, 1, 0] rfl)
    obtain ⟨j, y⟩ := u
    obtain ⟨hP, hD⟩ := zz_ty (D := (dC, dI)) (cl := vwCl) (A := (fun _ => True)) (H := H) [(b 0, .inr (8, [.ref (b 1), .int (nI mt), .int (gg 2), .int (gg 3), .int (gg 4), .int (gg 5), .int (gg 6), .int (gg 7), .int (gg 8), .int (gg 9), .ref (b 11), .ref (b 12), .ref (b 13), .int (nI mc), .int (nI mh), .ref (b 16), .ref (b 17), .ref (b 18), .ref (b 19), .ref (b 20), .ref (b 21), .ref (b 22), .ref (b 23), .ref (b 24), .int (nI mf), .ref (b 26), .ref (b 27), .ref (b 28), .ref (b 29), .ref (b 30), .ref (b 31), .ref (b 32), .int (gg 32), .int (nI md), .ref (b 35), .ref (b 36), .ref (b 37), .ref (b 38), .ref (b 39), .ref (b 40), .int (gg 40), .ref (b 42), .ref (b 43), .ref (b 44), .int (gg 44), .ref (b 46), .ref (b 47), .int (gg 47), .ref (b 49)])), (b 16, .inl (cI, 8, .inl ha)), (b 17, .inl (cZ, 8, .inl wi)), (b 18, .inl (cI, 8, .inl il)), (b 19, .inl (cI, 8, .inl us)), (b 20, .inl (cI, 8, .inl f1)), (b 21, .inl (cI, 8, .inl f2)), (b 22, .inl (cI, 8, .inl pd)), (b 23, .inl (cI, 8, .inl la)), (b 26, .inl (cI, 12, .inl ow)), (b 31, .inl (cI, 12, .inl dn)), (b 32, .inl (cI, 12, .inl gt)), (b 35, .inl (cI, 300, .inl mo)), (b 36, .inl (cI, 300, .inl mr)), (b 37, .inl (cI, 300, .inl my)), (b 38, .inl (cI, 300, .inl mu))] hP hD rfl
    have hl : lv_has ls 5 [(0, .ref (b 0)), (1, .int p0), (2, .int p1), (3, .int y), (4, .int (nI j))] := hl
    have hI : j ≤ mf ∧ y = zz_pn ow dn gt p0 j := hI
    obtain ⟨ij, iy⟩ := hI
    refine lv_iload hx hb dX8_houseOf_17 (lv_at hl 4 rfl) ?_
    refine lv_aload_n hx hb dX8_houseOf_19 rfl (lv_at hl 0 rfl) ?_
    refine va_get (D := (dC, dI)) (ci := 8) (v := .int (nI mf)) (C := RX8) (T := TX8) (N := 49) hx hb hw zz_inX8 hown hK hP 0 rfl rfl 24 (by decide) (hw _ tw_187) (fun _ h9 => h9) rfl dX8_houseOf_20 ?_
    refine lv_icmp_ge (tgt := 67) hx hb dX8_houseOf_23 (by decide) (fun c_2 => ?_) (fun c_2 => ?_)
    · have zc_2 := c_2
      rw [Int32.le_iff_toInt_le] at zc_2
      try rw [zz_toInt j (by omega)] at zc_2
      try rw [zz_toInt mf (by omega)] at zc_2
      have hsum : y = zz_pn ow dn gt p0 mf := by rw [show mf = j from by omega]; exact iy
      refine lv_iload_n hx hb dX8_houseOf_67 rfl (lv_at hl 2 rfl) ?_
      by_cases c_3 : p1 = 0
      · have zc_3 := c_3
        rw [← Int32.toInt_inj] at zc_3
        try rw [show (0 : Int32).toInt = 0 from by decide] at zc_3
        refine lv_tableIn (tgt := 124) hx hb dX8_houseOf_68 (by rw [c_3]; decide) (by rw [c_3]; decide) (by rw [c_3]; rfl) (by decide) ?_
        refine lv_aload_n hx hb dX8_houseOf_124 rfl (lv_at hl 0 rfl) ?_
        refine va_get (D := (dC, dI)) (ci := 8) (v := .ref (b 16)) (C := RX8) (T := TX8) (N := 49) hx hb hw zz_inX8 hown hK hP 0 rfl rfl 15 (by decide) (hw _ tw_189) (fun _ h9 => h9) rfl dX8_houseOf_125 ?_
        refine lv_iload_n hx hb dX8_houseOf_128 rfl (lv_at hl 1 rfl) ?_
        refine va_iald hx hb hK hP 1 0 rfl rfl (vp_in_iff.mpr (by constructor <;> omega)) dX8_houseOf_129 ?_
        exact W.iret (v := (ha (Int32.toNatClampNeg p0))) hx hb hr (fun t ht hW => ⟨⟨(ha (Int32.toNatClampNeg p0)), (), rfl, (Or.inl ⟨by omega, (by rw [c_3, zz_hoV_0])⟩), trivial⟩, hS.F ht⟩) hS.2.2 dX8_houseOf_130
      by_cases c_4 : p1 = 1
      · have zc_4 := c_4
        rw [← Int32.toInt_inj] at zc_4
        try rw [show (1 : Int32).toInt = 1 from by decide] at zc_4
        refine lv_tableIn (tgt := 131) hx hb dX8_houseOf_68 (by rw [c_4]; decide) (by rw [c_4]; decide) (by rw [c_4]; rfl) (by decide) ?_
        refine lv_aload_n hx hb dX8_houseOf_131 rfl (lv_at hl 0 rfl) ?_
        refine va_get (D := (dC, dI)) (ci := 8) (v := .ref (b 17)) (C := RX8) (T := TX8) (N := 49) hx hb hw zz_inX8 hown hK hP 0 rfl rfl 16 (by decide) (hw _ tw_190) (fun _ h9 => h9) rfl dX8_houseOf_132 ?_
        refine lv_iload_n hx hb dX8_houseOf_135 rfl (lv_at hl 1 rfl) ?_
        refine va_zald hx hb hK hP 2 1 rfl rfl (vp_in_iff.mpr (by constructor <;> omega)) dX8_houseOf_136 ?_
        refine lv_if_eq (tgt := 144) hx hb dX8_houseOf_137 (by decide) (fun c_5 => ?_) (fun c_5 => ?_)
        · have zc_5 := c_5
          rw [← Int32.toInt_inj] at zc_5
          try rw [show (0 : Int32).toInt = 0 from by decide] at zc_5
          refine lv_iconst (v := 0) hx hb dX8_houseOf_144 (by decide) ?_
          exact W.iret (v := 0) hx hb hr (fun t ht hW => ⟨⟨0, (), rfl, (Or.inl ⟨by omega, (by rw [c_4, zz_hoV_1, if_pos c_5])⟩), trivial⟩, hS.F ht⟩) hS.2.2 dX8_houseOf_145
        · have zc_5 := c_5
          rw [← Int32.toInt_inj] at zc_5
          try rw [show (0 : Int32).toInt = 0 from by decide] at zc_5
          refine lv_iconst (v := 1) hx hb dX8_houseOf_140 (by decide) ?_
          refine lv_goto (tgt := 145) hx hb dX8_houseOf_141 (by decide) ?_
          exact W.iret (v := 1) hx hb hr (fun t ht hW => ⟨⟨1, (), rfl, (Or.inl ⟨by omega, (by rw [c_4, zz_hoV_1, if_neg c_5])⟩), trivial⟩, hS.F ht⟩) hS.2.2 dX8_houseOf_145
      by_cases c_6 : p1 = 2
      · have zc_6 := c_6
        rw [← Int32.toInt_inj] at zc_6
        try rw [show (2 : Int32).toInt = 2 from by decide] at zc_6
        refine lv_tableIn (tgt := 146) hx hb dX8_houseOf_68 (by rw [c_6]; decide) (by rw [c_6]; decide) (by rw [c_6]; rfl) (by decide) ?_
        refine lv_aload_n hx hb dX8_houseOf_146 rfl (lv_at hl 0 rfl) ?_
        refine va_get (D := (dC, dI)) (ci := 8) (v := .ref (b 18)) (C := RX8) (T := TX8) (N := 49) hx hb hw zz_inX8 hown hK hP 0 rfl rfl 17 (by decide) (hw _ tw_202) (fun _ h9 => h9) rfl dX8_houseOf_147 ?_
        refine lv_iload_n hx hb dX8_houseOf_150 rfl (lv_at hl 1 rfl) ?_
        refine va_iald hx hb hK hP 3 0 rfl rfl (vp_in_iff.mpr (by constructor <;> omega)) dX8_houseOf_151 ?_
        exact W.iret (v := (il (Int32.toNatClampNeg p0))) hx hb hr (fun t ht hW => ⟨⟨(il (Int32.toNatClampNeg p0)), (), rfl, (Or.inl ⟨by omega, (by rw [c_6, zz_hoV_2])⟩), trivial⟩, hS.F ht⟩) hS.2.2 dX8_houseOf_152
      by_cases c_7 : p1 = 3
      · have zc_7 := c_7
        rw [← Int32.toInt_inj] at zc_7
        try rw [show (3 : Int32).toInt = 3 from by decide] at zc_7
        refine lv_tableIn (tgt := 153) hx hb dX8_houseOf_68 (by rw [c_7]; decide) (by rw [c_7]; decide) (by rw [c_7]; rfl) (by decide) ?_
        refine lv_aload_n hx hb dX8_houseOf_153 rfl (lv_at hl 0 rfl) ?_
        refine lv_iload_n hx hb dX8_houseOf_154 rfl (lv_at hl 1 rfl) ?_
        obtain ⟨hPc, hDc⟩ := zz_sub2 (ws' := [(b 0, .inr (8, [.ref (b 1), .int (nI mt), .int (gg 2), .int (gg 3), .int (gg 4), .int (gg 5), .int (gg 6), .int (gg 7), .int (gg 8), .int (gg 9), .ref (b 11), .ref (b 12), .ref (b 13), .int (nI mc), .int (nI mh), .ref (b 16), .ref (b 17), .ref (b 18), .ref (b 19), .ref (b 20), .ref (b 21), .ref (b 22), .ref (b 23), .ref (b 24), .int (nI mf), .ref (b 26), .ref (b 27), .ref (b 28), .ref (b 29), .ref (b 30), .ref (b 31), .ref (b 32), .int (gg 32), .int (nI md), .ref (b 35), .ref (b 36), .ref (b 37), .ref (b 38), .ref (b 39), .ref (b 40), .int (gg 40), .ref (b 42), .ref (b 43), .ref (b 44), .int (gg 44), .ref (b 46), .ref (b 47), .int (gg 47), .ref (b 49)])), (b 18, .inl (cI, 8, .inl il)), (b 16, .inl (cI, 8, .inl ha)), (b 19, .inl (cI, 8, .inl us))]) hP hD [0, 3, 1, 4] (by decide) rfl
        have hKc := hK.sub (tys' := [(cI, .int)]) [0] rfl
        have hFc := zz_free0 hS hA
        refine va_calli (va_runV (As := [.int p0]) (rest := []) ⟨hx, hb, hml, hown, hw⟩ (mx_free l dC dI b gg mt mc mh mf md cI il ha us p0 H.size (by omega)) ⟨callB_of 1 hw (zz_good tw_245) rfl rfl rfl (hw _ tw_184) (hw _ tw_246) (by decide +kernel) ⟨Nat.le_of_ble_eq_true rfl, Nat.le_of_ble_eq_true rfl⟩, (hw _ tw_247), (hw _ tw_248)⟩ ⟨zz_blind, va_recv hKc hPc (ci := 8) (q0 := 0) rfl rfl, zz_pre hPc hKc hDc hN⟩ rfl rfl hl.1 rfl (lv_room (Nat.le_of_ble_eq_true rfl)) dX8_houseOf_155 ⟨Nat.le_of_ble_eq_true rfl, Nat.le_of_ble_eq_true rfl⟩) hS (fun q _ h => hFc q h) hFc (fun r_8 u_8 t H1 locs ht hvm e_8 hB hz1 hk1 hS => ?_)
        try dsimp only at e_8
        have hP := zz_keep hP hk1
        clear hk1 hB ht hvm
        generalize H1 = H at hP hS ⊢
        refine zz_seti (zz_fr il ha us (Int32.toNatClampNeg p0)) e_8 ?_
        exact W.iret (v := (zz_fr il ha us (Int32.toNatClampNeg p0))) hx hb hr (fun t ht hW => ⟨⟨(zz_fr il ha us (Int32.toNatClampNeg p0)), (), rfl, (Or.inl ⟨by omega, (by rw [c_7, zz_hoV_3])⟩), trivial⟩, hS.F ht⟩) hS.2.2 dX8_houseOf_158
      by_cases c_9 : p1 = 4
      · have zc_9 := c_9
        rw [← Int32.toInt_inj] at zc_9
        try rw [show (4 : Int32).toInt = 4 from by decide] at zc_9
        refine lv_tableIn (tgt := 159) hx hb dX8_houseOf_68 (by rw [c_9]; decide) (by rw [c_9]; decide) (by rw [c_9]; rfl) (by decide) ?_
        refine lv_aload_n hx hb dX8_houseOf_159 rfl (lv_at hl 0 rfl) ?_
        refine lv_iload_n hx hb dX8_houseOf_160 rfl (lv_at hl 1 rfl) ?_
        obtain ⟨hPc, hDc⟩ := zz_sub2 (ws' := [(b 0, .inr (8, [.ref (b 1), .int (nI mt), .int (gg 2), .int (gg 3), .int (gg 4), .int (gg 5), .int (gg 6), .int (gg 7), .int (gg 8), .int (gg 9), .ref (b 11), .ref (b 12), .ref (b 13), .int (nI mc), .int (nI mh), .ref (b 16), .ref (b 17), .ref (b 18), .ref (b 19), .ref (b 20), .ref (b 21), .ref (b 22), .ref (b 23), .ref (b 24), .int (nI mf), .ref (b 26), .ref (b 27), .ref (b 28), .ref (b 29), .ref (b 30), .ref (b 31), .ref (b 32), .int (gg 32), .int (nI md), .ref (b 35), .ref (b 36), .ref (b 37), .ref (b 38), .ref (b 39), .ref (b 40), .int (gg 40), .ref (b 42), .ref (b 43), .ref (b 44), .int (gg 44), .ref (b 46), .ref (b 47), .int (gg 47), .ref (b 49)])), (b 35, .inl (cI, 300, .inl mo)), (b 36, .inl (cI, 300, .inl mr)), (b 37, .inl (cI, 300, .inl my)), (b 38, .inl (cI, 300, .inl mu))]) hP hD [0, 12, 13, 14, 15] (by decide) rfl
        have hKc := hK.sub (tys' := [(cI, .int)]) [0] rfl
        have hFc := zz_free0 hS hA
        refine va_calli (va_runV (As := [.int p0]) (rest := []) ⟨hx, hb, hml, hown, hw⟩ (mx_net l dC dI b gg mt mc mh mf md cI mo mr my mu p0 H.size (by omega)) ⟨callB_of 1 hw (zz_good tw_249) rfl rfl rfl (hw _ tw_184) (hw _ tw_250) (by decide +kernel) ⟨Nat.le_of_ble_eq_true rfl, Nat.le_of_ble_eq_true rfl⟩, (hw _ tw_251), (hw _ tw_252)⟩ ⟨zz_blind, va_recv hKc hPc (ci := 8) (q0 := 0) rfl rfl, zz_pre hPc hKc hDc hN⟩ rfl rfl hl.1 rfl (lv_room (Nat.le_of_ble_eq_true rfl)) dX8_houseOf_161 ⟨Nat.le_of_ble_eq_true rfl, Nat.le_of_ble_eq_true rfl⟩) hS (fun q _ h => hFc q h) hFc (fun r_10 u_10 t H1 locs ht hvm e_10 hB hz1 hk1 hS => ?_)
        try dsimp only at e_10
        have hP := zz_keep hP hk1
        clear hk1 hB ht hvm
        generalize H1 = H at hP hS ⊢
        refine zz_seti (zz_nc mo mr mu p0 md) e_10 ?_
        exact W.iret (v := (zz_nc mo mr mu p0 md)) hx hb hr (fun t ht hW => ⟨⟨(zz_nc mo mr mu p0 md), (), rfl, (Or.inl ⟨by omega, (by rw [c_9, zz_hoV_4])⟩), trivial⟩, hS.F ht⟩) hS.2.2 dX8_houseOf_164
      by_cases c_11 : p1 = 5
      · have zc_11 := c_11
        rw [← Int32.toInt_inj] at zc_11
        try rw [show (5 : Int32).toInt = 5 from by decide] at zc_11
        refine lv_tableIn (tgt := 165) hx hb dX8_houseOf_68 (by rw [c_11]; decide) (by rw [c_11]; decide) (by rw [c_11]; rfl) (by decide) ?_
        refine lv_aload_n hx hb dX8_houseOf_165 rfl (lv_at hl 0 rfl) ?_
        refine va_get (D := (dC, dI)) (ci := 8) (v := .ref (b 20)) (C := RX8) (T := TX8) (N := 49) hx hb hw zz_inX8 hown hK hP 0 rfl rfl 19 (by decide) (hw _ tw_253) (fun _ h9 => h9) rfl dX8_houseOf_166 ?_
        refine lv_iload_n hx hb dX8_houseOf_169 rfl (lv_at hl 1 rfl) ?_
        refine va_iald hx hb hK hP 5 0 rfl rfl (vp_in_iff.mpr (by constructor <;> omega)) dX8_houseOf_170 ?_
        exact W.iret (v := (f1 (Int32.toNatClampNeg p0))) hx hb hr (fun t ht hW => ⟨⟨(f1 (Int32.toNatClampNeg p0)), (), rfl, (Or.inl ⟨by omega, (by rw [c_11, zz_hoV_5])⟩), trivial⟩, hS.F ht⟩) hS.2.2 dX8_houseOf_171
      by_cases c_12 : p1 = 6
      · have zc_12 := c_12
        rw [← Int32.toInt_inj] at zc_12
        try rw [show (6 : Int32).toInt = 6 from by decide] at zc_12
        refine lv_tableIn (tgt := 172) hx hb dX8_houseOf_68 (by rw [c_12]; decide) (by rw [c_12]; decide) (by rw [c_12]; rfl) (by decide) ?_
        refine lv_aload_n hx hb dX8_houseOf_172 rfl (lv_at hl 0 rfl) ?_
        refine va_get (D := (dC, dI)) (ci := 8) (v := .ref (b 21)) (C := RX8) (T := TX8) (N := 49) hx hb hw zz_inX8 hown hK hP 0 rfl rfl 20 (by decide) (hw _ tw_254) (fun _ h9 => h9) rfl dX8_houseOf_173 ?_
        refine lv_iload_n hx hb dX8_houseOf_176 rfl (lv_at hl 1 rfl) ?_
        refine va_iald hx hb hK hP 6 0 rfl rfl (vp_in_iff.mpr (by constructor <;> omega)) dX8_houseOf_177 ?_
        exact W.iret (v := (f2 (Int32.toNatClampNeg p0))) hx hb hr (fun t ht hW => ⟨⟨(f2 (Int32.toNatClampNeg p0)), (), rfl, (Or.inl ⟨by omega, (by rw [c_12, zz_hoV_6])⟩), trivial⟩, hS.F ht⟩) hS.2.2 dX8_houseOf_178
      by_cases c_13 : p1 = 7
      · have zc_13 := c_13
        rw [← Int32.toInt_inj] at zc_13
        try rw [show (7 : Int32).toInt = 7 from by decide] at zc_13
        refine lv_tableIn (tgt := 179) hx hb dX8_houseOf_68 (by rw [c_13]; decide) (by rw [c_13]; decide) (by rw [c_13]; rfl) (by decide) ?_
        refine lv_aload_n hx hb dX8_houseOf_179 rfl (lv_at hl 0 rfl) ?_
        refine va_get (D := (dC, dI)) (ci := 8) (v := .ref (b 22)) (C := RX8) (T := TX8) (N := 49) hx hb hw zz_inX8 hown hK hP 0 rfl rfl 21 (by decide) (hw _ tw_255) (fun _ h9 => h9) rfl dX8_houseOf_180 ?_
        refine lv_iload_n hx hb dX8_houseOf_183 rfl (lv_at hl 1 rfl) ?_
        refine va_iald hx hb hK hP 7 0 rfl rfl (vp_in_iff.mpr (by constructor <;> omega)) dX8_houseOf_184 ?_
        exact W.iret (v := (pd (Int32.toNatClampNeg p0))) hx hb hr (fun t ht hW => ⟨⟨(pd (Int32.toNatClampNeg p0)), (), rfl, (Or.inl ⟨by omega, (by rw [c_13, zz_hoV_7])⟩), trivial⟩, hS.F ht⟩) hS.2.2 dX8_houseOf_185
      by_cases c_14 : p1 = 8
      · have zc_14 := c_14
        rw [← Int32.toInt_inj] at zc_14
        try rw [show (8 : Int32).toInt = 8 from by decide] at zc_14
        refine lv_tableIn (tgt := 186) hx hb dX8_houseOf_68 (by rw [c_14]; decide) (by rw [c_14]; decide) (by rw [c_14]; rfl) (by decide) ?_
        refine lv_aload_n hx hb dX8_houseOf_186 rfl (lv_at hl 0 rfl) ?_
        refine va_get (D := (dC, dI)) (ci := 8) (v := .ref (b 23)) (C := RX8) (T := TX8) (N := 49) hx hb hw zz_inX8 hown hK hP 0 rfl rfl 22 (by decide) (hw _ tw_256) (fun _ h9 => h9) rfl dX8_houseOf_187 ?_
        refine lv_iload_n hx hb dX8_houseOf_190 rfl (lv_at hl 1 rfl) ?_
        refine va_iald hx hb hK hP 8 0 rfl rfl (vp_in_iff.mpr (by constructor <;> omega)) dX8_houseOf_191 ?_
        exact W.iret (v := (la (Int32.toNatClampNeg p0))) hx hb hr (fun t ht hW => ⟨⟨(la (Int32.toNatClampNeg p0)), (), rfl, (Or.inl ⟨by omega, (by rw [c_14, zz_hoV_8])⟩), trivial⟩, hS.F ht⟩) hS.2.2 dX8_houseOf_192
      by_cases c_15 : p1 = 9
      · have zc_15 := c_15
        rw [← Int32.toInt_inj] at zc_15
        try rw [show (9 : Int32).toInt = 9 from by decide] at zc_15
        refine lv_tableIn (tgt := 193) hx hb dX8_houseOf_68 (by rw [c_15]; decide) (by rw [c_15]; decide) (by rw [c_15]; rfl) (by decide) ?_
        refine lv_iload_n hx hb dX8_houseOf_193 rfl (lv_at hl 3 rfl) ?_
        exact W.iret (v := y) hx hb hr (fun t ht hW => ⟨⟨y, (), rfl, (Or.inl ⟨by omega, (by rw [c_15, zz_hoV_9]; exact hsum)⟩), trivial⟩, hS.F ht⟩) hS.2.2 dX8_houseOf_194
      refine lv_tableOut (tgt := 195) hx hb dX8_houseOf_68 (by have := zz_ne c_3; rw [show (0 : Int32).toInt = 0 from by decide] at this; have := zz_ne c_4; rw [show (1 : Int32).toInt = 1 from by decide] at this; have := zz_ne c_6; rw [show (2 : Int32).toInt = 2 from by decide] at this; have := zz_ne c_7; rw [show (3 : Int32).toInt = 3 from by decide] at this; have := zz_ne c_9; rw [show (4 : Int32).toInt = 4 from by decide] at this; have := zz_ne c_11; rw [show (5 : Int32).toInt = 5 from by decide] at this; have := zz_ne c_12; rw [show (6 : Int32).toInt = 6 from by decide] at this; have := zz_ne c_13; rw [show (7 : Int32).toInt = 7 from by decide] at this; have := zz_ne c_14; rw [show (8 : Int32).toInt = 8 from by decide] at this; have := zz_ne c_15; rw [show (9 : Int32).toInt = 9 from by decide] at this; omega) (by decide) ?_
      have zc_3 := c_3
      rw [← Int32.toInt_inj] at zc_3
      try rw [show (0 : Int32).toInt = 0 from by decide] at zc_3
      have zc_4 := c_4
      rw [← Int32.toInt_inj] at zc_4
      try rw [show (1 : Int32).toInt = 1 from by decide] at zc_4
      have zc_6 := c_6
      rw [← Int32.toInt_inj] at zc_6
      try rw [show (2 : Int32).toInt = 2 from by decide] at zc_6
      have zc_7 := c_7
      rw [← Int32.toInt_inj] at zc_7
      try rw [show (3 : Int32).toInt = 3 from by decide] at zc_7
      have zc_9 := c_9
      rw [← Int32.toInt_inj] at zc_9
      try rw [show (4 : Int32).toInt = 4 from by decide] at zc_9
      have zc_11 := c_11
      rw [← Int32.toInt_inj] at zc_11
      try rw [show (5 : Int32).toInt = 5 from by decide] at zc_11
      have zc_12 := c_12
      rw [← Int32.toInt_inj] at zc_12
      try rw [show (6 : Int32).toInt = 6 from by decide] at zc_12
      have zc_13 := c_13
      rw [← Int32.toInt_inj] at zc_13
      try rw [show (7 : Int32).toInt = 7 from by decide] at zc_13
      have zc_14 := c_14
      rw [← Int32.toInt_inj] at zc_14
      try rw [show (8 : Int32).toInt = 8 from by decide] at zc_14
      have zc_15 := c_15
      rw [← Int32.toInt_inj] at zc_15
      try rw [show (9 : Int32).toInt = 9 from by decide] at zc_15
      refine lv_ldcw (v := (-1000000)) hx hb hown (hw _ tw_257) dX8_houseOf_195 ?_
      exact W.iret (v := (-1000000)) hx hb hr (fun t ht hW => ⟨⟨(-1000000), (), rfl, (Or.inl ⟨by omega, (zz_hoV_d c_3 c_4 c_6 c_7 c_9 c_11 c_12 c_13 c_14 c_15).symm⟩), trivial⟩, hS.F ht⟩) hS.2.2 dX8_houseOf_198
    · have zc_2 := c_2
      rw [Int32.le_iff_toInt_le] at zc_2
      try rw [zz_toInt j (by omega)] at zc_2
      try rw [zz_toInt mf (by omega)] at zc_2
      refine lv_iload_n hx hb dX8_houseOf_26 rfl (lv_at hl 3 rfl) ?_
      refine lv_aload_n hx hb dX8_houseOf_27 rfl (lv_at hl 0 rfl) ?_
      refine va_get (D := (dC, dI)) (ci := 8) (v := .ref (b 26)) (C := RX8) (T := TX8) (N := 49) hx hb hw zz_inX8 hown hK hP 0 rfl rfl 25 (by decide) (hw _ tw_240) (fun _ h9 => h9) rfl dX8_houseOf_28 ?_
      refine lv_iload hx hb dX8_houseOf_31 (lv_at hl 4 rfl) ?_
      refine va_iald hx hb hK hP 9 0 rfl rfl (vp_in_iff.mpr (by rw [zz_toInt j (by omega)]; constructor <;> omega)) dX8_houseOf_33 ?_
      refine zz_seti (ow j) (congrArg ow (zz_cl (by omega))) ?_
      refine lv_iload_n hx hb dX8_houseOf_34 rfl (lv_at hl 1 rfl) ?_
      refine lv_icmp_ne (tgt := 58) hx hb dX8_houseOf_35 (by decide) (fun c_16 => ?_) (fun c_16 => ?_)
      · have zc_16 := c_16
        rw [← Int32.toInt_inj] at zc_16
        refine lv_iconst (v := 0) hx hb dX8_houseOf_58 (by decide) ?_
        refine lv_iadd hx hb dX8_houseOf_59 ?_
        refine lv_istore_n (lv' := [(3, .int (y + 0)), (0, .ref (b 0)), (1, .int p0), (2, .int p1), (4, .int (nI j))]) hx hb dX8_houseOf_60 rfl hl (by decide) rfl (fun ls hl => ?_)
        refine lv_iinc (v := (nI (j + 1))) (lv' := [(4, .int (nI (j + 1))), (3, .int (y + 0)), (0, .ref (b 0)), (1, .int p0), (2, .int p1)]) hx hb dX8_houseOf_61 hl (k := 4) rfl (nI_1 _) (by decide) rfl (fun ls hl => ?_)
        refine lv_goto (tgt := 17) hx hb dX8_houseOf_64 (by decide) ?_
        exact ih_17 ((j + 1), (y + 0)) ⟨by omega, zz_pn_y iy (if_neg (fun h9 => c_16 h9.1)).symm⟩ (show mf - (j + 1) < mf - j from by omega) _ _ _ (hP.sub [0, 1, 2, 3, 4, 5, 6, 7, 8, 9, 10, 11, 12, 13, 14, 15] rfl) (hD.sub [0, 1, 2, 3, 4, 5, 6, 7, 8, 9, 10, 11, 12, 13, 14, 15] (by decide) rfl) hS (lv_sub hl [2, 3, 4, 1, 0] rfl)
      · have zc_16 := c_16
        rw [← Int32.toInt_inj] at zc_16
        refine lv_aload_n hx hb dX8_houseOf_38 rfl (lv_at hl 0 rfl) ?_
        refine va_get (D := (dC, dI)) (ci := 8) (v := .ref (b 31)) (C := RX8) (T := TX8) (N := 49) hx hb hw zz_inX8 hown hK hP 0 rfl rfl 30 (by decide) (hw _ tw_234) (fun _ h9 => h9) rfl dX8_houseOf_39 ?_
        refine lv_iload hx hb dX8_houseOf_42 (lv_at hl 4 rfl) ?_
        refine va_iald hx hb hK hP 10 0 rfl rfl (vp_in_iff.mpr (by rw [zz_toInt j (by omega)]; constructor <;> omega)) dX8_houseOf_44 ?_
        refine zz_seti (dn j) (congrArg dn (zz_cl (by omega))) ?_
        refine lv_if_lt (tgt := 58) hx hb dX8_houseOf_45 (by decide) (fun c_17 => ?_) (fun c_17 => ?_)
        · have zc_17 := c_17
          rw [Int32.lt_iff_toInt_lt] at zc_17
          try rw [show (0 : Int32).toInt = 0 from by decide] at zc_17
          refine lv_iconst (v := 0) hx hb dX8_houseOf_58 (by decide) ?_
          refine lv_iadd hx hb dX8_houseOf_59 ?_
          refine lv_istore_n (lv' := [(3, .int (y + 0)), (0, .ref (b 0)), (1, .int p0), (2, .int p1), (4, .int (nI j))]) hx hb dX8_houseOf_60 rfl hl (by decide) rfl (fun ls hl => ?_)
          refine lv_iinc (v := (nI (j + 1))) (lv' := [(4, .int (nI (j + 1))), (3, .int (y + 0)), (0, .ref (b 0)), (1, .int p0), (2, .int p1)]) hx hb dX8_houseOf_61 hl (k := 4) rfl (nI_1 _) (by decide) rfl (fun ls hl => ?_)
          refine lv_goto (tgt := 17) hx hb dX8_houseOf_64 (by decide) ?_
          exact ih_17 ((j + 1), (y + 0)) ⟨by omega, zz_pn_y iy (if_neg (fun h9 => by have h8 := h9.2; omega)).symm⟩ (show mf - (j + 1) < mf - j from by omega) _ _ _ (hP.sub [0, 1, 2, 3, 4, 5, 6, 7, 8, 9, 10, 11, 12, 13, 14, 15] rfl) (hD.sub [0, 1, 2, 3, 4, 5, 6, 7, 8, 9, 10, 11, 12, 13, 14, 15] (by decide) rfl) hS (lv_sub hl [2, 3, 4, 1, 0] rfl)
        · have zc_17 := c_17
          rw [Int32.lt_iff_toInt_lt] at zc_17
          try rw [show (0 : Int32).toInt = 0 from by decide] at zc_17
          refine lv_aload_n hx hb dX8_houseOf_48 rfl (lv_at hl 0 rfl) ?_
          refine va_get (D := (dC, dI)) (ci := 8) (v := .ref (b 32)) (C := RX8) (T := TX8) (N := 49) hx hb hw zz_inX8 hown hK hP 0 rfl rfl 31 (by decide) (hw _ tw_235) (fun _ h9 => h9) rfl dX8_houseOf_49 ?_
          refine lv_iload hx hb dX8_houseOf_52 (lv_at hl 4 rfl) ?_
          refine va_iald hx hb hK hP 11 0 rfl rfl (vp_in_iff.mpr (by rw [zz_toInt j (by omega)]; constructor <;> omega)) dX8_houseOf_54 ?_
          refine zz_seti (gt j) (congrArg gt (zz_cl (by omega))) ?_
          refine lv_goto (tgt := 59) hx hb dX8_houseOf_55 (by decide) ?_
          refine lv_iadd hx hb dX8_houseOf_59 ?_
          refine lv_istore_n (lv' := [(3, .int (y + (gt j))), (0, .ref (b 0)), (1, .int p0), (2, .int p1), (4, .int (nI j))]) hx hb dX8_houseOf_60 rfl hl (by decide) rfl (fun ls hl => ?_)
          refine lv_iinc (v := (nI (j + 1))) (lv' := [(4, .int (nI (j + 1))), (3, .int (y + (gt j))), (0, .ref (b 0)), (1, .int p0), (2, .int p1)]) hx hb dX8_houseOf_61 hl (k := 4) rfl (nI_1 _) (by decide) rfl (fun ls hl => ?_)
          refine lv_goto (tgt := 17) hx hb dX8_houseOf_64 (by decide) ?_
          exact ih_17 ((j + 1), (y + (gt j))) ⟨by omega, zz_pn_y iy (if_pos ⟨c_16, by omega⟩).symm⟩ (show mf - (j + 1) < mf - j from by omega) _ _ _ (hP.sub [0, 1, 2, 3, 4, 5, 6, 7, 8, 9, 10, 11, 12, 13, 14, 15] rfl) (hD.sub [0, 1, 2, 3, 4, 5, 6, 7, 8, 9, 10, 11, 12, 13, 14, 15] (by decide) rfl) hS (lv_sub hl [2, 3, 4, 1, 0] rfl)
  · refine zz_seti 0 er_1 ?_
    refine lv_if_ne (tgt := 12) hx hb dX8_houseOf_5 (by decide) (fun c_9 => absurd c_9 (by decide)) (fun _ => ?_)
    refine lv_ldcw (v := (-1000000)) hx hb hown (hw _ tw_257) dX8_houseOf_8 ?_
    exact W.iret (v := (-1000000)) hx hb hr (fun t ht hW => ⟨⟨(-1000000), (), rfl, (Or.inr ⟨by omega, rfl⟩), trivial⟩, hS.F ht⟩) hS.2.2 dX8_houseOf_11
set_option maxHeartbeats 4000000 in
set_option maxRecDepth 100000 in
theorem mx_fieldOf (l : Launch) (dC : Nat → ClassId) (dI : Nat → Nat → Nat) (b : Nat → Nat) (gg : Nat → Int32) (mt : Nat) (mc : Nat) (mh : Nat) (mf : Nat) (md : Nat) (cI : ClassId) (ow : Nat → Int32) (kd : Nat → Int32) (nee : Nat → Int32) (re : Nat → Int32) (va : Nat → Int32) (dn : Nat → Int32) (gt : Nat → Int32) (p0 : Int32) (p1 : Int32) (sz : Nat) (hmf : mf ≤ 12) : Met l yX8_fieldOf (zz_w yX8_fieldOf cX8_fieldOf 3 (some .int)) ({ frames := 2, cells := 0, slots := 0, locals := 46 }) (va_Pc [.ref (b 0), .int p0, .int p1] (zz_B (dC, dI) sz [(b 0, .inr (8, [.ref (b 1), .int (nI mt), .int (gg 2), .int (gg 3), .int (gg 4), .int (gg 5), .int (gg 6), .int (gg 7), .int (gg 8), .int (gg 9), .ref (b 11), .ref (b 12), .ref (b 13), .int (nI mc), .int (nI mh), .ref (b 16), .ref (b 17), .ref (b 18), .ref (b 19), .ref (b 20), .ref (b 21), .ref (b 22), .ref (b 23), .ref (b 24), .int (nI mf), .ref (b 26), .ref (b 27), .ref (b 28), .ref (b 29), .ref (b 30), .ref (b 31), .ref (b 32), .int (gg 32), .int (nI md), .ref (b 35), .ref (b 36), .ref (b 37), .ref (b 38), .ref (b 39), .ref (b 40), .int (gg 40), .ref (b 42), .ref (b 43), .ref (b 44), .int (gg 44), .ref (b 46), .ref (b 47), .int (gg 47), .ref (b 49)])), (b 26, .inl (cI, 12, .inl ow)), (b 27, .inl (cI, 12, .inl kd)), (b 28, .inl (cI, 12, .inl nee)), (b 29, .inl (cI, 12, .inl re)), (b 30, .inl (cI, 12, .inl va)), (b 31, .inl (cI, 12, .inl dn)), (b 32, .inl (cI, 12, .inl gt))] [(cI, .int)])) (va_Qi (fun (r : Int32) (_ : Unit) => ((0 ≤ p0.toInt ∧ p0.toInt < (mf : Int)) ∧ r = (zz_foV (ow (Int32.toNatClampNeg p0)) (kd (Int32.toNatClampNeg p0)) (nee (Int32.toNatClampNeg p0)) (re (Int32.toNatClampNeg p0)) (va (Int32.toNatClampNeg p0)) (dn (Int32.toNatClampNeg p0)) (if (dn (Int32.toNatClampNeg p0)).toInt < 0 then -1 else gt (Int32.toNatClampNeg p0)) p1)) ∨ (¬ (0 ≤ p0.toInt ∧ p0.toInt < (mf : Int)) ∧ r = -1)) (fun _ _ => True) (va_A [] sz)) 0 0 (va_A [] sz) := by
  refine Met.ofW (cc := cX8_fieldOf) (maxL := 3) (ret := (some .int)) (by decide) rfl ?_
  intro p e s m args below meth c s₁ B hml hv
  obtain ⟨rfl, hsz, hP, hK, hD0, hN⟩ := hv
  have hx := B.exec
  have hb := B.bytes
  have hr := B.returns
  have hts := atoms_spec (ws := zz_w yX8_fieldOf cX8_fieldOf 3 (some .int)) B.pre
  have hw : ∀ w ∈ zz_all, w.before _ s = true := fun w h => hts w (List.mem_cons_of_mem _ h)
  have hown : s.vm.findClass RX8 = some m.cls := findClass_of_methodNamed B.named
  have hlocks := B.notSynchronized
  subst hsz
  have hD := hD0
  generalize hAe : va_A [] s.heap.size = A
  have hA : ∀ q : Nat, s.heap.size ≤ q → A q := fun q h => by rw [← hAe]; exact Or.inr h
  have hS : va_S A s.heap s.heap [] := va_S.rf
  have hP : va_P (dC, dI) vwCl [(b 0, .inr (8, [.ref (b 1), .int (nI mt), .int (gg 2), .int (gg 3), .int (gg 4), .int (gg 5), .int (gg 6), .int (gg 7), .int (gg 8), .int (gg 9), .ref (b 11), .ref (b 12), .ref (b 13), .int (nI mc), .int (nI mh), .ref (b 16), .ref (b 17), .ref (b 18), .ref (b 19), .ref (b 20), .ref (b 21), .ref (b 22), .ref (b 23), .ref (b 24), .int (nI mf), .ref (b 26), .ref (b 27), .ref (b 28), .ref (b 29), .ref (b 30), .ref (b 31), .ref (b 32), .int (gg 32), .int (nI md), .ref (b 35), .ref (b 36), .ref (b 37), .ref (b 38), .ref (b 39), .ref (b 40), .int (gg 40), .ref (b 42), .ref (b 43), .ref (b 44), .int (gg 44), .ref (b 46), .ref (b 47), .int (gg 47), .ref (b 49)])), (b 26, .inl (cI, 12, .inl ow)), (b 27, .inl (cI, 12, .inl kd)), (b 28, .inl (cI, 12, .inl nee)), (b 29, .inl (cI, 12, .inl re)), (b 30, .inl (cI, 12, .inl va)), (b 31, .inl (cI, 12, .inl dn)), (b 32, .inl (cI, 12, .inl gt))] s.heap := hP
  have hl := lv_entry ([.ref (b 0), .int p0, .int p1]) (n := 3) (Nat.le_of_ble_eq_true rfl)
  rw [lg_entry_eq]
  generalize (lg_sl ([.ref (b 0), .int p0, .int p1]) ++ List.replicate (3 - (lg_sl ([.ref (b 0), .int p0, .int p1])).length) Slot.unset).toArray = ls at hl ⊢
  have hl : lv_has ls 3 [(0, .ref (b 0)), (1, .int p0), (2, .int p1)] := hl
  refine lv_aload_n hx hb dX8_fieldOf_0 rfl (lv_at hl 0 rfl) ?_
  refine lv_iload_n hx hb dX8_fieldOf_1 rfl (lv_at hl 1 rfl) ?_
  obtain ⟨hPc, hDc⟩ := zz_sub2 (ws' := [(b 0, .inr (8, [.ref (b 1), .int (nI mt), .int (gg 2), .int (gg 3), .int (gg 4), .int (gg 5), .int (gg 6), .int (gg 7), .int (gg 8), .int (gg 9), .ref (b 11), .ref (b 12), .ref (b 13), .int (nI mc), .int (nI mh), .ref (b 16), .ref (b 17), .ref (b 18), .ref (b 19), .ref (b 20), .ref (b 21), .ref (b 22), .ref (b 23), .ref (b 24), .int (nI mf), .ref (b 26), .ref (b 27), .ref (b 28), .ref (b 29), .ref (b 30), .ref (b 31), .ref (b 32), .int (gg 32), .int (nI md), .ref (b 35), .ref (b 36), .ref (b 37), .ref (b 38), .ref (b 39), .ref (b 40), .int (gg 40), .ref (b 42), .ref (b 43), .ref (b 44), .int (gg 44), .ref (b 46), .ref (b 47), .int (gg 47), .ref (b 49)]))]) hP hD [0] (by decide) rfl
  have hKc := hK.sub (tys' := []) [] rfl
  have hFc := zz_free0 hS hA
  refine va_calli (va_runV (As := [.int p0]) (rest := []) ⟨hx, hb, hml, hown, hw⟩ (m_isField l dC dI b gg mt mc mh mf md p0 s.heap.size (by omega)) ⟨callB_of 1 hw (zz_good tw_229) rfl rfl rfl (hw _ tw_184) (hw _ tw_230) (by decide +kernel) ⟨Nat.le_of_ble_eq_true rfl, Nat.le_of_ble_eq_true rfl⟩, (hw _ tw_231), (hw _ tw_232)⟩ ⟨zz_blind, va_recv hKc hPc (ci := 8) (q0 := 0) rfl rfl, zz_pre hPc hKc hDc hN⟩ rfl rfl hl.1 rfl (lv_room (Nat.le_of_ble_eq_true rfl)) dX8_fieldOf_2 ⟨Nat.le_of_ble_eq_true rfl, Nat.le_of_ble_eq_true rfl⟩) hS (fun q _ h => hFc q h) hFc (fun r_1 u_1 t H1 locs ht hvm e_1 hB hz1 hk1 hS => ?_)
  try dsimp only at e_1
  have hP := zz_keep hP hk1
  clear hk1 hB ht hvm
  generalize H1 = H at hP hS ⊢
  rcases e_1 with ⟨n1_1, er_1⟩ | ⟨n1_1, er_1⟩
  · refine zz_seti 1 er_1 ?_
    refine lv_if_ne (tgt := 10) hx hb dX8_fieldOf_5 (by decide) (fun _ => ?_) (fun c_9 => absurd c_9 (by decide))
    refine lv_iload_n hx hb dX8_fieldOf_10 rfl (lv_at hl 2 rfl) ?_
    by_cases c_2 : p1 = 0
    · have zc_2 := c_2
      rw [← Int32.toInt_inj] at zc_2
      try rw [show (0 : Int32).toInt = 0 from by decide] at zc_2
      refine lv_tableIn (tgt := 52) hx hb dX8_fieldOf_11 (by rw [c_2]; decide) (by rw [c_2]; decide) (by rw [c_2]; rfl) (by decide) ?_
      refine lv_aload_n hx hb dX8_fieldOf_52 rfl (lv_at hl 0 rfl) ?_
      refine va_get (D := (dC, dI)) (ci := 8) (v := .ref (b 26)) (C := RX8) (T := TX8) (N := 49) hx hb hw zz_inX8 hown hK hP 0 rfl rfl 25 (by decide) (hw _ tw_240) (fun _ h9 => h9) rfl dX8_fieldOf_53 ?_
      refine lv_iload_n hx hb dX8_fieldOf_56 rfl (lv_at hl 1 rfl) ?_
      refine va_iald hx hb hK hP 1 0 rfl rfl (vp_in_iff.mpr (by constructor <;> omega)) dX8_fieldOf_57 ?_
      exact W.iret (v := (ow (Int32.toNatClampNeg p0))) hx hb hr (fun t ht hW => ⟨⟨(ow (Int32.toNatClampNeg p0)), (), rfl, (Or.inl ⟨by omega, (by rw [c_2, zz_foV_0])⟩), trivial⟩, hS.F ht⟩) hS.2.2 dX8_fieldOf_58
    by_cases c_3 : p1 = 1
    · have zc_3 := c_3
      rw [← Int32.toInt_inj] at zc_3
      try rw [show (1 : Int32).toInt = 1 from by decide] at zc_3
      refine lv_tableIn (tgt := 59) hx hb dX8_fieldOf_11 (by rw [c_3]; decide) (by rw [c_3]; decide) (by rw [c_3]; rfl) (by decide) ?_
      refine lv_aload_n hx hb dX8_fieldOf_59 rfl (lv_at hl 0 rfl) ?_
      refine va_get (D := (dC, dI)) (ci := 8) (v := .ref (b 27)) (C := RX8) (T := TX8) (N := 49) hx hb hw zz_inX8 hown hK hP 0 rfl rfl 26 (by decide) (hw _ tw_241) (fun _ h9 => h9) rfl dX8_fieldOf_60 ?_
      refine lv_iload_n hx hb dX8_fieldOf_63 rfl (lv_at hl 1 rfl) ?_
      refine va_iald hx hb hK hP 2 0 rfl rfl (vp_in_iff.mpr (by constructor <;> omega)) dX8_fieldOf_64 ?_
      exact W.iret (v := (kd (Int32.toNatClampNeg p0))) hx hb hr (fun t ht hW => ⟨⟨(kd (Int32.toNatClampNeg p0)), (), rfl, (Or.inl ⟨by omega, (by rw [c_3, zz_foV_1])⟩), trivial⟩, hS.F ht⟩) hS.2.2 dX8_fieldOf_65
    by_cases c_4 : p1 = 2
    · have zc_4 := c_4
      rw [← Int32.toInt_inj] at zc_4
      try rw [show (2 : Int32).toInt = 2 from by decide] at zc_4
      refine lv_tableIn (tgt := 66) hx hb dX8_fieldOf_11 (by rw [c_4]; decide) (by rw [c_4]; decide) (by rw [c_4]; rfl) (by decide) ?_
      refine lv_aload_n hx hb dX8_fieldOf_66 rfl (lv_at hl 0 rfl) ?_
      refine va_get (D := (dC, dI)) (ci := 8) (v := .ref (b 28)) (C := RX8) (T := TX8) (N := 49) hx hb hw zz_inX8 hown hK hP 0 rfl rfl 27 (by decide) (hw _ tw_233) (fun _ h9 => h9) rfl dX8_fieldOf_67 ?_
      refine lv_iload_n hx hb dX8_fieldOf_70 rfl (lv_at hl 1 rfl) ?_
      refine va_iald hx hb hK hP 3 0 rfl rfl (vp_in_iff.mpr (by constructor <;> omega)) dX8_fieldOf_71 ?_
      exact W.iret (v := (nee (Int32.toNatClampNeg p0))) hx hb hr (fun t ht hW => ⟨⟨(nee (Int32.toNatClampNeg p0)), (), rfl, (Or.inl ⟨by omega, (by rw [c_4, zz_foV_2])⟩), trivial⟩, hS.F ht⟩) hS.2.2 dX8_fieldOf_72
    by_cases c_5 : p1 = 3
    · have zc_5 := c_5
      rw [← Int32.toInt_inj] at zc_5
      try rw [show (3 : Int32).toInt = 3 from by decide] at zc_5
      refine lv_tableIn (tgt := 73) hx hb dX8_fieldOf_11 (by rw [c_5]; decide) (by rw [c_5]; decide) (by rw [c_5]; rfl) (by decide) ?_
      refine lv_aload_n hx hb dX8_fieldOf_73 rfl (lv_at hl 0 rfl) ?_
      refine va_get (D := (dC, dI)) (ci := 8) (v := .ref (b 29)) (C := RX8) (T := TX8) (N := 49) hx hb hw zz_inX8 hown hK hP 0 rfl rfl 28 (by decide) (hw _ tw_223) (fun _ h9 => h9) rfl dX8_fieldOf_74 ?_
      refine lv_iload_n hx hb dX8_fieldOf_77 rfl (lv_at hl 1 rfl) ?_
      refine va_iald hx hb hK hP 4 0 rfl rfl (vp_in_iff.mpr (by constructor <;> omega)) dX8_fieldOf_78 ?_
      exact W.iret (v := (re (Int32.toNatClampNeg p0))) hx hb hr (fun t ht hW => ⟨⟨(re (Int32.toNatClampNeg p0)), (), rfl, (Or.inl ⟨by omega, (by rw [c_5, zz_foV_3])⟩), trivial⟩, hS.F ht⟩) hS.2.2 dX8_fieldOf_79
    by_cases c_6 : p1 = 4
    · have zc_6 := c_6
      rw [← Int32.toInt_inj] at zc_6
      try rw [show (4 : Int32).toInt = 4 from by decide] at zc_6
      refine lv_tableIn (tgt := 80) hx hb dX8_fieldOf_11 (by rw [c_6]; decide) (by rw [c_6]; decide) (by rw [c_6]; rfl) (by decide) ?_
      refine lv_aload_n hx hb dX8_fieldOf_80 rfl (lv_at hl 0 rfl) ?_
      refine va_get (D := (dC, dI)) (ci := 8) (v := .ref (b 30)) (C := RX8) (T := TX8) (N := 49) hx hb hw zz_inX8 hown hK hP 0 rfl rfl 29 (by decide) (hw _ tw_224) (fun _ h9 => h9) rfl dX8_fieldOf_81 ?_
      refine lv_iload_n hx hb dX8_fieldOf_84 rfl (lv_at hl 1 rfl) ?_
      refine va_iald hx hb hK hP 5 0 rfl rfl (vp_in_iff.mpr (by constructor <;> omega)) dX8_fieldOf_85 ?_
      exact W.iret (v := (va (Int32.toNatClampNeg p0))) hx hb hr (fun t ht hW => ⟨⟨(va (Int32.toNatClampNeg p0)), (), rfl, (Or.inl ⟨by omega, (by rw [c_6, zz_foV_4])⟩), trivial⟩, hS.F ht⟩) hS.2.2 dX8_fieldOf_86
    by_cases c_7 : p1 = 5
    · have zc_7 := c_7
      rw [← Int32.toInt_inj] at zc_7
      try rw [show (5 : Int32).toInt = 5 from by decide] at zc_7
      refine lv_tableIn (tgt := 87) hx hb dX8_fieldOf_11 (by rw [c_7]; decide) (by rw [c_7]; decide) (by rw [c_7]; rfl) (by decide) ?_
      refine lv_aload_n hx hb dX8_fieldOf_87 rfl (lv_at hl 0 rfl) ?_
      refine va_get (D := (dC, dI)) (ci := 8) (v := .ref (b 31)) (C := RX8) (T := TX8) (N := 49) hx hb hw zz_inX8 hown hK hP 0 rfl rfl 30 (by decide) (hw _ tw_234) (fun _ h9 => h9) rfl dX8_fieldOf_88 ?_
      refine lv_iload_n hx hb dX8_fieldOf_91 rfl (lv_at hl 1 rfl) ?_
      refine va_iald hx hb hK hP 6 0 rfl rfl (vp_in_iff.mpr (by constructor <;> omega)) dX8_fieldOf_92 ?_
      exact W.iret (v := (dn (Int32.toNatClampNeg p0))) hx hb hr (fun t ht hW => ⟨⟨(dn (Int32.toNatClampNeg p0)), (), rfl, (Or.inl ⟨by omega, (by rw [c_7, zz_foV_5])⟩), trivial⟩, hS.F ht⟩) hS.2.2 dX8_fieldOf_93
    by_cases c_8 : p1 = 6
    · have zc_8 := c_8
      rw [← Int32.toInt_inj] at zc_8
      try rw [show (6 : Int32).toInt = 6 from by decide] at zc_8
      refine lv_tableIn (tgt := 94) hx hb dX8_fieldOf_11 (by rw [c_8]; decide) (by rw [c_8]; decide) (by rw [c_8]; rfl) (by decide) ?_
      refine lv_aload_n hx hb dX8_fieldOf_94 rfl (lv_at hl 0 rfl) ?_
      refine va_get (D := (dC, dI)) (ci := 8) (v := .ref (b 31)) (C := RX8) (T := TX8) (N := 49) hx hb hw zz_inX8 hown hK hP 0 rfl rfl 30 (by decide) (hw _ tw_234) (fun _ h9 => h9) rfl dX8_fieldOf_95 ?_
      refine lv_iload_n hx hb dX8_fieldOf_98 rfl (lv_at hl 1 rfl) ?_
      refine va_iald hx hb hK hP 6 0 rfl rfl (vp_in_iff.mpr (by constructor <;> omega)) dX8_fieldOf_99 ?_
      refine lv_if_ge (tgt := 107) hx hb dX8_fieldOf_100 (by decide) (fun c_9 => ?_) (fun c_9 => ?_)
      · have zc_9 := c_9
        rw [Int32.le_iff_toInt_le] at zc_9
        try rw [show (0 : Int32).toInt = 0 from by decide] at zc_9
        refine lv_aload_n hx hb dX8_fieldOf_107 rfl (lv_at hl 0 rfl) ?_
        refine va_get (D := (dC, dI)) (ci := 8) (v := .ref (b 32)) (C := RX8) (T := TX8) (N := 49) hx hb hw zz_inX8 hown hK hP 0 rfl rfl 31 (by decide) (hw _ tw_235) (fun _ h9 => h9) rfl dX8_fieldOf_108 ?_
        refine lv_iload_n hx hb dX8_fieldOf_111 rfl (lv_at hl 1 rfl) ?_
        refine va_iald hx hb hK hP 7 0 rfl rfl (vp_in_iff.mpr (by constructor <;> omega)) dX8_fieldOf_112 ?_
        exact W.iret (v := (gt (Int32.toNatClampNeg p0))) hx hb hr (fun t ht hW => ⟨⟨(gt (Int32.toNatClampNeg p0)), (), rfl, (Or.inl ⟨by omega, (by rw [c_8, zz_foV_6, if_neg (by omega)])⟩), trivial⟩, hS.F ht⟩) hS.2.2 dX8_fieldOf_113
      · have zc_9 := c_9
        rw [Int32.le_iff_toInt_le] at zc_9
        try rw [show (0 : Int32).toInt = 0 from by decide] at zc_9
        refine lv_iconst (v := (-1)) hx hb dX8_fieldOf_103 (by decide) ?_
        refine lv_goto (tgt := 113) hx hb dX8_fieldOf_104 (by decide) ?_
        exact W.iret (v := (-1)) hx hb hr (fun t ht hW => ⟨⟨(-1), (), rfl, (Or.inl ⟨by omega, (by rw [c_8, zz_foV_6, if_pos (by omega)])⟩), trivial⟩, hS.F ht⟩) hS.2.2 dX8_fieldOf_113
    refine lv_tableOut (tgt := 114) hx hb dX8_fieldOf_11 (by have := zz_ne c_2; rw [show (0 : Int32).toInt = 0 from by decide] at this; have := zz_ne c_3; rw [show (1 : Int32).toInt = 1 from by decide] at this; have := zz_ne c_4; rw [show (2 : Int32).toInt = 2 from by decide] at this; have := zz_ne c_5; rw [show (3 : Int32).toInt = 3 from by decide] at this; have := zz_ne c_6; rw [show (4 : Int32).toInt = 4 from by decide] at this; have := zz_ne c_7; rw [show (5 : Int32).toInt = 5 from by decide] at this; have := zz_ne c_8; rw [show (6 : Int32).toInt = 6 from by decide] at this; omega) (by decide) ?_
    have zc_2 := c_2
    rw [← Int32.toInt_inj] at zc_2
    try rw [show (0 : Int32).toInt = 0 from by decide] at zc_2
    have zc_3 := c_3
    rw [← Int32.toInt_inj] at zc_3
    try rw [show (1 : Int32).toInt = 1 from by decide] at zc_3
    have zc_4 := c_4
    rw [← Int32.toInt_inj] at zc_4
    try rw [show (2 : Int32).toInt = 2 from by decide] at zc_4
    have zc_5 := c_5
    rw [← Int32.toInt_inj] at zc_5
    try rw [show (3 : Int32).toInt = 3 from by decide] at zc_5
    have zc_6 := c_6
    rw [← Int32.toInt_inj] at zc_6
    try rw [show (4 : Int32).toInt = 4 from by decide] at zc_6
    have zc_7 := c_7
    rw [← Int32.toInt_inj] at zc_7
    try rw [show (5 : Int32).toInt = 5 from by decide] at zc_7
    have zc_8 := c_8
    rw [← Int32.toInt_inj] at zc_8
    try rw [show (6 : Int32).toInt = 6 from by decide] at zc_8
    refine lv_iconst (v := (-1)) hx hb dX8_fieldOf_114 (by decide) ?_
    exact W.iret (v := (-1)) hx hb hr (fun t ht hW => ⟨⟨(-1), (), rfl, (Or.inl ⟨by omega, (zz_foV_d c_2 c_3 c_4 c_5 c_6 c_7 c_8).symm⟩), trivial⟩, hS.F ht⟩) hS.2.2 dX8_fieldOf_115
  · refine zz_seti 0 er_1 ?_
    refine lv_if_ne (tgt := 10) hx hb dX8_fieldOf_5 (by decide) (fun c_9 => absurd c_9 (by decide)) (fun _ => ?_)
    refine lv_iconst (v := (-1)) hx hb dX8_fieldOf_8 (by decide) ?_
    exact W.iret (v := (-1)) hx hb hr (fun t ht hW => ⟨⟨(-1), (), rfl, (Or.inr ⟨by omega, rfl⟩), trivial⟩, hS.F ht⟩) hS.2.2 dX8_fieldOf_9
set_option maxHeartbeats 4000000 in
set_option maxRecDepth 100000 in
theorem mx_about (l : Launch) (dC : Nat → ClassId) (dI : Nat → Nat → Nat) (b : Nat → Nat) (gg : Nat → Int32) (mt : Nat) (mc : Nat) (mh : Nat) (mf : Nat) (md : Nat) (cI : ClassId) (lo : Nat → Int32) (p0 : Int32) (sz : Nat) : Met l yX8_about (zz_w yX8_about cX8_about 2 (some .int)) ({ frames := 1, cells := 0, slots := 0, locals := 25 }) (va_Pc [.ref (b 0), .int p0] (zz_B (dC, dI) sz [(b 0, .inr (8, [.ref (b 1), .int (nI mt), .int (gg 2), .int (gg 3), .int (gg 4), .int (gg 5), .int (gg 6), .int (gg 7), .int (gg 8), .int (gg 9), .ref (b 11), .ref (b 12), .ref (b 13), .int (nI mc), .int (nI mh), .ref (b 16), .ref (b 17), .ref (b 18), .ref (b 19), .ref (b 20), .ref (b 21), .ref (b 22), .ref (b 23), .ref (b 24), .int (nI mf), .ref (b 26), .ref (b 27), .ref (b 28), .ref (b 29), .ref (b 30), .ref (b 31), .ref (b 32), .int (gg 32), .int (nI md), .ref (b 35), .ref (b 36), .ref (b 37), .ref (b 38), .ref (b 39), .ref (b 40), .int (gg 40), .ref (b 42), .ref (b 43), .ref (b 44), .int (gg 44), .ref (b 46), .ref (b 47), .int (gg 47), .ref (b 49)])), (b 24, .inl (cI, 10, .inl lo))] [(cI, .int)])) (va_Qi (fun (r : Int32) (_ : Unit) => r = (zz_abV lo (nI mh) (nI mf) (nI mc) (nI md) (gg 32) (nI mt) p0)) (fun _ _ => True) (va_A [] sz)) 0 0 (va_A [] sz) := by
  refine Met.ofW (cc := cX8_about) (maxL := 2) (ret := (some .int)) (by decide) rfl ?_
  intro p e s m args below meth c s₁ B hml hv
  obtain ⟨rfl, hsz, hP, hK, hD0, hN⟩ := hv
  have hx := B.exec
  have hb := B.bytes
  have hr := B.returns
  have hts := atoms_spec (ws := zz_w yX8_about cX8_about 2 (some .int)) B.pre
  have hw : ∀ w ∈ zz_all, w.before _ s = true := fun w h => hts w (List.mem_cons_of_mem _ h)
  have hown : s.vm.findClass RX8 = some m.cls := findClass_of_methodNamed B.named
  have hlocks := B.notSynchronized
  subst hsz
  have hD := hD0
  generalize hAe : va_A [] s.heap.size = A
  have hA : ∀ q : Nat, s.heap.size ≤ q → A q := fun q h => by rw [← hAe]; exact Or.inr h
  have hS : va_S A s.heap s.heap [] := va_S.rf
  have hP : va_P (dC, dI) vwCl [(b 0, .inr (8, [.ref (b 1), .int (nI mt), .int (gg 2), .int (gg 3), .int (gg 4), .int (gg 5), .int (gg 6), .int (gg 7), .int (gg 8), .int (gg 9), .ref (b 11), .ref (b 12), .ref (b 13), .int (nI mc), .int (nI mh), .ref (b 16), .ref (b 17), .ref (b 18), .ref (b 19), .ref (b 20), .ref (b 21), .ref (b 22), .ref (b 23), .ref (b 24), .int (nI mf), .ref (b 26), .ref (b 27), .ref (b 28), .ref (b 29), .ref (b 30), .ref (b 31), .ref (b 32), .int (gg 32), .int (nI md), .ref (b 35), .ref (b 36), .ref (b 37), .ref (b 38), .ref (b 39), .ref (b 40), .int (gg 40), .ref (b 42), .ref (b 43), .ref (b 44), .int (gg 44), .ref (b 46), .ref (b 47), .int (gg 47), .ref (b 49)])), (b 24, .inl (cI, 10, .inl lo))] s.heap := hP
  have hl := lv_entry ([.ref (b 0), .int p0]) (n := 2) (Nat.le_of_ble_eq_true rfl)
  rw [lg_entry_eq]
  generalize (lg_sl ([.ref (b 0), .int p0]) ++ List.replicate (2 - (lg_sl ([.ref (b 0), .int p0])).length) Slot.unset).toArray = ls at hl ⊢
  have hl : lv_has ls 2 [(0, .ref (b 0)), (1, .int p0)] := hl
  refine lv_iload_n hx hb dX8_about_0 rfl (lv_at hl 1 rfl) ?_
  by_cases c_1 : p0 = 0
  · have zc_1 := c_1
    rw [← Int32.toInt_inj] at zc_1
    try rw [show (0 : Int32).toInt = 0 from by decide] at zc_1
    refine lv_tableIn (tgt := 40) hx hb dX8_about_1 (by rw [c_1]; decide) (by rw [c_1]; decide) (by rw [c_1]; rfl) (by decide) ?_
    refine lv_aload_n hx hb dX8_about_40 rfl (lv_at hl 0 rfl) ?_
    refine va_get (D := (dC, dI)) (ci := 8) (v := .int (nI mh)) (C := RX8) (T := TX8) (N := 49) hx hb hw zz_inX8 hown hK hP 0 rfl rfl 14 (by decide) (hw _ tw_182) (fun _ h9 => h9) rfl dX8_about_41 ?_
    exact W.iret (v := (nI mh)) hx hb hr (fun t ht hW => ⟨⟨(nI mh), (), rfl, (by rw [c_1, zz_abV_0]), trivial⟩, hS.F ht⟩) hS.2.2 dX8_about_44
  by_cases c_2 : p0 = 1
  · have zc_2 := c_2
    rw [← Int32.toInt_inj] at zc_2
    try rw [show (1 : Int32).toInt = 1 from by decide] at zc_2
    refine lv_tableIn (tgt := 45) hx hb dX8_about_1 (by rw [c_2]; decide) (by rw [c_2]; decide) (by rw [c_2]; rfl) (by decide) ?_
    refine lv_aload_n hx hb dX8_about_45 rfl (lv_at hl 0 rfl) ?_
    refine va_get (D := (dC, dI)) (ci := 8) (v := .int (nI mf)) (C := RX8) (T := TX8) (N := 49) hx hb hw zz_inX8 hown hK hP 0 rfl rfl 24 (by decide) (hw _ tw_187) (fun _ h9 => h9) rfl dX8_about_46 ?_
    exact W.iret (v := (nI mf)) hx hb hr (fun t ht hW => ⟨⟨(nI mf), (), rfl, (by rw [c_2, zz_abV_1]), trivial⟩, hS.F ht⟩) hS.2.2 dX8_about_49
  by_cases c_3 : p0 = 2
  · have zc_3 := c_3
    rw [← Int32.toInt_inj] at zc_3
    try rw [show (2 : Int32).toInt = 2 from by decide] at zc_3
    refine lv_tableIn (tgt := 50) hx hb dX8_about_1 (by rw [c_3]; decide) (by rw [c_3]; decide) (by rw [c_3]; rfl) (by decide) ?_
    refine lv_aload_n hx hb dX8_about_50 rfl (lv_at hl 0 rfl) ?_
    refine va_get (D := (dC, dI)) (ci := 8) (v := .int (nI mc)) (C := RX8) (T := TX8) (N := 49) hx hb hw zz_inX8 hown hK hP 0 rfl rfl 13 (by decide) (hw _ tw_219) (fun _ h9 => h9) rfl dX8_about_51 ?_
    exact W.iret (v := (nI mc)) hx hb hr (fun t ht hW => ⟨⟨(nI mc), (), rfl, (by rw [c_3, zz_abV_2]), trivial⟩, hS.F ht⟩) hS.2.2 dX8_about_54
  by_cases c_4 : p0 = 3
  · have zc_4 := c_4
    rw [← Int32.toInt_inj] at zc_4
    try rw [show (3 : Int32).toInt = 3 from by decide] at zc_4
    refine lv_tableIn (tgt := 55) hx hb dX8_about_1 (by rw [c_4]; decide) (by rw [c_4]; decide) (by rw [c_4]; rfl) (by decide) ?_
    refine lv_aload_n hx hb dX8_about_55 rfl (lv_at hl 0 rfl) ?_
    refine va_get (D := (dC, dI)) (ci := 8) (v := .int (nI md)) (C := RX8) (T := TX8) (N := 49) hx hb hw zz_inX8 hown hK hP 0 rfl rfl 33 (by decide) (hw _ tw_206) (fun _ h9 => h9) rfl dX8_about_56 ?_
    exact W.iret (v := (nI md)) hx hb hr (fun t ht hW => ⟨⟨(nI md), (), rfl, (by rw [c_4, zz_abV_3]), trivial⟩, hS.F ht⟩) hS.2.2 dX8_about_59
  by_cases c_5 : p0 = 4
  · have zc_5 := c_5
    rw [← Int32.toInt_inj] at zc_5
    try rw [show (4 : Int32).toInt = 4 from by decide] at zc_5
    refine lv_tableIn (tgt := 60) hx hb dX8_about_1 (by rw [c_5]; decide) (by rw [c_5]; decide) (by rw [c_5]; rfl) (by decide) ?_
    refine lv_aload_n hx hb dX8_about_60 rfl (lv_at hl 0 rfl) ?_
    refine va_get (D := (dC, dI)) (ci := 8) (v := .int (gg 32)) (C := RX8) (T := TX8) (N := 49) hx hb hw zz_inX8 hown hK hP 0 rfl rfl 32 (by decide) (hw _ tw_220) (fun _ h9 => h9) rfl dX8_about_61 ?_
    exact W.iret (v := (gg 32)) hx hb hr (fun t ht hW => ⟨⟨(gg 32), (), rfl, (by rw [c_5, zz_abV_4]), trivial⟩, hS.F ht⟩) hS.2.2 dX8_about_64
  by_cases c_6 : p0 = 5
  · have zc_6 := c_6
    rw [← Int32.toInt_inj] at zc_6
    try rw [show (5 : Int32).toInt = 5 from by decide] at zc_6
    refine lv_tableIn (tgt := 65) hx hb dX8_about_1 (by rw [c_6]; decide) (by rw [c_6]; decide) (by rw [c_6]; rfl) (by decide) ?_
    refine lv_aload_n hx hb dX8_about_65 rfl (lv_at hl 0 rfl) ?_
    refine va_get (D := (dC, dI)) (ci := 8) (v := .int (nI mt)) (C := RX8) (T := TX8) (N := 49) hx hb hw zz_inX8 hown hK hP 0 rfl rfl 1 (by decide) (hw _ tw_192) (fun _ h9 => h9) rfl dX8_about_66 ?_
    exact W.iret (v := (nI mt)) hx hb hr (fun t ht hW => ⟨⟨(nI mt), (), rfl, (by rw [c_6, zz_abV_5]), trivial⟩, hS.F ht⟩) hS.2.2 dX8_about_69
  refine lv_tableOut (tgt := 70) hx hb dX8_about_1 (by have := zz_ne c_1; rw [show (0 : Int32).toInt = 0 from by decide] at this; have := zz_ne c_2; rw [show (1 : Int32).toInt = 1 from by decide] at this; have := zz_ne c_3; rw [show (2 : Int32).toInt = 2 from by decide] at this; have := zz_ne c_4; rw [show (3 : Int32).toInt = 3 from by decide] at this; have := zz_ne c_5; rw [show (4 : Int32).toInt = 4 from by decide] at this; have := zz_ne c_6; rw [show (5 : Int32).toInt = 5 from by decide] at this; omega) (by decide) ?_
  have zc_1 := c_1
  rw [← Int32.toInt_inj] at zc_1
  try rw [show (0 : Int32).toInt = 0 from by decide] at zc_1
  have zc_2 := c_2
  rw [← Int32.toInt_inj] at zc_2
  try rw [show (1 : Int32).toInt = 1 from by decide] at zc_2
  have zc_3 := c_3
  rw [← Int32.toInt_inj] at zc_3
  try rw [show (2 : Int32).toInt = 2 from by decide] at zc_3
  have zc_4 := c_4
  rw [← Int32.toInt_inj] at zc_4
  try rw [show (3 : Int32).toInt = 3 from by decide] at zc_4
  have zc_5 := c_5
  rw [← Int32.toInt_inj] at zc_5
  try rw [show (4 : Int32).toInt = 4 from by decide] at zc_5
  have zc_6 := c_6
  rw [← Int32.toInt_inj] at zc_6
  try rw [show (5 : Int32).toInt = 5 from by decide] at zc_6
  refine lv_iload_n hx hb dX8_about_70 rfl (lv_at hl 1 rfl) ?_
  refine lv_i2l (v := Int32.toInt64 p0) hx hb dX8_about_71 rfl ?_
  refine lv_ldc2 (v := 20) hx hb hown (hw _ tw_221) dX8_about_72 ?_
  refine zz_setl (Int32.toInt64 20) (by decide) ?_
  refine lv_ldc2 (v := 29) hx hb hown (hw _ tw_222) dX8_about_75 ?_
  refine zz_setl (Int32.toInt64 29) (by decide) ?_
  obtain ⟨hPc, hDc⟩ := zz_sub2 (ws' := []) hP hD [] (by decide) rfl
  have hKc := hK.sub (tys' := []) [] rfl
  have hFc := zz_free0 hS hA
  refine va_calli (va_runS (As := [.long (Int32.toInt64 p0), .long (Int32.toInt64 20), .long (Int32.toInt64 29)]) (rest := []) ⟨hx, hb, hml, hown, hw⟩ (k_in l dC dI p0 20 29 s.heap.size) ⟨callB_of 3 hw (zz_good tw_183) rfl rfl rfl (hw _ tw_184) (hw _ tw_185) (by decide +kernel) ⟨Nat.le_of_ble_eq_true rfl, Nat.le_of_ble_eq_true rfl⟩, (hw _ tw_186)⟩ ⟨zz_blind, zz_pre hPc hKc hDc hN⟩ rfl rfl hl.1 rfl (lv_room (Nat.le_of_ble_eq_true rfl)) dX8_about_78 ⟨Nat.le_of_ble_eq_true rfl, Nat.le_of_ble_eq_true rfl⟩) hS (fun q _ h => hFc q h) hFc (fun r_7 u_7 t H1 locs ht hvm e_7 hB hz1 hk1 hS => ?_)
  try dsimp only at e_7
  have hP := zz_keep hP hk1
  clear hk1 hB ht hvm
  generalize H1 = H at hP hS ⊢
  refine lv_if_eq (tgt := 96) hx hb dX8_about_81 (by decide) (fun c_8 => ?_) (fun c_8 => ?_)
  · have zc_8 := c_8
    rw [e_7, zz_in0, Int32.le_iff_toInt_le, Int32.le_iff_toInt_le] at zc_8
    try rw [show (20 : Int32).toInt = 20 from by decide] at zc_8
    try rw [show (29 : Int32).toInt = 29 from by decide] at zc_8
    refine lv_iconst (v := (-1)) hx hb dX8_about_96 (by decide) ?_
    exact W.iret (v := (-1)) hx hb hr (fun t ht hW => ⟨⟨(-1), (), rfl, (by rw [zz_abV_d c_1 c_2 c_3 c_4 c_5 c_6, if_neg (by omega)]), trivial⟩, hS.F ht⟩) hS.2.2 dX8_about_97
  · have zc_8 := c_8
    rw [e_7, zz_in0, Int32.le_iff_toInt_le, Int32.le_iff_toInt_le] at zc_8
    try rw [show (20 : Int32).toInt = 20 from by decide] at zc_8
    try rw [show (29 : Int32).toInt = 29 from by decide] at zc_8
    refine lv_aload_n hx hb dX8_about_84 rfl (lv_at hl 0 rfl) ?_
    refine va_get (D := (dC, dI)) (ci := 8) (v := .ref (b 24)) (C := RX8) (T := TX8) (N := 49) hx hb hw zz_inX8 hown hK hP 0 rfl rfl 23 (by decide) (hw _ tw_204) (fun _ h9 => h9) rfl dX8_about_85 ?_
    refine lv_iload_n hx hb dX8_about_88 rfl (lv_at hl 1 rfl) ?_
    refine lv_bipush (v := 20) hx hb dX8_about_89 (by decide) ?_
    refine lv_isub hx hb dX8_about_91 ?_
    refine va_iald hx hb hK hP 1 0 rfl rfl (zz_sub20 (by omega) (by omega)) dX8_about_92 ?_
    refine lv_goto (tgt := 97) hx hb dX8_about_93 (by decide) ?_
    exact W.iret (v := (lo (Int32.toNatClampNeg (p0 - 20)))) hx hb hr (fun t ht hW => ⟨⟨(lo (Int32.toNatClampNeg (p0 - 20))), (), rfl, (by rw [zz_abV_d c_1 c_2 c_3 c_4 c_5 c_6, if_pos (by omega)]), trivial⟩, hS.F ht⟩) hS.2.2 dX8_about_97
