theorem zy_b36mn_0 : decode cX8_first 0 = .ok (.iconst (-1), 1) ∧ decode cX8_first 1 = .ok (.istore_n 3, 1) ∧ decode cX8_first 2 = .ok (.aload_n 0, 1) ∧ decode cX8_first 3 = .ok (.getfield 115, 3) ∧ decode cX8_first 6 = .ok (.iconst 1, 1) ∧ decode cX8_first 7 = .ok (.isub, 1) ∧ decode cX8_first 8 = .ok (.istore 4, 2) ∧ decode cX8_first 10 = .ok (.iload 4, 2) := by decide +kernel
theorem dX8_first_0 : decode cX8_first 0 = .ok (.iconst (-1), 1) := zy_b36mn_0.1
theorem dX8_first_1 : decode cX8_first 1 = .ok (.istore_n 3, 1) := zy_b36mn_0.2.1
theorem dX8_first_2 : decode cX8_first 2 = .ok (.aload_n 0, 1) := zy_b36mn_0.2.2.1
theorem dX8_first_3 : decode cX8_first 3 = .ok (.getfield 115, 3) := zy_b36mn_0.2.2.2.1
theorem dX8_first_6 : decode cX8_first 6 = .ok (.iconst 1, 1) := zy_b36mn_0.2.2.2.2.1
theorem dX8_first_7 : decode cX8_first 7 = .ok (.isub, 1) := zy_b36mn_0.2.2.2.2.2.1
theorem dX8_first_8 : decode cX8_first 8 = .ok (.istore 4, 2) := zy_b36mn_0.2.2.2.2.2.2.1
theorem dX8_first_10 : decode cX8_first 10 = .ok (.iload 4, 2) := zy_b36mn_0.2.2.2.2.2.2.2
theorem zy_b36mn_1 : decode cX8_first 12 = .ok (.ifCond .lt 53, 3) ∧ decode cX8_first 15 = .ok (.iload_n 1, 1) ∧ decode cX8_first 16 = .ok (.iload 4, 2) ∧ decode cX8_first 18 = .ok (.ishr, 1) ∧ decode cX8_first 19 = .ok (.iconst 1, 1) ∧ decode cX8_first 20 = .ok (.iand, 1) ∧ decode cX8_first 21 = .ok (.iconst 1, 1) ∧ decode cX8_first 22 = .ok (.if_icmp .ne 35, 3) := by decide +kernel
theorem dX8_first_12 : decode cX8_first 12 = .ok (.ifCond .lt 53, 3) := zy_b36mn_1.1
theorem dX8_first_15 : decode cX8_first 15 = .ok (.iload_n 1, 1) := zy_b36mn_1.2.1
theorem dX8_first_16 : decode cX8_first 16 = .ok (.iload 4, 2) := zy_b36mn_1.2.2.1
theorem dX8_first_18 : decode cX8_first 18 = .ok (.ishr, 1) := zy_b36mn_1.2.2.2.1
theorem dX8_first_19 : decode cX8_first 19 = .ok (.iconst 1, 1) := zy_b36mn_1.2.2.2.2.1
theorem dX8_first_20 : decode cX8_first 20 = .ok (.iand, 1) := zy_b36mn_1.2.2.2.2.2.1
theorem dX8_first_21 : decode cX8_first 21 = .ok (.iconst 1, 1) := zy_b36mn_1.2.2.2.2.2.2.1
theorem dX8_first_22 : decode cX8_first 22 = .ok (.if_icmp .ne 35, 3) := zy_b36mn_1.2.2.2.2.2.2.2
theorem zy_b36mn_2 : decode cX8_first 25 = .ok (.iload_n 2, 1) ∧ decode cX8_first 26 = .ok (.ifCond .eq 16, 3) ∧ decode cX8_first 29 = .ok (.aload_n 0, 1) ∧ decode cX8_first 30 = .ok (.getfield 91, 3) ∧ decode cX8_first 33 = .ok (.iload 4, 2) ∧ decode cX8_first 35 = .ok (.iaload, 1) ∧ decode cX8_first 36 = .ok (.ifCond .ge 21, 3) ∧ decode cX8_first 39 = .ok (.goto 13, 3) := by decide +kernel
theorem dX8_first_25 : decode cX8_first 25 = .ok (.iload_n 2, 1) := zy_b36mn_2.1
theorem dX8_first_26 : decode cX8_first 26 = .ok (.ifCond .eq 16, 3) := zy_b36mn_2.2.1
theorem dX8_first_29 : decode cX8_first 29 = .ok (.aload_n 0, 1) := zy_b36mn_2.2.2.1
theorem dX8_first_30 : decode cX8_first 30 = .ok (.getfield 91, 3) := zy_b36mn_2.2.2.2.1
theorem dX8_first_33 : decode cX8_first 33 = .ok (.iload 4, 2) := zy_b36mn_2.2.2.2.2.1
theorem dX8_first_35 : decode cX8_first 35 = .ok (.iaload, 1) := zy_b36mn_2.2.2.2.2.2.1
theorem dX8_first_36 : decode cX8_first 36 = .ok (.ifCond .ge 21, 3) := zy_b36mn_2.2.2.2.2.2.2.1
theorem dX8_first_39 : decode cX8_first 39 = .ok (.goto 13, 3) := zy_b36mn_2.2.2.2.2.2.2.2
theorem zy_b36mn_3 : decode cX8_first 42 = .ok (.aload_n 0, 1) ∧ decode cX8_first 43 = .ok (.getfield 91, 3) ∧ decode cX8_first 46 = .ok (.iload 4, 2) ∧ decode cX8_first 48 = .ok (.iaload, 1) ∧ decode cX8_first 49 = .ok (.ifCond .le 8, 3) ∧ decode cX8_first 52 = .ok (.iload 4, 2) ∧ decode cX8_first 54 = .ok (.goto 4, 3) ∧ decode cX8_first 57 = .ok (.iload_n 3, 1) := by decide +kernel
theorem dX8_first_42 : decode cX8_first 42 = .ok (.aload_n 0, 1) := zy_b36mn_3.1
theorem dX8_first_43 : decode cX8_first 43 = .ok (.getfield 91, 3) := zy_b36mn_3.2.1
theorem dX8_first_46 : decode cX8_first 46 = .ok (.iload 4, 2) := zy_b36mn_3.2.2.1
theorem dX8_first_48 : decode cX8_first 48 = .ok (.iaload, 1) := zy_b36mn_3.2.2.2.1
theorem dX8_first_49 : decode cX8_first 49 = .ok (.ifCond .le 8, 3) := zy_b36mn_3.2.2.2.2.1
theorem dX8_first_52 : decode cX8_first 52 = .ok (.iload 4, 2) := zy_b36mn_3.2.2.2.2.2.1
theorem dX8_first_54 : decode cX8_first 54 = .ok (.goto 4, 3) := zy_b36mn_3.2.2.2.2.2.2.1
theorem dX8_first_57 : decode cX8_first 57 = .ok (.iload_n 3, 1) := zy_b36mn_3.2.2.2.2.2.2.2
theorem zy_b36mn_4 : decode cX8_first 58 = .ok (.istore_n 3, 1) ∧ decode cX8_first 59 = .ok (.iinc 4 (-1), 3) ∧ decode cX8_first 62 = .ok (.goto (-52), 3) ∧ decode cX8_first 65 = .ok (.iload_n 3, 1) ∧ decode cX8_first 66 = .ok (.ireturn, 1) := by decide +kernel
theorem dX8_first_58 : decode cX8_first 58 = .ok (.istore_n 3, 1) := zy_b36mn_4.1
theorem dX8_first_59 : decode cX8_first 59 = .ok (.iinc 4 (-1), 3) := zy_b36mn_4.2.1
theorem dX8_first_62 : decode cX8_first 62 = .ok (.goto (-52), 3) := zy_b36mn_4.2.2.1
theorem dX8_first_65 : decode cX8_first 65 = .ok (.iload_n 3, 1) := zy_b36mn_4.2.2.2.1
theorem dX8_first_66 : decode cX8_first 66 = .ok (.ireturn, 1) := zy_b36mn_4.2.2.2.2
set_option maxHeartbeats 4000000 in
set_option maxRecDepth 100000 in
theorem m_firstB (l : Launch) (dC : Nat → ClassId) (dI : Nat → Nat → Nat) (b : Nat → Nat) (gg : Nat → Int32) (mt : Nat) (mc : Nat) (mh : Nat) (mf : Nat) (md : Nat) (pn : Nat) (cI : ClassId) (nz : Nat → Int32) (sx : Nat) (sz : Nat) (hmh : mh ≤ 8) (hsx : sx < 256) : Met l yX8_first (zz_w yX8_first cX8_first 5 (some .int)) ({ frames := 0, cells := 0, slots := 0, locals := 0 }) (va_Pc [.ref (b 0), .int (nI sx), .int 1] (zz_B (dC, dI) sz [(b 0, .inr (8, [.ref (b 1), .int (nI mt), .int (gg 2), .int (gg 3), .int (gg 4), .int (gg 5), .int (gg 6), .int (gg 7), .int (gg 8), .int (gg 9), .ref (b 11), .ref (b 12), .ref (b 13), .int (nI mc), .int (nI mh), .ref (b 16), .ref (b 17), .ref (b 18), .ref (b 19), .ref (b 20), .ref (b 21), .ref (b 22), .ref (b 23), .ref (b 24), .int (nI mf), .ref (b 26), .ref (b 27), .ref (b 28), .ref (b 29), .ref (b 30), .ref (b 31), .ref (b 32), .int (gg 32), .int (nI md), .ref (b 35), .ref (b 36), .ref (b 37), .ref (b 38), .ref (b 39), .ref (b 40), .int (nI pn), .ref (b 42), .ref (b 43), .ref (b 44), .int (gg 44), .ref (b 46), .ref (b 47), .int (gg 47), .ref (b 49)])), (b 39, .inl (cI, 8, .inl nz))] [(cI, .int)])) (va_Qi (fun (r : Int32) (_ : Unit) => zz_fs (zz_pb nz sx) r 0 mh) (fun _ _ => True) (va_A [] sz)) 0 0 (va_A [] sz) := by
  refine Met.ofW (cc := cX8_first) (maxL := 5) (ret := (some .int)) (by decide) rfl ?_
  intro p e s m args below meth c s₁ B hml hv
  obtain ⟨rfl, hsz, hP, hK, hD0, hN⟩ := hv
  have hx := B.exec
  have hb := B.bytes
  have hr := B.returns
  have hts := atoms_spec (ws := zz_w yX8_first cX8_first 5 (some .int)) B.pre
  have hw : ∀ w ∈ zz_all, w.before _ s = true := fun w h => hts w (List.mem_cons_of_mem _ h)
  have hown : s.vm.findClass RX8 = some m.cls := findClass_of_methodNamed B.named
  have hlocks := B.notSynchronized
  subst hsz
  have hD := hD0
  generalize hAe : va_A [] s.heap.size = A
  have hA : ∀ q : Nat, s.heap.size ≤ q → A q := fun q h => by rw [← hAe]; exact Or.inr h
  have hS : va_S A s.heap s.heap [] := va_S.rf
  have hP : va_P (dC, dI) vwCl [(b 0, .inr (8, [.ref (b 1), .int (nI mt), .int (gg 2), .int (gg 3), .int (gg 4), .int (gg 5), .int (gg 6), .int (gg 7), .int (gg 8), .int (gg 9), .ref (b 11), .ref (b 12), .ref (b 13), .int (nI mc), .int (nI mh), .ref (b 16), .ref (b 17), .ref (b 18), .ref (b 19), .ref (b 20), .ref (b 21), .ref (b 22), .ref (b 23), .ref (b 24), .int (nI mf), .ref (b 26), .ref (b 27), .ref (b 28), .ref (b 29), .ref (b 30), .ref (b 31), .ref (b 32), .int (gg 32), .int (nI md), .ref (b 35), .ref (b 36), .ref (b 37), .ref (b 38), .ref (b 39), .ref (b 40), .int (nI pn), .ref (b 42), .ref (b 43), .ref (b 44), .int (gg 44), .ref (b 46), .ref (b 47), .int (gg 47), .ref (b 49)])), (b 39, .inl (cI, 8, .inl nz))] s.heap := hP
  have hl := lv_entry ([.ref (b 0), .int (nI sx), .int 1]) (n := 5) (Nat.le_of_ble_eq_true rfl)
  rw [lg_entry_eq]
  generalize (lg_sl ([.ref (b 0), .int (nI sx), .int 1]) ++ List.replicate (5 - (lg_sl ([.ref (b 0), .int (nI sx), .int 1])).length) Slot.unset).toArray = ls at hl ⊢
  have hl : lv_has ls 5 [(0, .ref (b 0)), (1, .int (nI sx)), (2, .int 1)] := hl
  refine lv_iconst (v := (-1)) hx hb dX8_first_0 (by decide) ?_
  refine lv_istore_n (lv' := [(3, .int (-1)), (0, .ref (b 0)), (1, .int (nI sx)), (2, .int 1)]) hx hb dX8_first_1 rfl hl (by decide) rfl (fun ls hl => ?_)
  refine lv_aload_n hx hb dX8_first_2 rfl (lv_at hl 1 rfl) ?_
  refine va_get (D := (dC, dI)) (ci := 8) (v := .int (nI mh)) (C := RX8) (T := TX8) (N := 49) hx hb hw zz_inX8 hown hK hP 0 rfl rfl 14 (by decide) (hw _ tw_182) (fun _ h9 => h9) rfl dX8_first_3 ?_
  refine lv_iconst (v := 1) hx hb dX8_first_6 (by decide) ?_
  refine lv_isub hx hb dX8_first_7 ?_
  refine lv_istore (lv' := [(4, .int ((nI mh) - 1)), (3, .int (-1)), (0, .ref (b 0)), (1, .int (nI sx)), (2, .int 1)]) hx hb dX8_first_8 hl (by decide) rfl (fun ls hl => ?_)
  refine zz_loopS (fun (u : (Nat) × (Int32)) => match u with | (wv, y) => [(b 0, .inr (8, [.ref (b 1), .int (nI mt), .int (gg 2), .int (gg 3), .int (gg 4), .int (gg 5), .int (gg 6), .int (gg 7), .int (gg 8), .int (gg 9), .ref (b 11), .ref (b 12), .ref (b 13), .int (nI mc), .int (nI mh), .ref (b 16), .ref (b 17), .ref (b 18), .ref (b 19), .ref (b 20), .ref (b 21), .ref (b 22), .ref (b 23), .ref (b 24), .int (nI mf), .ref (b 26), .ref (b 27), .ref (b 28), .ref (b 29), .ref (b 30), .ref (b 31), .ref (b 32), .int (gg 32), .int (nI md), .ref (b 35), .ref (b 36), .ref (b 37), .ref (b 38), .ref (b 39), .ref (b 40), .int (nI pn), .ref (b 42), .ref (b 43), .ref (b 44), .int (gg 44), .ref (b 46), .ref (b 47), .int (gg 47), .ref (b 49)])), (b 39, .inl (cI, 8, .inl nz))]) (fun (u : (Nat) × (Int32)) => match u with | (wv, y) => [(0, .ref (b 0)), (1, .int (nI sx)), (2, .int 1), (3, .int y), (4, .int ((nI wv) - 1))]) (fun (u : (Nat) × (Int32)) => match u with | (wv, y) => wv ≤ mh ∧ zz_fs (zz_pb nz sx) y wv mh) (fun (u : (Nat) × (Int32)) => match u with | (wv, y) => wv) (fun u hI H locs ls hP hD hS hl ih_10 => ?_) (mh, (-1)) ⟨by omega, zz_fs_0⟩ _ _ _ (hP.sub [0, 1] rfl) (hD.sub [0, 1] (by decide) rfl) hS (lv_sub hl [2, 3, 4, 1, 0] rfl)
  obtain ⟨wv, y⟩ := u
  obtain ⟨hP, hD⟩ := zz_ty (D := (dC, dI)) (cl := vwCl) (A := (fun _ => True)) (H := H) [(b 0, .inr (8, [.ref (b 1), .int (nI mt), .int (gg 2), .int (gg 3), .int (gg 4), .int (gg 5), .int (gg 6), .int (gg 7), .int (gg 8), .int (gg 9), .ref (b 11), .ref (b 12), .ref (b 13), .int (nI mc), .int (nI mh), .ref (b 16), .ref (b 17), .ref (b 18), .ref (b 19), .ref (b 20), .ref (b 21), .ref (b 22), .ref (b 23), .ref (b 24), .int (nI mf), .ref (b 26), .ref (b 27), .ref (b 28), .ref (b 29), .ref (b 30), .ref (b 31), .ref (b 32), .int (gg 32), .int (nI md), .ref (b 35), .ref (b 36), .ref (b 37), .ref (b 38), .ref (b 39), .ref (b 40), .int (nI pn), .ref (b 42), .ref (b 43), .ref (b 44), .int (gg 44), .ref (b 46), .ref (b 47), .int (gg 47), .ref (b 49)])), (b 39, .inl (cI, 8, .inl nz))] hP hD rfl
  have hl : lv_has ls 5 [(0, .ref (b 0)), (1, .int (nI sx)), (2, .int 1), (3, .int y), (4, .int ((nI wv) - 1))] := hl
  have hI : wv ≤ mh ∧ zz_fs (zz_pb nz sx) y wv mh := hI
  obtain ⟨iw, iy⟩ := hI
  refine lv_iload hx hb dX8_first_10 (lv_at hl 4 rfl) ?_
  refine lv_if_lt (tgt := 65) hx hb dX8_first_12 (by decide) (fun c_1 => ?_) (fun c_1 => ?_)
  · have zc_1 := c_1
    rw [Int32.lt_iff_toInt_lt] at zc_1
    try rw [zz_pred (c := wv) (by omega)] at zc_1
    try rw [show (0 : Int32).toInt = 0 from by decide] at zc_1
    refine lv_iload_n hx hb dX8_first_65 rfl (lv_at hl 3 rfl) ?_
    exact W.iret (v := y) hx hb hr (fun t ht hW => ⟨⟨y, (), rfl, (by rw [show wv = 0 from by omega] at iy; exact iy), trivial⟩, hS.F ht⟩) hS.2.2 dX8_first_66
  · have zc_1 := c_1
    rw [Int32.lt_iff_toInt_lt] at zc_1
    try rw [zz_pred (c := wv) (by omega)] at zc_1
    try rw [show (0 : Int32).toInt = 0 from by decide] at zc_1
    refine lv_iload_n hx hb dX8_first_15 rfl (lv_at hl 1 rfl) ?_
    refine lv_iload hx hb dX8_first_16 (lv_at hl 4 rfl) ?_
    refine zz_seti (nI (wv - 1)) (zz_predN (by omega)) ?_
    refine lv_ishr hx hb dX8_first_18 ?_
    refine lv_iconst (v := 1) hx hb dX8_first_19 (by decide) ?_
    refine lv_iand hx hb dX8_first_20 ?_
    rcases zz_bitc sx (by omega) (wv - 1) (by omega) with ⟨hb_2, eb_2⟩ | ⟨hb_2, eb_2⟩
    · refine zz_seti 1 eb_2 ?_
      refine lv_iconst (v := 1) hx hb dX8_first_21 (by decide) ?_
      refine lv_icmp_ne (tgt := 57) hx hb dX8_first_22 (by decide) (fun c_9 => absurd c_9 (by decide)) (fun _ => ?_)
      refine lv_iload_n hx hb dX8_first_25 rfl (lv_at hl 2 rfl) ?_
      refine lv_if_eq (tgt := 42) hx hb dX8_first_26 (by decide) (fun c_9 => absurd c_9 (by decide)) (fun _ => ?_)
      refine lv_aload_n hx hb dX8_first_29 rfl (lv_at hl 0 rfl) ?_
      refine va_get (D := (dC, dI)) (ci := 8) (v := .ref (b 39)) (C := RX8) (T := TX8) (N := 49) hx hb hw zz_inX8 hown hK hP 0 rfl rfl 38 (by decide) (hw _ tw_415) (fun _ h9 => h9) rfl dX8_first_30 ?_
      refine lv_iload hx hb dX8_first_33 (lv_at hl 4 rfl) ?_
      refine zz_seti (nI (wv - 1)) (zz_predN (by omega)) ?_
      refine va_iald hx hb hK hP 1 0 rfl rfl (vp_in_iff.mpr (by rw [zz_toInt (wv - 1) (by omega)]; constructor <;> omega)) dX8_first_35 ?_
      refine zz_seti (nz (wv - 1)) (congrArg nz (zz_cl (by omega))) ?_
      refine lv_if_ge (tgt := 57) hx hb dX8_first_36 (by decide) (fun c_3 => ?_) (fun c_3 => ?_)
      · have zc_3 := c_3
        rw [Int32.le_iff_toInt_le] at zc_3
        try rw [show (0 : Int32).toInt = 0 from by decide] at zc_3
        refine lv_iload_n hx hb dX8_first_57 rfl (lv_at hl 3 rfl) ?_
        refine lv_istore_n (lv' := [(3, .int y), (0, .ref (b 0)), (1, .int (nI sx)), (2, .int 1), (4, .int ((nI wv) - 1))]) hx hb dX8_first_58 rfl hl (by decide) rfl (fun ls hl => ?_)
        refine lv_iinc (v := (nI (wv - 1)) - 1) (lv' := [(4, .int ((nI (wv - 1)) - 1)), (3, .int y), (0, .ref (b 0)), (1, .int (nI sx)), (2, .int 1)]) hx hb dX8_first_59 hl (k := 4) rfl (zz_iw (by omega)) (by decide) rfl (fun ls hl => ?_)
        refine lv_goto (tgt := 10) hx hb dX8_first_62 (by decide) ?_
        exact ih_10 ((wv - 1), y) ⟨by omega, zz_fs_no iy (by omega) (fun h9 => by first | exact absurd h9.1 (by rw [hb_2]; decide) | exact absurd h9.2 (by omega))⟩ (show (wv - 1) < wv from by omega) _ _ _ (hP.sub [0, 1] rfl) (hD.sub [0, 1] (by decide) rfl) hS (lv_sub hl [2, 3, 4, 1, 0] rfl)
      · have zc_3 := c_3
        rw [Int32.le_iff_toInt_le] at zc_3
        try rw [show (0 : Int32).toInt = 0 from by decide] at zc_3
        refine lv_goto (tgt := 52) hx hb dX8_first_39 (by decide) ?_
        refine lv_iload hx hb dX8_first_52 (lv_at hl 4 rfl) ?_
        refine zz_seti (nI (wv - 1)) (zz_predN (by omega)) ?_
        refine lv_goto (tgt := 58) hx hb dX8_first_54 (by decide) ?_
        refine lv_istore_n (lv' := [(3, .int (nI (wv - 1))), (0, .ref (b 0)), (1, .int (nI sx)), (2, .int 1), (4, .int ((nI wv) - 1))]) hx hb dX8_first_58 rfl hl (by decide) rfl (fun ls hl => ?_)
        refine lv_iinc (v := (nI (wv - 1)) - 1) (lv' := [(4, .int ((nI (wv - 1)) - 1)), (3, .int (nI (wv - 1))), (0, .ref (b 0)), (1, .int (nI sx)), (2, .int 1)]) hx hb dX8_first_59 hl (k := 4) rfl (zz_iw (by omega)) (by decide) rfl (fun ls hl => ?_)
        refine lv_goto (tgt := 10) hx hb dX8_first_62 (by decide) ?_
        exact ih_10 ((wv - 1), (nI (wv - 1))) ⟨by omega, zz_fs_yes (by omega) (by omega) ⟨hb_2, by omega⟩⟩ (show (wv - 1) < wv from by omega) _ _ _ (hP.sub [0, 1] rfl) (hD.sub [0, 1] (by decide) rfl) hS (lv_sub hl [2, 3, 4, 1, 0] rfl)
    · refine zz_seti 0 eb_2 ?_
      refine lv_iconst (v := 1) hx hb dX8_first_21 (by decide) ?_
      refine lv_icmp_ne (tgt := 57) hx hb dX8_first_22 (by decide) (fun _ => ?_) (fun c_9 => absurd c_9 (by decide))
      refine lv_iload_n hx hb dX8_first_57 rfl (lv_at hl 3 rfl) ?_
      refine lv_istore_n (lv' := [(3, .int y), (0, .ref (b 0)), (1, .int (nI sx)), (2, .int 1), (4, .int ((nI wv) - 1))]) hx hb dX8_first_58 rfl hl (by decide) rfl (fun ls hl => ?_)
      refine lv_iinc (v := (nI (wv - 1)) - 1) (lv' := [(4, .int ((nI (wv - 1)) - 1)), (3, .int y), (0, .ref (b 0)), (1, .int (nI sx)), (2, .int 1)]) hx hb dX8_first_59 hl (k := 4) rfl (zz_iw (by omega)) (by decide) rfl (fun ls hl => ?_)
      refine lv_goto (tgt := 10) hx hb dX8_first_62 (by decide) ?_
      exact ih_10 ((wv - 1), y) ⟨by omega, zz_fs_no iy (by omega) (fun h9 => by first | exact absurd h9.1 (by rw [hb_2]; decide) | exact absurd h9.2 (by omega))⟩ (show (wv - 1) < wv from by omega) _ _ _ (hP.sub [0, 1] rfl) (hD.sub [0, 1] (by decide) rfl) hS (lv_sub hl [2, 3, 4, 1, 0] rfl)
set_option maxHeartbeats 4000000 in
set_option maxRecDepth 100000 in
theorem m_firstA (l : Launch) (dC : Nat → ClassId) (dI : Nat → Nat → Nat) (b : Nat → Nat) (gg : Nat → Int32) (mt : Nat) (mc : Nat) (mh : Nat) (mf : Nat) (md : Nat) (pn : Nat) (cI : ClassId) (nz : Nat → Int32) (sx : Nat) (sz : Nat) (hmh : mh ≤ 8) (hsx : sx < 256) : Met l yX8_first (zz_w yX8_first cX8_first 5 (some .int)) ({ frames := 0, cells := 0, slots := 0, locals := 0 }) (va_Pc [.ref (b 0), .int (nI sx), .int 0] (zz_B (dC, dI) sz [(b 0, .inr (8, [.ref (b 1), .int (nI mt), .int (gg 2), .int (gg 3), .int (gg 4), .int (gg 5), .int (gg 6), .int (gg 7), .int (gg 8), .int (gg 9), .ref (b 11), .ref (b 12), .ref (b 13), .int (nI mc), .int (nI mh), .ref (b 16), .ref (b 17), .ref (b 18), .ref (b 19), .ref (b 20), .ref (b 21), .ref (b 22), .ref (b 23), .ref (b 24), .int (nI mf), .ref (b 26), .ref (b 27), .ref (b 28), .ref (b 29), .ref (b 30), .ref (b 31), .ref (b 32), .int (gg 32), .int (nI md), .ref (b 35), .ref (b 36), .ref (b 37), .ref (b 38), .ref (b 39), .ref (b 40), .int (nI pn), .ref (b 42), .ref (b 43), .ref (b 44), .int (gg 44), .ref (b 46), .ref (b 47), .int (gg 47), .ref (b 49)])), (b 39, .inl (cI, 8, .inl nz))] [(cI, .int)])) (va_Qi (fun (r : Int32) (_ : Unit) => zz_fs (zz_pa nz sx) r 0 mh) (fun _ _ => True) (va_A [] sz)) 0 0 (va_A [] sz) := by
  refine Met.ofW (cc := cX8_first) (maxL := 5) (ret := (some .int)) (by decide) rfl ?_
  intro p e s m args below meth c s₁ B hml hv
  obtain ⟨rfl, hsz, hP, hK, hD0, hN⟩ := hv
  have hx := B.exec
  have hb := B.bytes
  have hr := B.returns
  have hts := atoms_spec (ws := zz_w yX8_first cX8_first 5 (some .int)) B.pre
  have hw : ∀ w ∈ zz_all, w.before _ s = true := fun w h => hts w (List.mem_cons_of_mem _ h)
  have hown : s.vm.findClass RX8 = some m.cls := findClass_of_methodNamed B.named
  have hlocks := B.notSynchronized
  subst hsz
  have hD := hD0
  generalize hAe : va_A [] s.heap.size = A
  have hA : ∀ q : Nat, s.heap.size ≤ q → A q := fun q h => by rw [← hAe]; exact Or.inr h
  have hS : va_S A s.heap s.heap [] := va_S.rf
  have hP : va_P (dC, dI) vwCl [(b 0, .inr (8, [.ref (b 1), .int (nI mt), .int (gg 2), .int (gg 3), .int (gg 4), .int (gg 5), .int (gg 6), .int (gg 7), .int (gg 8), .int (gg 9), .ref (b 11), .ref (b 12), .ref (b 13), .int (nI mc), .int (nI mh), .ref (b 16), .ref (b 17), .ref (b 18), .ref (b 19), .ref (b 20), .ref (b 21), .ref (b 22), .ref (b 23), .ref (b 24), .int (nI mf), .ref (b 26), .ref (b 27), .ref (b 28), .ref (b 29), .ref (b 30), .ref (b 31), .ref (b 32), .int (gg 32), .int (nI md), .ref (b 35), .ref (b 36), .ref (b 37), .ref (b 38), .ref (b 39), .ref (b 40), .int (nI pn), .ref (b 42), .ref (b 43), .ref (b 44), .int (gg 44), .ref (b 46), .ref (b 47), .int (gg 47), .ref (b 49)])), (b 39, .inl (cI, 8, .inl nz))] s.heap := hP
  have hl := lv_entry ([.ref (b 0), .int (nI sx), .int 0]) (n := 5) (Nat.le_of_ble_eq_true rfl)
  rw [lg_entry_eq]
  generalize (lg_sl ([.ref (b 0), .int (nI sx), .int 0]) ++ List.replicate (5 - (lg_sl ([.ref (b 0), .int (nI sx), .int 0])).length) Slot.unset).toArray = ls at hl ⊢
  have hl : lv_has ls 5 [(0, .ref (b 0)), (1, .int (nI sx)), (2, .int 0)] := hl
  refine lv_iconst (v := (-1)) hx hb dX8_first_0 (by decide) ?_
  refine lv_istore_n (lv' := [(3, .int (-1)), (0, .ref (b 0)), (1, .int (nI sx)), (2, .int 0)]) hx hb dX8_first_1 rfl hl (by decide) rfl (fun ls hl => ?_)
  refine lv_aload_n hx hb dX8_first_2 rfl (lv_at hl 1 rfl) ?_
  refine va_get (D := (dC, dI)) (ci := 8) (v := .int (nI mh)) (C := RX8) (T := TX8) (N := 49) hx hb hw zz_inX8 hown hK hP 0 rfl rfl 14 (by decide) (hw _ tw_182) (fun _ h9 => h9) rfl dX8_first_3 ?_
  refine lv_iconst (v := 1) hx hb dX8_first_6 (by decide) ?_
  refine lv_isub hx hb dX8_first_7 ?_
  refine lv_istore (lv' := [(4, .int ((nI mh) - 1)), (3, .int (-1)), (0, .ref (b 0)), (1, .int (nI sx)), (2, .int 0)]) hx hb dX8_first_8 hl (by decide) rfl (fun ls hl => ?_)
  refine zz_loopS (fun (u : (Nat) × (Int32)) => match u with | (wv, y) => [(b 0, .inr (8, [.ref (b 1), .int (nI mt), .int (gg 2), .int (gg 3), .int (gg 4), .int (gg 5), .int (gg 6), .int (gg 7), .int (gg 8), .int (gg 9), .ref (b 11), .ref (b 12), .ref (b 13), .int (nI mc), .int (nI mh), .ref (b 16), .ref (b 17), .ref (b 18), .ref (b 19), .ref (b 20), .ref (b 21), .ref (b 22), .ref (b 23), .ref (b 24), .int (nI mf), .ref (b 26), .ref (b 27), .ref (b 28), .ref (b 29), .ref (b 30), .ref (b 31), .ref (b 32), .int (gg 32), .int (nI md), .ref (b 35), .ref (b 36), .ref (b 37), .ref (b 38), .ref (b 39), .ref (b 40), .int (nI pn), .ref (b 42), .ref (b 43), .ref (b 44), .int (gg 44), .ref (b 46), .ref (b 47), .int (gg 47), .ref (b 49)])), (b 39, .inl (cI, 8, .inl nz))]) (fun (u : (Nat) × (Int32)) => match u with | (wv, y) => [(0, .ref (b 0)), (1, .int (nI sx)), (2, .int 0), (3, .int y), (4, .int ((nI wv) - 1))]) (fun (u : (Nat) × (Int32)) => match u with | (wv, y) => wv ≤ mh ∧ zz_fs (zz_pa nz sx) y wv mh) (fun (u : (Nat) × (Int32)) => match u with | (wv, y) => wv) (fun u hI H locs ls hP hD hS hl ih_10 => ?_) (mh, (-1)) ⟨by omega, zz_fs_0⟩ _ _ _ (hP.sub [0, 1] rfl) (hD.sub [0, 1] (by decide) rfl) hS (lv_sub hl [2, 3, 4, 1, 0] rfl)
  obtain ⟨wv, y⟩ := u
  obtain ⟨hP, hD⟩ := zz_ty (D := (dC, dI)) (cl := vwCl) (A := (fun _ => True)) (H := H) [(b 0, .inr (8, [.ref (b 1), .int (nI mt), .int (gg 2), .int (gg 3), .int (gg 4), .int (gg 5), .int (gg 6), .int (gg 7), .int (gg 8), .int (gg 9), .ref (b 11), .ref (b 12), .ref (b 13), .int (nI mc), .int (nI mh), .ref (b 16), .ref (b 17), .ref (b 18), .ref (b 19), .ref (b 20), .ref (b 21), .ref (b 22), .ref (b 23), .ref (b 24), .int (nI mf), .ref (b 26), .ref (b 27), .ref (b 28), .ref (b 29), .ref (b 30), .ref (b 31), .ref (b 32), .int (gg 32), .int (nI md), .ref (b 35), .ref (b 36), .ref (b 37), .ref (b 38), .ref (b 39), .ref (b 40), .int (nI pn), .ref (b 42), .ref (b 43), .ref (b 44), .int (gg 44), .ref (b 46), .ref (b 47), .int (gg 47), .ref (b 49)])), (b 39, .inl (cI, 8, .inl nz))] hP hD rfl
  have hl : lv_has ls 5 [(0, .ref (b 0)), (1, .int (nI sx)), (2, .int 0), (3, .int y), (4, .int ((nI wv) - 1))] := hl
  have hI : wv ≤ mh ∧ zz_fs (zz_pa nz sx) y wv mh := hI
  obtain ⟨iw, iy⟩ := hI
  refine lv_iload hx hb dX8_first_10 (lv_at hl 4 rfl) ?_
  refine lv_if_lt (tgt := 65) hx hb dX8_first_12 (by decide) (fun c_1 => ?_) (fun c_1 => ?_)
  · have zc_1 := c_1
    rw [Int32.lt_iff_toInt_lt] at zc_1
    try rw [zz_pred (c := wv) (by omega)] at zc_1
    try rw [show (0 : Int32).toInt = 0 from by decide] at zc_1
    refine lv_iload_n hx hb dX8_first_65 rfl (lv_at hl 3 rfl) ?_
    exact W.iret (v := y) hx hb hr (fun t ht hW => ⟨⟨y, (), rfl, (by rw [show wv = 0 from by omega] at iy; exact iy), trivial⟩, hS.F ht⟩) hS.2.2 dX8_first_66
  · have zc_1 := c_1
    rw [Int32.lt_iff_toInt_lt] at zc_1
    try rw [zz_pred (c := wv) (by omega)] at zc_1
    try rw [show (0 : Int32).toInt = 0 from by decide] at zc_1
    refine lv_iload_n hx hb dX8_first_15 rfl (lv_at hl 1 rfl) ?_
    refine lv_iload hx hb dX8_first_16 (lv_at hl 4 rfl) ?_
    refine zz_seti (nI (wv - 1)) (zz_predN (by omega)) ?_
    refine lv_ishr hx hb dX8_first_18 ?_
    refine lv_iconst (v := 1) hx hb dX8_first_19 (by decide) ?_
    refine lv_iand hx hb dX8_first_20 ?_
    rcases zz_bitc sx (by omega) (wv - 1) (by omega) with ⟨hb_2, eb_2⟩ | ⟨hb_2, eb_2⟩
    · refine zz_seti 1 eb_2 ?_
      refine lv_iconst (v := 1) hx hb dX8_first_21 (by decide) ?_
      refine lv_icmp_ne (tgt := 57) hx hb dX8_first_22 (by decide) (fun c_9 => absurd c_9 (by decide)) (fun _ => ?_)
      refine lv_iload_n hx hb dX8_first_25 rfl (lv_at hl 2 rfl) ?_
      refine lv_if_eq (tgt := 42) hx hb dX8_first_26 (by decide) (fun _ => ?_) (fun c_9 => absurd c_9 (by decide))
      refine lv_aload_n hx hb dX8_first_42 rfl (lv_at hl 0 rfl) ?_
      refine va_get (D := (dC, dI)) (ci := 8) (v := .ref (b 39)) (C := RX8) (T := TX8) (N := 49) hx hb hw zz_inX8 hown hK hP 0 rfl rfl 38 (by decide) (hw _ tw_415) (fun _ h9 => h9) rfl dX8_first_43 ?_
      refine lv_iload hx hb dX8_first_46 (lv_at hl 4 rfl) ?_
      refine zz_seti (nI (wv - 1)) (zz_predN (by omega)) ?_
      refine va_iald hx hb hK hP 1 0 rfl rfl (vp_in_iff.mpr (by rw [zz_toInt (wv - 1) (by omega)]; constructor <;> omega)) dX8_first_48 ?_
      refine zz_seti (nz (wv - 1)) (congrArg nz (zz_cl (by omega))) ?_
      refine lv_if_le (tgt := 57) hx hb dX8_first_49 (by decide) (fun c_3 => ?_) (fun c_3 => ?_)
      · have zc_3 := c_3
        rw [Int32.le_iff_toInt_le] at zc_3
        try rw [show (0 : Int32).toInt = 0 from by decide] at zc_3
        refine lv_iload_n hx hb dX8_first_57 rfl (lv_at hl 3 rfl) ?_
        refine lv_istore_n (lv' := [(3, .int y), (0, .ref (b 0)), (1, .int (nI sx)), (2, .int 0), (4, .int ((nI wv) - 1))]) hx hb dX8_first_58 rfl hl (by decide) rfl (fun ls hl => ?_)
        refine lv_iinc (v := (nI (wv - 1)) - 1) (lv' := [(4, .int ((nI (wv - 1)) - 1)), (3, .int y), (0, .ref (b 0)), (1, .int (nI sx)), (2, .int 0)]) hx hb dX8_first_59 hl (k := 4) rfl (zz_iw (by omega)) (by decide) rfl (fun ls hl => ?_)
        refine lv_goto (tgt := 10) hx hb dX8_first_62 (by decide) ?_
        exact ih_10 ((wv - 1), y) ⟨by omega, zz_fs_no iy (by omega) (fun h9 => by first | exact absurd h9.1 (by rw [hb_2]; decide) | exact absurd h9.2 (by omega))⟩ (show (wv - 1) < wv from by omega) _ _ _ (hP.sub [0, 1] rfl) (hD.sub [0, 1] (by decide) rfl) hS (lv_sub hl [2, 3, 4, 1, 0] rfl)
      · have zc_3 := c_3
        rw [Int32.le_iff_toInt_le] at zc_3
        try rw [show (0 : Int32).toInt = 0 from by decide] at zc_3
        refine lv_iload hx hb dX8_first_52 (lv_at hl 4 rfl) ?_
        refine zz_seti (nI (wv - 1)) (zz_predN (by omega)) ?_
        refine lv_goto (tgt := 58) hx hb dX8_first_54 (by decide) ?_
        refine lv_istore_n (lv' := [(3, .int (nI (wv - 1))), (0, .ref (b 0)), (1, .int (nI sx)), (2, .int 0), (4, .int ((nI wv) - 1))]) hx hb dX8_first_58 rfl hl (by decide) rfl (fun ls hl => ?_)
        refine lv_iinc (v := (nI (wv - 1)) - 1) (lv' := [(4, .int ((nI (wv - 1)) - 1)), (3, .int (nI (wv - 1))), (0, .ref (b 0)), (1, .int (nI sx)), (2, .int 0)]) hx hb dX8_first_59 hl (k := 4) rfl (zz_iw (by omega)) (by decide) rfl (fun ls hl => ?_)
        refine lv_goto (tgt := 10) hx hb dX8_first_62 (by decide) ?_
        exact ih_10 ((wv - 1), (nI (wv - 1))) ⟨by omega, zz_fs_yes (by omega) (by omega) ⟨hb_2, by omega⟩⟩ (show (wv - 1) < wv from by omega) _ _ _ (hP.sub [0, 1] rfl) (hD.sub [0, 1] (by decide) rfl) hS (lv_sub hl [2, 3, 4, 1, 0] rfl)
    · refine zz_seti 0 eb_2 ?_
      refine lv_iconst (v := 1) hx hb dX8_first_21 (by decide) ?_
      refine lv_icmp_ne (tgt := 57) hx hb dX8_first_22 (by decide) (fun _ => ?_) (fun c_9 => absurd c_9 (by decide))
      refine lv_iload_n hx hb dX8_first_57 rfl (lv_at hl 3 rfl) ?_
      refine lv_istore_n (lv' := [(3, .int y), (0, .ref (b 0)), (1, .int (nI sx)), (2, .int 0), (4, .int ((nI wv) - 1))]) hx hb dX8_first_58 rfl hl (by decide) rfl (fun ls hl => ?_)
      refine lv_iinc (v := (nI (wv - 1)) - 1) (lv' := [(4, .int ((nI (wv - 1)) - 1)), (3, .int y), (0, .ref (b 0)), (1, .int (nI sx)), (2, .int 0)]) hx hb dX8_first_59 hl (k := 4) rfl (zz_iw (by omega)) (by decide) rfl (fun ls hl => ?_)
      refine lv_goto (tgt := 10) hx hb dX8_first_62 (by decide) ?_
      exact ih_10 ((wv - 1), y) ⟨by omega, zz_fs_no iy (by omega) (fun h9 => by first | exact absurd h9.1 (by rw [hb_2]; decide) | exact absurd h9.2 (by omega))⟩ (show (wv - 1) < wv from by omega) _ _ _ (hP.sub [0, 1] rfl) (hD.sub [0, 1] (by decide) rfl) hS (lv_sub hl [2, 3, 4, 1, 0] rfl)
