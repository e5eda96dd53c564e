set_option maxHeartbeats 4000000 in
set_option maxRecDepth 100000 in
theorem kx_dayDone (l : Launch) (dC : Nat → ClassId) (dI : Nat → Nat → Nat) (a : Nat → Nat) (cI : ClassId) (np : Nat) (cc : Nat) (nt0 : Nat) (hd : Int32) (q1 : Nat → Int32) (q2 : Nat → Int32) (q0 : Nat → Int32) (q3 : Nat → Int32) (q4 : Nat → Int32) (xn : Nat → Int32) (xr : Nat → Int32) (xv : Nat → Int32) (XR : Nat → Prop) (ns : Nat) (nl : Nat) (sz : Nat) (hnp : np ≤ 7) (hns : ns < 128) (hnl : nl < np) (hbl : ns.testBit nl = true) (hnt : nt0 ≤ 400) (hhd : 1 ≤ hd.toInt ∧ hd.toInt ≤ 99) (htk : zz_tk7 q0 q1 q2 q3 q4 xn xr xv nt0 np XR) (hxn : ∀ q : Nat, XR q → 1 ≤ (xn q).toInt ∧ (xn q).toInt ≤ 60) (hxr : ∀ q : Nat, XR q → 0 ≤ (xr q).toInt ∧ (xr q).toInt ≤ 400) : Met l yX5_dayDone (zz_w yX5_dayDone cX5_dayDone 7 (some .int)) ({ frames := 1, cells := 0, slots := 0, locals := 13 }) (va_Pc [.ref (a 43), .int (nI ns), .int (nI nl)] (zz_B (dC, dI) sz [(a 43, .inr (5, [.ref (a 44), .ref (a 45), .ref (a 46), .ref (a 47), .ref (a 48), .ref (a 49), .ref (a 50), .ref (a 51), .int (nI cc), .int (nI np), .int (nI nt0), .int hd])), (a 45, .inl (cI, 7, .inl q1)), (a 46, .inl (cI, 7, .inl q2))] [(cI, .int)])) (va_Qi (fun (r : Int32) (_ : Unit) => (0 ≤ r.toInt ∧ r.toInt ≤ 900) ∧ zz_Dd (zz_bs (zz_P q0) ns np) (zz_stf nt0 xr) (zz_ndf xn) hd.toInt.toNat nt0 (zz_P q0 nl) r.toInt.toNat) (fun _ _ => True) (va_A [] sz)) 0 0 (va_A [] sz) := by
  refine Met.ofW (cc := cX5_dayDone) (maxL := 7) (ret := (some .int)) (by decide) rfl ?_
  intro p e s m args below meth c s₁ B hml hv
  obtain ⟨rfl, hsz, hP, hK, hD0, hN⟩ := hv
  have hx := B.exec
  have hb := B.bytes
  have hr := B.returns
  have hts := atoms_spec (ws := zz_w yX5_dayDone cX5_dayDone 7 (some .int)) B.pre
  have hw : ∀ w ∈ zz_all, w.before _ s = true := fun w h => hts w (List.mem_cons_of_mem _ h)
  have hown : s.vm.findClass RX5 = some m.cls := findClass_of_methodNamed B.named
  have hlocks := B.notSynchronized
  subst hsz
  have hD := hD0
  generalize hAe : va_A [] s.heap.size = A
  have hA : ∀ q : Nat, s.heap.size ≤ q → A q := fun q h => by rw [← hAe]; exact Or.inr h
  have hS : va_S A s.heap s.heap [] := va_S.rf
  have hP : va_P (dC, dI) vwCl [(a 43, .inr (5, [.ref (a 44), .ref (a 45), .ref (a 46), .ref (a 47), .ref (a 48), .ref (a 49), .ref (a 50), .ref (a 51), .int (nI cc), .int (nI np), .int (nI nt0), .int hd])), (a 45, .inl (cI, 7, .inl q1)), (a 46, .inl (cI, 7, .inl q2))] s.heap := hP
  have hl := lv_entry ([.ref (a 43), .int (nI ns), .int (nI nl)]) (n := 7) (Nat.le_of_ble_eq_true rfl)
  rw [lg_entry_eq]
  generalize (lg_sl ([.ref (a 43), .int (nI ns), .int (nI nl)]) ++ List.replicate (7 - (lg_sl ([.ref (a 43), .int (nI ns), .int (nI nl)])).length) Slot.unset).toArray = ls at hl ⊢
  have hl : lv_has ls 7 [(0, .ref (a 43)), (1, .int (nI ns)), (2, .int (nI nl))] := hl
  obtain ⟨tf1, tf2, tf3, tf4, tf5, tf6⟩ := zz_tkF htk hxn hxr hnt
  refine lv_aload_n hx hb dX5_dayDone_0 rfl (lv_at hl 0 rfl) ?_
  refine va_get (D := (dC, dI)) (ci := 5) (v := .int (nI nt0)) (C := RX5) (T := TX5) (N := 12) hx hb hw zz_inX5 hown hK hP 0 rfl rfl 10 (by decide) (hw _ tw_143) (fun _ h9 => h9) rfl dX5_dayDone_1 ?_
  refine lv_istore_n (lv' := [(3, .int (nI nt0)), (0, .ref (a 43)), (1, .int (nI ns)), (2, .int (nI nl))]) hx hb dX5_dayDone_4 rfl hl (by decide) rfl (fun ls hl => ?_)
  refine lv_iconst (v := 0) hx hb dX5_dayDone_5 (by decide) ?_
  refine lv_istore (lv' := [(4, .int 0), (3, .int (nI nt0)), (0, .ref (a 43)), (1, .int (nI ns)), (2, .int (nI nl))]) hx hb dX5_dayDone_6 hl (by decide) rfl (fun ls hl => ?_)
  refine lv_iconst (v := 0) hx hb dX5_dayDone_8 (by decide) ?_
  refine lv_istore (lv' := [(5, .int 0), (4, .int 0), (3, .int (nI nt0)), (0, .ref (a 43)), (1, .int (nI ns)), (2, .int (nI nl))]) hx hb dX5_dayDone_9 hl (by decide) rfl (fun ls hl => ?_)
  refine zz_loopS (fun (u : (Nat) × (Int32) × (Int32)) => match u with | (k, dy, ud) => [(a 43, .inr (5, [.ref (a 44), .ref (a 45), .ref (a 46), .ref (a 47), .ref (a 48), .ref (a 49), .ref (a 50), .ref (a 51), .int (nI cc), .int (nI np), .int (nI nt0), .int hd])), (a 45, .inl (cI, 7, .inl q1)), (a 46, .inl (cI, 7, .inl q2))]) (fun (u : (Nat) × (Int32) × (Int32)) => match u with | (k, dy, ud) => [(0, .ref (a 43)), (1, .int (nI ns)), (2, .int (nI nl)), (3, .int dy), (4, .int ud), (5, .int (nI k))]) (fun (u : (Nat) × (Int32) × (Int32)) => match u with | (k, dy, ud) => k ≤ np ∧ zz_ddI (zz_P q0) (zz_stf nt0 xr) (zz_ndf xn) hd.toInt.toNat nt0 ns nl np k dy ud) (fun (u : (Nat) × (Int32) × (Int32)) => match u with | (k, dy, ud) => np - k) (fun u hI H locs ls hP hD hS hl ih_11 => ?_) (0, (nI nt0), 0) ⟨by omega, zz_ddI_0 hnt tf4⟩ _ _ _ (hP.sub [0, 1, 2] rfl) (hD.sub [0, 1, 2] (by decide) rfl) hS (lv_sub hl [3, 4, 5, 2, 1, 0] rfl)
  obtain ⟨k, dy, ud⟩ := u
  obtain ⟨hP, hD⟩ := zz_ty (D := (dC, dI)) (cl := vwCl) (A := (fun _ => True)) (H := H) [(a 43, .inr (5, [.ref (a 44), .ref (a 45), .ref (a 46), .ref (a 47), .ref (a 48), .ref (a 49), .ref (a 50), .ref (a 51), .int (nI cc), .int (nI np), .int (nI nt0), .int hd])), (a 45, .inl (cI, 7, .inl q1)), (a 46, .inl (cI, 7, .inl q2))] hP hD rfl
  have hl : lv_has ls 7 [(0, .ref (a 43)), (1, .int (nI ns)), (2, .int (nI nl)), (3, .int dy), (4, .int ud), (5, .int (nI k))] := hl
  have hI : k ≤ np ∧ zz_ddI (zz_P q0) (zz_stf nt0 xr) (zz_ndf xn) hd.toInt.toNat nt0 ns nl np k dy ud := hI
  obtain ⟨ik, idd⟩ := hI
  refine lv_iload hx hb dX5_dayDone_11 (lv_at hl 5 rfl) ?_
  refine lv_aload_n hx hb dX5_dayDone_13 rfl (lv_at hl 0 rfl) ?_
  refine va_get (D := (dC, dI)) (ci := 5) (v := .int (nI np)) (C := RX5) (T := TX5) (N := 12) hx hb hw zz_inX5 hown hK hP 0 rfl rfl 9 (by decide) (hw _ tw_142) (fun _ h9 => h9) rfl dX5_dayDone_14 ?_
  refine lv_icmp_ge (tgt := 97) hx hb dX5_dayDone_17 (by decide) (fun c_1 => ?_) (fun c_1 => ?_)
  · have zc_1 := c_1
    rw [Int32.le_iff_toInt_le] at zc_1
    try rw [zz_toInt k (by omega)] at zc_1
    try rw [zz_toInt np (by omega)] at zc_1
    refine lv_aload_n hx hb dX5_dayDone_97 rfl (lv_at hl 0 rfl) ?_
    refine va_get (D := (dC, dI)) (ci := 5) (v := .int hd) (C := RX5) (T := TX5) (N := 12) hx hb hw zz_inX5 hown hK hP 0 rfl rfl 11 (by decide) (hw _ tw_145) (fun _ h9 => h9) rfl dX5_dayDone_98 ?_
    refine lv_if_le (tgt := 118) hx hb dX5_dayDone_101 (by decide) (fun c_2 => ?_) (fun c_2 => ?_)
    · have zc_2 := c_2
      rw [Int32.le_iff_toInt_le] at zc_2
      try rw [show (0 : Int32).toInt = 0 from by decide] at zc_2
      refine lv_iload_n hx hb dX5_dayDone_118 rfl (lv_at hl 3 rfl) ?_
      exact W.iret (v := dy) hx hb hr (fun t ht hW => ⟨⟨dy, (), rfl, (by exfalso; omega), trivial⟩, hS.F ht⟩) hS.2.2 dX5_dayDone_119
    · have zc_2 := c_2
      rw [Int32.le_iff_toInt_le] at zc_2
      try rw [show (0 : Int32).toInt = 0 from by decide] at zc_2
      refine lv_iload_n hx hb dX5_dayDone_104 rfl (lv_at hl 3 rfl) ?_
      refine lv_iload hx hb dX5_dayDone_105 (lv_at hl 4 rfl) ?_
      refine lv_iconst (v := 1) hx hb dX5_dayDone_107 (by decide) ?_
      refine lv_isub hx hb dX5_dayDone_108 ?_
      refine lv_aload_n hx hb dX5_dayDone_109 rfl (lv_at hl 0 rfl) ?_
      refine va_get (D := (dC, dI)) (ci := 5) (v := .int hd) (C := RX5) (T := TX5) (N := 12) hx hb hw zz_inX5 hown hK hP 0 rfl rfl 11 (by decide) (hw _ tw_145) (fun _ h9 => h9) rfl dX5_dayDone_110 ?_
      refine lv_idiv hx hb dX5_dayDone_113 (fun h9 => absurd (congrArg Int32.toInt h9) (by rw [show (0 : Int32).toInt = 0 from by decide]; omega)) ?_
      refine lv_iadd hx hb dX5_dayDone_114 ?_
      refine lv_goto (tgt := 119) hx hb dX5_dayDone_115 (by decide) ?_
      exact W.iret (v := (dy + ((ud - 1) / hd))) hx hb hr (fun t ht hW => ⟨⟨(dy + ((ud - 1) / hd)), (), rfl, (zz_ddI_end hhd tf1 tf2 tf4 tf5 hnp idd (by omega) (by omega) (fun h9 => absurd h9 (by omega))), trivial⟩, hS.F ht⟩) hS.2.2 dX5_dayDone_119
  · have zc_1 := c_1
    rw [Int32.le_iff_toInt_le] at zc_1
    try rw [zz_toInt k (by omega)] at zc_1
    try rw [zz_toInt np (by omega)] at zc_1
    have hpw := zz_bp7 (j := k) (by omega)
    refine lv_iload_n hx hb dX5_dayDone_20 rfl (lv_at hl 1 rfl) ?_
    refine lv_iconst (v := 1) hx hb dX5_dayDone_21 (by decide) ?_
    refine lv_iload hx hb dX5_dayDone_22 (lv_at hl 5 rfl) ?_
    refine lv_ishl hx hb dX5_dayDone_24 ?_
    refine zz_seti (nI (2 ^ k)) (zz_shl (by omega)) ?_
    refine lv_iand hx hb dX5_dayDone_25 ?_
    refine zz_seti (nI (ns &&& (2 ^ k))) (zz_andN (by omega) (by omega)) ?_
    have hand_3 := Nat.and_le_left (n := ns) (m := (2 ^ k))
    refine lv_if_ne (tgt := 32) hx hb dX5_dayDone_26 (by decide) (fun c_4 => ?_) (fun c_4 => ?_)
    · have zc_4 := c_4
      rw [← Int32.toInt_inj] at zc_4
      try rw [zz_toInt (ns &&& (2 ^ k)) (by omega)] at zc_4
      try rw [show (0 : Int32).toInt = 0 from by decide] at zc_4
      refine lv_aload_n hx hb dX5_dayDone_32 rfl (lv_at hl 0 rfl) ?_
      refine va_get (D := (dC, dI)) (ci := 5) (v := .int hd) (C := RX5) (T := TX5) (N := 12) hx hb hw zz_inX5 hown hK hP 0 rfl rfl 11 (by decide) (hw _ tw_145) (fun _ h9 => h9) rfl dX5_dayDone_33 ?_
      refine lv_aload_n hx hb dX5_dayDone_36 rfl (lv_at hl 0 rfl) ?_
      refine va_get (D := (dC, dI)) (ci := 5) (v := .ref (a 45)) (C := RX5) (T := TX5) (N := 12) hx hb hw zz_inX5 hown hK hP 0 rfl rfl 1 (by decide) (hw _ tw_147) (fun _ h9 => h9) rfl dX5_dayDone_37 ?_
      refine lv_iload hx hb dX5_dayDone_40 (lv_at hl 5 rfl) ?_
      refine va_iald hx hb hK hP 1 0 rfl rfl (vp_in_iff.mpr (by rw [zz_toInt k (by omega)]; constructor <;> omega)) dX5_dayDone_42 ?_
      refine zz_seti (q1 k) (congrArg q1 (zz_cl (by omega))) ?_
      refine lv_iload_n hx hb dX5_dayDone_43 rfl (lv_at hl 3 rfl) ?_
      refine lv_isub hx hb dX5_dayDone_44 ?_
      refine lv_imul hx hb dX5_dayDone_45 ?_
      refine lv_topi (fun rm erm => ?_)
      have zf := tf6 k (by omega)
      refine lv_istore (lv' := [(6, .int rm), (0, .ref (a 43)), (1, .int (nI ns)), (2, .int (nI nl)), (3, .int dy), (4, .int ud), (5, .int (nI k))]) hx hb dX5_dayDone_46 hl (by decide) rfl (fun ls hl => ?_)
      refine lv_iload hx hb dX5_dayDone_48 (lv_at hl 6 rfl) ?_
      refine lv_iload_n hx hb dX5_dayDone_50 rfl (lv_at hl 3 rfl) ?_
      refine lv_icmp_le (tgt := 64) hx hb dX5_dayDone_51 (by decide) (fun c_5 => ?_) (fun c_5 => ?_)
      · have zc_5 := c_5
        rw [Int32.le_iff_toInt_le] at zc_5
        try rw [zz_toInt k (by omega)] at zc_5
        try rw [zz_toInt nl (by omega)] at zc_5
        refine lv_iconst (v := 0) hx hb dX5_dayDone_64 (by decide) ?_
        refine lv_iload hx hb dX5_dayDone_65 (lv_at hl 5 rfl) ?_
        refine lv_iload hx hb dX5_dayDone_67 (lv_at hl 0 rfl) ?_
        refine lv_isub hx hb dX5_dayDone_69 ?_
        refine va_mmax hx hb (by rw [hml]; exact hl.1.symm) hown (hw _ tw_144) (hw _ tw_37) (hw _ tw_28) (hw _ tw_38) (Nat.le_of_ble_eq_true rfl) (Nat.le_of_ble_eq_true rfl) (Nat.le_of_ble_eq_true rfl) (Nat.le_of_ble_eq_true rfl) dX5_dayDone_70 ?_
        refine lv_aload_n hx hb dX5_dayDone_73 rfl (lv_at hl 1 rfl) ?_
        refine va_get (D := (dC, dI)) (ci := 5) (v := .ref (a 46)) (C := RX5) (T := TX5) (N := 12) hx hb hw zz_inX5 hown hK hP 0 rfl rfl 2 (by decide) (hw _ tw_148) (fun _ h9 => h9) rfl dX5_dayDone_74 ?_
        refine lv_iload hx hb dX5_dayDone_77 (lv_at hl 6 rfl) ?_
        refine va_iald hx hb hK hP 2 0 rfl rfl (vp_in_iff.mpr (by rw [zz_toInt k (by omega)]; constructor <;> omega)) dX5_dayDone_79 ?_
        refine zz_seti (q2 k) (congrArg q2 (zz_cl (by omega))) ?_
        refine lv_iadd hx hb dX5_dayDone_80 ?_
        refine lv_istore (lv' := [(4, .int ((if 0 < (ud - rm) then (ud - rm) else 0) + (q2 k))), (6, .int rm), (0, .ref (a 43)), (1, .int (nI ns)), (2, .int (nI nl)), (3, .int dy), (5, .int (nI k))]) hx hb dX5_dayDone_81 hl (by decide) rfl (fun ls hl => ?_)
        refine lv_aload_n hx hb dX5_dayDone_83 rfl (lv_at hl 2 rfl) ?_
        refine va_get (D := (dC, dI)) (ci := 5) (v := .ref (a 45)) (C := RX5) (T := TX5) (N := 12) hx hb hw zz_inX5 hown hK hP 0 rfl rfl 1 (by decide) (hw _ tw_147) (fun _ h9 => h9) rfl dX5_dayDone_84 ?_
        refine lv_iload hx hb dX5_dayDone_87 (lv_at hl 6 rfl) ?_
        refine va_iald hx hb hK hP 1 0 rfl rfl (vp_in_iff.mpr (by rw [zz_toInt k (by omega)]; constructor <;> omega)) dX5_dayDone_89 ?_
        refine zz_seti (q1 k) (congrArg q1 (zz_cl (by omega))) ?_
        refine lv_istore_n (lv' := [(3, .int (q1 k)), (4, .int ((if 0 < (ud - rm) then (ud - rm) else 0) + (q2 k))), (6, .int rm), (0, .ref (a 43)), (1, .int (nI ns)), (2, .int (nI nl)), (5, .int (nI k))]) hx hb dX5_dayDone_90 rfl hl (by decide) rfl (fun ls hl => ?_)
        refine lv_iinc (v := (nI (k + 1))) (lv' := [(5, .int (nI (k + 1))), (3, .int (q1 k)), (4, .int ((if 0 < (ud - rm) then (ud - rm) else 0) + (q2 k))), (6, .int rm), (0, .ref (a 43)), (1, .int (nI ns)), (2, .int (nI nl))]) hx hb dX5_dayDone_91 hl (k := 6) rfl (nI_1 _) (by decide) rfl (fun ls hl => ?_)
        refine lv_goto (tgt := 11) hx hb dX5_dayDone_94 (by decide) ?_
        exact ih_11 ((k + 1), (q1 k), ((if 0 < (ud - rm) then (ud - rm) else 0) + (q2 k))) ⟨by omega, zz_ddI_go hhd tf1 tf2 tf3 tf4 tf5 hnp idd (by omega) (zz_b1 (by omega)) zf.1 zf.2.1 zf.2.2.1 zf.2.2.2 erm (fun h9 => by omega)⟩ (show np - (k + 1) < np - k from by omega) _ _ _ (hP.sub [0, 1, 2] rfl) (hD.sub [0, 1, 2] (by decide) rfl) hS (lv_sub hl [4, 5, 6, 1, 2, 0] rfl)
      · have zc_5 := c_5
        rw [Int32.le_iff_toInt_le] at zc_5
        try rw [zz_toInt k (by omega)] at zc_5
        try rw [zz_toInt nl (by omega)] at zc_5
        refine lv_iload hx hb dX5_dayDone_54 (lv_at hl 0 rfl) ?_
        refine lv_iload hx hb dX5_dayDone_56 (lv_at hl 5 rfl) ?_
        refine lv_icmp_lt (tgt := 64) hx hb dX5_dayDone_58 (by decide) (fun c_6 => ?_) (fun c_6 => ?_)
        · have zc_6 := c_6
          rw [Int32.lt_iff_toInt_lt] at zc_6
          refine lv_iconst (v := 0) hx hb dX5_dayDone_64 (by decide) ?_
          refine lv_iload hx hb dX5_dayDone_65 (lv_at hl 5 rfl) ?_
          refine lv_iload hx hb dX5_dayDone_67 (lv_at hl 0 rfl) ?_
          refine lv_isub hx hb dX5_dayDone_69 ?_
          refine va_mmax hx hb (by rw [hml]; exact hl.1.symm) hown (hw _ tw_144) (hw _ tw_37) (hw _ tw_28) (hw _ tw_38) (Nat.le_of_ble_eq_true rfl) (Nat.le_of_ble_eq_true rfl) (Nat.le_of_ble_eq_true rfl) (Nat.le_of_ble_eq_true rfl) dX5_dayDone_70 ?_
          refine lv_aload_n hx hb dX5_dayDone_73 rfl (lv_at hl 1 rfl) ?_
          refine va_get (D := (dC, dI)) (ci := 5) (v := .ref (a 46)) (C := RX5) (T := TX5) (N := 12) hx hb hw zz_inX5 hown hK hP 0 rfl rfl 2 (by decide) (hw _ tw_148) (fun _ h9 => h9) rfl dX5_dayDone_74 ?_
          refine lv_iload hx hb dX5_dayDone_77 (lv_at hl 6 rfl) ?_
          refine va_iald hx hb hK hP 2 0 rfl rfl (vp_in_iff.mpr (by rw [zz_toInt k (by omega)]; constructor <;> omega)) dX5_dayDone_79 ?_
          refine zz_seti (q2 k) (congrArg q2 (zz_cl (by omega))) ?_
          refine lv_iadd hx hb dX5_dayDone_80 ?_
          refine lv_istore (lv' := [(4, .int ((if 0 < (ud - rm) then (ud - rm) else 0) + (q2 k))), (6, .int rm), (0, .ref (a 43)), (1, .int (nI ns)), (2, .int (nI nl)), (3, .int dy), (5, .int (nI k))]) hx hb dX5_dayDone_81 hl (by decide) rfl (fun ls hl => ?_)
          refine lv_aload_n hx hb dX5_dayDone_83 rfl (lv_at hl 2 rfl) ?_
          refine va_get (D := (dC, dI)) (ci := 5) (v := .ref (a 45)) (C := RX5) (T := TX5) (N := 12) hx hb hw zz_inX5 hown hK hP 0 rfl rfl 1 (by decide) (hw _ tw_147) (fun _ h9 => h9) rfl dX5_dayDone_84 ?_
          refine lv_iload hx hb dX5_dayDone_87 (lv_at hl 6 rfl) ?_
          refine va_iald hx hb hK hP 1 0 rfl rfl (vp_in_iff.mpr (by rw [zz_toInt k (by omega)]; constructor <;> omega)) dX5_dayDone_89 ?_
          refine zz_seti (q1 k) (congrArg q1 (zz_cl (by omega))) ?_
          refine lv_istore_n (lv' := [(3, .int (q1 k)), (4, .int ((if 0 < (ud - rm) then (ud - rm) else 0) + (q2 k))), (6, .int rm), (0, .ref (a 43)), (1, .int (nI ns)), (2, .int (nI nl)), (5, .int (nI k))]) hx hb dX5_dayDone_90 rfl hl (by decide) rfl (fun ls hl => ?_)
          refine lv_iinc (v := (nI (k + 1))) (lv' := [(5, .int (nI (k + 1))), (3, .int (q1 k)), (4, .int ((if 0 < (ud - rm) then (ud - rm) else 0) + (q2 k))), (6, .int rm), (0, .ref (a 43)), (1, .int (nI ns)), (2, .int (nI nl))]) hx hb dX5_dayDone_91 hl (k := 6) rfl (nI_1 _) (by decide) rfl (fun ls hl => ?_)
          refine lv_goto (tgt := 11) hx hb dX5_dayDone_94 (by decide) ?_
          exact ih_11 ((k + 1), (q1 k), ((if 0 < (ud - rm) then (ud - rm) else 0) + (q2 k))) ⟨by omega, zz_ddI_go hhd tf1 tf2 tf3 tf4 tf5 hnp idd (by omega) (zz_b1 (by omega)) zf.1 zf.2.1 zf.2.2.1 zf.2.2.2 erm (fun h9 => by omega)⟩ (show np - (k + 1) < np - k from by omega) _ _ _ (hP.sub [0, 1, 2] rfl) (hD.sub [0, 1, 2] (by decide) rfl) hS (lv_sub hl [4, 5, 6, 1, 2, 0] rfl)
        · have zc_6 := c_6
          rw [Int32.lt_iff_toInt_lt] at zc_6
          refine lv_goto (tgt := 97) hx hb dX5_dayDone_61 (by decide) ?_
          refine lv_aload_n hx hb dX5_dayDone_97 rfl (lv_at hl 1 rfl) ?_
          refine va_get (D := (dC, dI)) (ci := 5) (v := .int hd) (C := RX5) (T := TX5) (N := 12) hx hb hw zz_inX5 hown hK hP 0 rfl rfl 11 (by decide) (hw _ tw_145) (fun _ h9 => h9) rfl dX5_dayDone_98 ?_
          refine lv_if_le (tgt := 118) hx hb dX5_dayDone_101 (by decide) (fun c_7 => ?_) (fun c_7 => ?_)
          · have zc_7 := c_7
            rw [Int32.le_iff_toInt_le] at zc_7
            try rw [show (0 : Int32).toInt = 0 from by decide] at zc_7
            refine lv_iload_n hx hb dX5_dayDone_118 rfl (lv_at hl 4 rfl) ?_
            exact W.iret (v := dy) hx hb hr (fun t ht hW => ⟨⟨dy, (), rfl, (by exfalso; omega), trivial⟩, hS.F ht⟩) hS.2.2 dX5_dayDone_119
          · have zc_7 := c_7
            rw [Int32.le_iff_toInt_le] at zc_7
            try rw [show (0 : Int32).toInt = 0 from by decide] at zc_7
            refine lv_iload_n hx hb dX5_dayDone_104 rfl (lv_at hl 4 rfl) ?_
            refine lv_iload hx hb dX5_dayDone_105 (lv_at hl 5 rfl) ?_
            refine lv_iconst (v := 1) hx hb dX5_dayDone_107 (by decide) ?_
            refine lv_isub hx hb dX5_dayDone_108 ?_
            refine lv_aload_n hx hb dX5_dayDone_109 rfl (lv_at hl 1 rfl) ?_
            refine va_get (D := (dC, dI)) (ci := 5) (v := .int hd) (C := RX5) (T := TX5) (N := 12) hx hb hw zz_inX5 hown hK hP 0 rfl rfl 11 (by decide) (hw _ tw_145) (fun _ h9 => h9) rfl dX5_dayDone_110 ?_
            refine lv_idiv hx hb dX5_dayDone_113 (fun h9 => absurd (congrArg Int32.toInt h9) (by rw [show (0 : Int32).toInt = 0 from by decide]; omega)) ?_
            refine lv_iadd hx hb dX5_dayDone_114 ?_
            refine lv_goto (tgt := 119) hx hb dX5_dayDone_115 (by decide) ?_
            exact W.iret (v := (dy + ((ud - 1) / hd))) hx hb hr (fun t ht hW => ⟨⟨(dy + ((ud - 1) / hd)), (), rfl, (zz_ddI_end hhd tf1 tf2 tf4 tf5 hnp idd (by omega) (by omega) (fun h9 => ⟨q1 k, zf.1, zf.2.1, (by rw [← erm]; omega)⟩)), trivial⟩, hS.F ht⟩) hS.2.2 dX5_dayDone_119
    · have zc_4 := c_4
      rw [← Int32.toInt_inj] at zc_4
      try rw [zz_toInt (ns &&& (2 ^ k)) (by omega)] at zc_4
      try rw [show (0 : Int32).toInt = 0 from by decide] at zc_4
      refine lv_goto (tgt := 91) hx hb dX5_dayDone_29 (by decide) ?_
      refine lv_iinc (v := (nI (k + 1))) (lv' := [(5, .int (nI (k + 1))), (0, .ref (a 43)), (1, .int (nI ns)), (2, .int (nI nl)), (3, .int dy), (4, .int ud)]) hx hb dX5_dayDone_91 hl (k := 5) rfl (nI_1 _) (by decide) rfl (fun ls hl => ?_)
      refine lv_goto (tgt := 11) hx hb dX5_dayDone_94 (by decide) ?_
      exact ih_11 ((k + 1), dy, ud) ⟨by omega, zz_ddI_no idd (zz_b0 (by omega)) hbl⟩ (show np - (k + 1) < np - k from by omega) _ _ _ (hP.sub [0, 1, 2] rfl) (hD.sub [0, 1, 2] (by decide) rfl) hS (lv_sub hl [1, 2, 3, 4, 5, 0] rfl)
