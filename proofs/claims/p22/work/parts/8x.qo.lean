theorem zz_q3b {q0 q1 q2 q3 q4 xn xr xv : Nat → Int32} {t0 np k h : Nat} {S : Nat → Bool} {XR : Nat → Prop} {rd : Int32} {nd : Nat → Nat} (T : zz_tk7 q0 q1 q2 q3 q4 xn xr xv t0 np XR) (hxr : ∀ q : Nat, XR q → 0 ≤ (xr q).toInt ∧ (xr q).toInt ≤ 400) (hk : k < np) (ht : t0 ≤ 400) (hD : zz_Dd S (zz_stf t0 xr) nd h t0 (zz_P q0 k) rd.toInt.toNat) (h0 : 0 ≤ rd.toInt) : 0 ≤ (q3 k).toInt ∧ (q3 k).toInt ≤ rd.toInt := by
  have r := hxr _ (zz_P_12 T.1.1 k hk).2.1
  rw [(T.2.1 k hk).2.2.1]
  have a := hD.1
  have b := (zz_stf_le (re := xr) (q := zz_P q0 k) hD.2.1 r.1).mp a
  omega
theorem zz_ckb {lo xv xr xn q0 q1 q2 q3 q4 : Nat → Int32} {t0 np B h : Nat} {XR : Nat → Prop} (T : zz_tk7 q0 q1 q2 q3 q4 xn xr xv t0 np XR) (hl : zz_rg lo 10 0 100) (hxv : ∀ q : Nat, XR q → 0 ≤ (xv q).toInt ∧ (xv q).toInt ≤ 10000) : ∀ k : Nat, k < np → 0 ≤ zz_ck (zz_P q0) (zz_lsf lo xv xr) (zz_stf t0 xr) (zz_ndf xn) h t0 np B k ∧ zz_ck (zz_P q0) (zz_lsf lo xv xr) (zz_stf t0 xr) (zz_ndf xn) h t0 np B k ≤ 10000 := fun k hk => zz_lsq hl (hxv _ (zz_P_12 T.1.1 k hk).2.1) _
set_option maxHeartbeats 4000000 in
set_option maxRecDepth 100000 in
theorem kx_chooseNext (l : Launch) (dC : Nat → ClassId) (dI : Nat → Nat → Nat) (a : Nat → Nat) (cI : ClassId) (np : Nat) (cc : Nat) (nt0 : Nat) (hd : Int32) (q0 : Nat → Int32) (q1 : Nat → Int32) (q2 : Nat → Int32) (q3 : Nat → Int32) (q4 : Nat → Int32) (q5 : Nat → Int32) (q6 : Nat → Int32) (fl : Nat → Int32) (xn : Nat → Int32) (xr : Nat → Int32) (xv : Nat → Int32) (XR : Nat → Prop) (nb : Nat) (sz : Nat) (hnp : np ≤ 7) (hnb : nb < 128) (hbn : zz_bnx q6) (hB : nb < 2 ^ np - 1) (hDP : zz_DPs (zz_P q0) (zz_ck (zz_P q0) (zz_lsf fl xv xr) (zz_stf nt0 xr) (zz_ndf xn) hd.toInt.toNat nt0 np) q5 q6 np (nb + 1)) (hnt : nt0 ≤ 400) (hhd : 1 ≤ hd.toInt ∧ hd.toInt ≤ 99) (htk : zz_tk7 q0 q1 q2 q3 q4 xn xr xv nt0 np XR) (hxn : ∀ q : Nat, XR q → 1 ≤ (xn q).toInt ∧ (xn q).toInt ≤ 60) (hxr : ∀ q : Nat, XR q → 0 ≤ (xr q).toInt ∧ (xr q).toInt ≤ 400) (hxv : ∀ q : Nat, XR q → 0 ≤ (xv q).toInt ∧ (xv q).toInt ≤ 10000) (hlr : zz_rg fl 10 0 100) : Met l yX5_chooseNext (zz_w yX5_chooseNext cX5_chooseNext 9 none) ({ frames := 2, cells := 0, slots := 0, locals := 39 }) (va_Pc [.ref (a 43), .int (nI nb), .ref (a 23)] (zz_B (dC, dI) sz [(a 43, .inr (5, [.ref (a 44), .ref (a 45), .ref (a 46), .ref (a 47), .ref (a 48), .ref (a 49), .ref (a 50), .ref (a 51), .int (nI cc), .int (nI np), .int (nI nt0), .int hd])), (a 44, .inl (cI, 7, .inl q0)), (a 45, .inl (cI, 7, .inl q1)), (a 46, .inl (cI, 7, .inl q2)), (a 47, .inl (cI, 7, .inl q3)), (a 48, .inl (cI, 7, .inl q4)), (a 49, .inl (cI, 128, .inl q5)), (a 50, .inl (cI, 128, .inl q6)), (a 23, .inl (cI, 10, .inl fl))] [(cI, .int)])) (va_Qv (fun (u : (Nat → Int32) × (Nat → Int32)) => match u with | (l2, b2) => zz_bnx b2 ∧ zz_DPs (zz_P q0) (zz_ck (zz_P q0) (zz_lsf fl xv xr) (zz_stf nt0 xr) (zz_ndf xn) hd.toInt.toNat nt0 np) l2 b2 np nb) (fun (u : (Nat → Int32) × (Nat → Int32)) (t : State) => match u with | (u0, u1) => va_P (dC, dI) vwCl [(a 43, .inr (5, [.ref (a 44), .ref (a 45), .ref (a 46), .ref (a 47), .ref (a 48), .ref (a 49), .ref (a 50), .ref (a 51), .int (nI cc), .int (nI np), .int (nI nt0), .int hd])), (a 44, .inl (cI, 7, .inl q0)), (a 45, .inl (cI, 7, .inl q1)), (a 46, .inl (cI, 7, .inl q2)), (a 47, .inl (cI, 7, .inl q3)), (a 48, .inl (cI, 7, .inl q4)), (a 49, .inl (cI, 128, .inl u0)), (a 50, .inl (cI, 128, .inl u1)), (a 23, .inl (cI, 10, .inl fl))] t.heap ∧ va_K (dC, dI) vwCl [(cI, .int)] t ∧ va_D (va_A [(a 43, .inr (5, [.ref (a 44), .ref (a 45), .ref (a 46), .ref (a 47), .ref (a 48), .ref (a 49), .ref (a 50), .ref (a 51), .int (nI cc), .int (nI np), .int (nI nt0), .int hd])), (a 44, .inl (cI, 7, .inl q0)), (a 45, .inl (cI, 7, .inl q1)), (a 46, .inl (cI, 7, .inl q2)), (a 47, .inl (cI, 7, .inl q3)), (a 48, .inl (cI, 7, .inl q4)), (a 49, .inl (cI, 128, .inl q5)), (a 50, .inl (cI, 128, .inl q6)), (a 23, .inl (cI, 10, .inl fl))] sz) [(a 43, .inr (5, [.ref (a 44), .ref (a 45), .ref (a 46), .ref (a 47), .ref (a 48), .ref (a 49), .ref (a 50), .ref (a 51), .int (nI cc), .int (nI np), .int (nI nt0), .int hd])), (a 44, .inl (cI, 7, .inl q0)), (a 45, .inl (cI, 7, .inl q1)), (a 46, .inl (cI, 7, .inl q2)), (a 47, .inl (cI, 7, .inl q3)), (a 48, .inl (cI, 7, .inl q4)), (a 49, .inl (cI, 128, .inl u0)), (a 50, .inl (cI, 128, .inl u1)), (a 23, .inl (cI, 10, .inl fl))]) (va_A [(a 43, .inr (5, [.ref (a 44), .ref (a 45), .ref (a 46), .ref (a 47), .ref (a 48), .ref (a 49), .ref (a 50), .ref (a 51), .int (nI cc), .int (nI np), .int (nI nt0), .int hd])), (a 44, .inl (cI, 7, .inl q0)), (a 45, .inl (cI, 7, .inl q1)), (a 46, .inl (cI, 7, .inl q2)), (a 47, .inl (cI, 7, .inl q3)), (a 48, .inl (cI, 7, .inl q4)), (a 49, .inl (cI, 128, .inl q5)), (a 50, .inl (cI, 128, .inl q6)), (a 23, .inl (cI, 10, .inl fl))] sz)) 0 0 (va_A [(a 43, .inr (5, [.ref (a 44), .ref (a 45), .ref (a 46), .ref (a 47), .ref (a 48), .ref (a 49), .ref (a 50), .ref (a 51), .int (nI cc), .int (nI np), .int (nI nt0), .int hd])), (a 44, .inl (cI, 7, .inl q0)), (a 45, .inl (cI, 7, .inl q1)), (a 46, .inl (cI, 7, .inl q2)), (a 47, .inl (cI, 7, .inl q3)), (a 48, .inl (cI, 7, .inl q4)), (a 49, .inl (cI, 128, .inl q5)), (a 50, .inl (cI, 128, .inl q6)), (a 23, .inl (cI, 10, .inl fl))] sz) := by
  refine Met.ofW (cc := cX5_chooseNext) (maxL := 9) (ret := none) (by decide) rfl ?_
  intro p e s m args below meth c s₁ B hml hv
  obtain ⟨rfl, hsz, hP, hK, hD0, hN⟩ := hv
  have hx := B.exec
  have hb := B.bytes
  have hr := B.returns
  have hts := atoms_spec (ws := zz_w yX5_chooseNext cX5_chooseNext 9 none) B.pre
  have hw : ∀ w ∈ zz_all, w.before _ s = true := fun w h => hts w (List.mem_cons_of_mem _ h)
  have hown : s.vm.findClass RX5 = some m.cls := findClass_of_methodNamed B.named
  have hlocks := B.notSynchronized
  subst hsz
  have hD := hD0.self (sz := s.heap.size)
  generalize hAe : va_A [(a 43, .inr (5, [.ref (a 44), .ref (a 45), .ref (a 46), .ref (a 47), .ref (a 48), .ref (a 49), .ref (a 50), .ref (a 51), .int (nI cc), .int (nI np), .int (nI nt0), .int hd])), (a 44, .inl (cI, 7, .inl q0)), (a 45, .inl (cI, 7, .inl q1)), (a 46, .inl (cI, 7, .inl q2)), (a 47, .inl (cI, 7, .inl q3)), (a 48, .inl (cI, 7, .inl q4)), (a 49, .inl (cI, 128, .inl q5)), (a 50, .inl (cI, 128, .inl q6)), (a 23, .inl (cI, 10, .inl fl))] s.heap.size = A at hD ⊢
  have hA : ∀ q : Nat, s.heap.size ≤ q → A q := fun q h => by rw [← hAe]; exact Or.inr h
  have hS : va_S A s.heap s.heap [] := va_S.rf
  have hP : va_P (dC, dI) vwCl [(a 43, .inr (5, [.ref (a 44), .ref (a 45), .ref (a 46), .ref (a 47), .ref (a 48), .ref (a 49), .ref (a 50), .ref (a 51), .int (nI cc), .int (nI np), .int (nI nt0), .int hd])), (a 44, .inl (cI, 7, .inl q0)), (a 45, .inl (cI, 7, .inl q1)), (a 46, .inl (cI, 7, .inl q2)), (a 47, .inl (cI, 7, .inl q3)), (a 48, .inl (cI, 7, .inl q4)), (a 49, .inl (cI, 128, .inl q5)), (a 50, .inl (cI, 128, .inl q6)), (a 23, .inl (cI, 10, .inl fl))] s.heap := hP
  have hl := lv_entry ([.ref (a 43), .int (nI nb), .ref (a 23)]) (n := 9) (Nat.le_of_ble_eq_true rfl)
  rw [lg_entry_eq]
  generalize (lg_sl ([.ref (a 43), .int (nI nb), .ref (a 23)]) ++ List.replicate (9 - (lg_sl ([.ref (a 43), .int (nI nb), .ref (a 23)])).length) Slot.unset).toArray = ls at hl ⊢
  have hl : lv_has ls 9 [(0, .ref (a 43)), (1, .int (nI nb)), (2, .ref (a 23))] := hl
  refine lv_iconst (v := (-1)) hx hb dX5_chooseNext_0 (by decide) ?_
  refine lv_istore_n (lv' := [(3, .int (-1)), (0, .ref (a 43)), (1, .int (nI nb)), (2, .ref (a 23))]) hx hb dX5_chooseNext_1 rfl hl (by decide) rfl (fun ls hl => ?_)
  refine lv_iconst (v := 0) hx hb dX5_chooseNext_2 (by decide) ?_
  refine lv_istore (lv' := [(4, .int 0), (3, .int (-1)), (0, .ref (a 43)), (1, .int (nI nb)), (2, .ref (a 23))]) hx hb dX5_chooseNext_3 hl (by decide) rfl (fun ls hl => ?_)
  refine lv_iconst (v := 0) hx hb dX5_chooseNext_5 (by decide) ?_
  refine lv_istore (lv' := [(5, .int 0), (4, .int 0), (3, .int (-1)), (0, .ref (a 43)), (1, .int (nI nb)), (2, .ref (a 23))]) hx hb dX5_chooseNext_6 hl (by decide) rfl (fun ls hl => ?_)
  refine zz_loopS (fun (u : (Nat) × (Int32) × (Int32)) => match u with | (k, yb, ll) => [(a 43, .inr (5, [.ref (a 44), .ref (a 45), .ref (a 46), .ref (a 47), .ref (a 48), .ref (a 49), .ref (a 50), .ref (a 51), .int (nI cc), .int (nI np), .int (nI nt0), .int hd])), (a 44, .inl (cI, 7, .inl q0)), (a 45, .inl (cI, 7, .inl q1)), (a 46, .inl (cI, 7, .inl q2)), (a 47, .inl (cI, 7, .inl q3)), (a 48, .inl (cI, 7, .inl q4)), (a 49, .inl (cI, 128, .inl q5)), (a 50, .inl (cI, 128, .inl q6)), (a 23, .inl (cI, 10, .inl fl))]) (fun (u : (Nat) × (Int32) × (Int32)) => match u with | (k, yb, ll) => [(0, .ref (a 43)), (1, .int (nI nb)), (2, .ref (a 23)), (3, .int yb), (4, .int ll), (5, .int (nI k))]) (fun (u : (Nat) × (Int32) × (Int32)) => match u with | (k, yb, ll) => k ≤ np ∧ zz_bst yb ∧ zz_ci (zz_P q0) (zz_ck (zz_P q0) (zz_lsf fl xv xr) (zz_stf nt0 xr) (zz_ndf xn) hd.toInt.toNat nt0 np) q5 nb k yb ll) (fun (u : (Nat) × (Int32) × (Int32)) => match u with | (k, yb, ll) => np - k) (fun u hI H locs ls hP hD hS hl ih_8 => ?_) (0, (-1), 0) ⟨by omega, Or.inl rfl, zz_ci_0⟩ _ _ _ (hP.sub [0, 1, 2, 3, 4, 5, 6, 7, 8] rfl) (hD.sub [0, 1, 2, 3, 4, 5, 6, 7, 8] (by decide) rfl) hS (lv_sub hl [3, 4, 5, 2, 1, 0] rfl)
  obtain ⟨k, yb, ll⟩ := u
  obtain ⟨hP, hD⟩ := zz_ty (D := (dC, dI)) (cl := vwCl) (A := A) (H := H) [(a 43, .inr (5, [.ref (a 44), .ref (a 45), .ref (a 46), .ref (a 47), .ref (a 48), .ref (a 49), .ref (a 50), .ref (a 51), .int (nI cc), .int (nI np), .int (nI nt0), .int hd])), (a 44, .inl (cI, 7, .inl q0)), (a 45, .inl (cI, 7, .inl q1)), (a 46, .inl (cI, 7, .inl q2)), (a 47, .inl (cI, 7, .inl q3)), (a 48, .inl (cI, 7, .inl q4)), (a 49, .inl (cI, 128, .inl q5)), (a 50, .inl (cI, 128, .inl q6)), (a 23, .inl (cI, 10, .inl fl))] hP hD rfl
  have hl : lv_has ls 9 [(0, .ref (a 43)), (1, .int (nI nb)), (2, .ref (a 23)), (3, .int yb), (4, .int ll), (5, .int (nI k))] := hl
  have hI : k ≤ np ∧ zz_bst yb ∧ zz_ci (zz_P q0) (zz_ck (zz_P q0) (zz_lsf fl xv xr) (zz_stf nt0 xr) (zz_ndf xn) hd.toInt.toNat nt0 np) q5 nb k yb ll := hI
  obtain ⟨ik, iy, ic⟩ := hI
  refine lv_iload hx hb dX5_chooseNext_8 (lv_at hl 5 rfl) ?_
  refine lv_aload_n hx hb dX5_chooseNext_10 rfl (lv_at hl 0 rfl) ?_
  refine va_get (D := (dC, dI)) (ci := 5) (v := .int (nI np)) (C := RX5) (T := TX5) (N := 12) hx hb hw zz_inX5 hown hK hP 0 rfl rfl 9 (by decide) (hw _ tw_142) (fun _ h9 => h9) rfl dX5_chooseNext_11 ?_
  refine lv_icmp_ge (tgt := 131) hx hb dX5_chooseNext_14 (by decide) (fun c_1 => ?_) (fun c_1 => ?_)
  · have zc_1 := c_1
    rw [Int32.le_iff_toInt_le] at zc_1
    try rw [zz_toInt k (by omega)] at zc_1
    try rw [zz_toInt np (by omega)] at zc_1
    refine lv_aload_n hx hb dX5_chooseNext_131 rfl (lv_at hl 0 rfl) ?_
    refine va_get (D := (dC, dI)) (ci := 5) (v := .ref (a 49)) (C := RX5) (T := TX5) (N := 12) hx hb hw zz_inX5 hown hK hP 0 rfl rfl 5 (by decide) (hw _ tw_156) (fun _ h9 => h9) rfl dX5_chooseNext_132 ?_
    refine lv_iload_n hx hb dX5_chooseNext_135 rfl (lv_at hl 1 rfl) ?_
    refine lv_iload hx hb dX5_chooseNext_136 (lv_at hl 4 rfl) ?_
    refine va_iast hx hb hK hP hD hS 6 0 rfl rfl (vp_in_iff.mpr (by rw [zz_toInt nb (by omega)]; constructor <;> omega)) dX5_chooseNext_138 (fun H locs hP hD hS => ?_)
    obtain ⟨hP, hD⟩ := zz_ty (D := (dC, dI)) (cl := vwCl) (A := A) (H := H) [(a 43, .inr (5, [.ref (a 44), .ref (a 45), .ref (a 46), .ref (a 47), .ref (a 48), .ref (a 49), .ref (a 50), .ref (a 51), .int (nI cc), .int (nI np), .int (nI nt0), .int hd])), (a 44, .inl (cI, 7, .inl q0)), (a 45, .inl (cI, 7, .inl q1)), (a 46, .inl (cI, 7, .inl q2)), (a 47, .inl (cI, 7, .inl q3)), (a 48, .inl (cI, 7, .inl q4)), (a 49, .inl (cI, 128, .inl (upd q5 (Int32.toNatClampNeg (nI nb)) ll))), (a 50, .inl (cI, 128, .inl q6)), (a 23, .inl (cI, 10, .inl fl))] hP hD rfl
    refine lv_aload_n hx hb dX5_chooseNext_139 rfl (lv_at hl 0 rfl) ?_
    refine va_get (D := (dC, dI)) (ci := 5) (v := .ref (a 50)) (C := RX5) (T := TX5) (N := 12) hx hb hw zz_inX5 hown hK hP 0 rfl rfl 6 (by decide) (hw _ tw_157) (fun _ h9 => h9) rfl dX5_chooseNext_140 ?_
    refine lv_iload_n hx hb dX5_chooseNext_143 rfl (lv_at hl 1 rfl) ?_
    refine lv_iconst (v := 0) hx hb dX5_chooseNext_144 (by decide) ?_
    refine lv_iload_n hx hb dX5_chooseNext_145 rfl (lv_at hl 3 rfl) ?_
    refine va_mmax hx hb (by rw [hml]; exact hl.1.symm) hown (hw _ tw_144) (hw _ tw_37) (hw _ tw_28) (hw _ tw_38) (Nat.le_of_ble_eq_true rfl) (Nat.le_of_ble_eq_true rfl) (Nat.le_of_ble_eq_true rfl) (Nat.le_of_ble_eq_true rfl) dX5_chooseNext_146 ?_
    refine va_iast hx hb hK hP hD hS 7 0 rfl rfl (vp_in_iff.mpr (by rw [zz_toInt nb (by omega)]; constructor <;> omega)) dX5_chooseNext_149 (fun H locs hP hD hS => ?_)
    obtain ⟨hP, hD⟩ := zz_ty (D := (dC, dI)) (cl := vwCl) (A := A) (H := H) [(a 43, .inr (5, [.ref (a 44), .ref (a 45), .ref (a 46), .ref (a 47), .ref (a 48), .ref (a 49), .ref (a 50), .ref (a 51), .int (nI cc), .int (nI np), .int (nI nt0), .int hd])), (a 44, .inl (cI, 7, .inl q0)), (a 45, .inl (cI, 7, .inl q1)), (a 46, .inl (cI, 7, .inl q2)), (a 47, .inl (cI, 7, .inl q3)), (a 48, .inl (cI, 7, .inl q4)), (a 49, .inl (cI, 128, .inl (upd q5 (Int32.toNatClampNeg (nI nb)) ll))), (a 50, .inl (cI, 128, .inl (upd q6 (Int32.toNatClampNeg (nI nb)) (if 0 < yb then yb else 0)))), (a 23, .inl (cI, 10, .inl fl))] hP hD rfl
    obtain ⟨hP9, hD9⟩ := zz_sub2 (ws' := [(a 43, .inr (5, [.ref (a 44), .ref (a 45), .ref (a 46), .ref (a 47), .ref (a 48), .ref (a 49), .ref (a 50), .ref (a 51), .int (nI cc), .int (nI np), .int (nI nt0), .int hd])), (a 44, .inl (cI, 7, .inl q0)), (a 45, .inl (cI, 7, .inl q1)), (a 46, .inl (cI, 7, .inl q2)), (a 47, .inl (cI, 7, .inl q3)), (a 48, .inl (cI, 7, .inl q4)), (a 49, .inl (cI, 128, .inl (upd q5 (Int32.toNatClampNeg (nI nb)) ll))), (a 50, .inl (cI, 128, .inl (upd q6 (Int32.toNatClampNeg (nI nb)) (if 0 < yb then yb else 0)))), (a 23, .inl (cI, 10, .inl fl))]) hP hD [0, 1, 2, 3, 4, 5, 6, 7, 8] (by decide) rfl
    have hK9 := hK.sub (tys' := [(cI, .int)]) [0] rfl
    exact W.vret hx hb hr (fun t ht hW => ⟨⟨((upd q5 (Int32.toNatClampNeg (nI nb)) ll), (upd q6 (Int32.toNatClampNeg (nI nb)) (if 0 < yb then yb else 0))), rfl, ⟨zz_bn hbn iy, zz_ci_end hnp hB (zz_ckb htk hlr hxv) hDP (by have h9 : k = np := (by omega); rw [h9] at ic; exact ic)⟩, by rw [ht]; exact hP9, va_K.moved hW.alike hK9, hD9⟩, hS.F ht⟩) hS.2.2 dX5_chooseNext_150
  · have zc_1 := c_1
    rw [Int32.le_iff_toInt_le] at zc_1
    try rw [zz_toInt k (by omega)] at zc_1
    try rw [zz_toInt np (by omega)] at zc_1
    have hpw := zz_bp7 (j := k) (by omega)
    have hor7 := zz_orl hnb (show k < 7 by omega)
    refine lv_iload_n hx hb dX5_chooseNext_17 rfl (lv_at hl 1 rfl) ?_
    refine lv_iconst (v := 1) hx hb dX5_chooseNext_18 (by decide) ?_
    refine lv_iload hx hb dX5_chooseNext_19 (lv_at hl 5 rfl) ?_
    refine lv_ishl hx hb dX5_chooseNext_21 ?_
    refine zz_seti (nI (2 ^ k)) (zz_shl (by omega)) ?_
    refine lv_ior hx hb dX5_chooseNext_22 ?_
    refine zz_seti (nI (nb ||| 2 ^ k)) (zz_orN7 hnb (by omega)) ?_
    refine lv_istore (lv' := [(6, .int (nI (nb ||| 2 ^ k))), (0, .ref (a 43)), (1, .int (nI nb)), (2, .ref (a 23)), (3, .int yb), (4, .int ll), (5, .int (nI k))]) hx hb dX5_chooseNext_23 hl (by decide) rfl (fun ls hl => ?_)
    refine lv_iload hx hb dX5_chooseNext_25 (lv_at hl 0 rfl) ?_
    refine lv_iload_n hx hb dX5_chooseNext_27 rfl (lv_at hl 2 rfl) ?_
    refine lv_icmp_ne (tgt := 34) hx hb dX5_chooseNext_28 (by decide) (fun c_2 => ?_) (fun c_2 => ?_)
    · have zc_2 := c_2
      rw [← Int32.toInt_inj] at zc_2
      try rw [zz_toInt (nb ||| 2 ^ k) (by omega)] at zc_2
      try rw [zz_toInt nb (by omega)] at zc_2
      have hbk : nb.testBit k = false := zz_or_ne7 (by omega)
      have hup := zz_or_n hbk
      have hle : (nb ||| 2 ^ k) ≤ 2 ^ np - 1 := by have h9 := Nat.or_lt_two_pow (x := nb) (y := 2 ^ k) (n := np) (by omega) (Nat.pow_lt_pow_right (by decide) (by omega)); omega
      have hLL := hDP.2.2 (nb ||| 2 ^ k) (by omega) hle
      have hal := zz_alm7 hnp
      refine lv_aload_n hx hb dX5_chooseNext_34 rfl (lv_at hl 1 rfl) ?_
      refine lv_iload hx hb dX5_chooseNext_35 (lv_at hl 0 rfl) ?_
      refine lv_iload hx hb dX5_chooseNext_37 (lv_at hl 6 rfl) ?_
      obtain ⟨hPc, hDc⟩ := zz_sub2 (ws' := [(a 43, .inr (5, [.ref (a 44), .ref (a 45), .ref (a 46), .ref (a 47), .ref (a 48), .ref (a 49), .ref (a 50), .ref (a 51), .int (nI cc), .int (nI np), .int (nI nt0), .int hd])), (a 45, .inl (cI, 7, .inl q1)), (a 46, .inl (cI, 7, .inl q2))]) hP hD [0, 2, 3] (by decide) rfl
      have hKc := hK.sub (tys' := [(cI, .int)]) [0] rfl
      have hFc := zz_free0 hS hA
      refine va_calli (va_runV (As := [.int (nI (nb ||| 2 ^ k)), .int (nI k)]) (rest := []) ⟨hx, hb, hml, hown, hw⟩ (kx_dayDone l dC dI a cI np cc nt0 hd q1 q2 q0 q3 q4 xn xr xv XR (nb ||| 2 ^ k) k H.size (by omega) (by omega) (by omega) zz_or_t hnt hhd htk hxn hxr) ⟨callB_of 2 hw (zz_good tw_158) rfl rfl rfl (hw _ tw_152) (hw _ tw_159) (by decide +kernel) ⟨Nat.le_of_ble_eq_true rfl, Nat.le_of_ble_eq_true rfl⟩, (hw _ tw_160), (hw _ tw_161)⟩ ⟨zz_blind, va_recv hKc hPc (ci := 5) (q0 := 0) rfl rfl, zz_pre hPc hKc hDc hN⟩ rfl rfl hl.1 rfl (lv_room (Nat.le_of_ble_eq_true rfl)) dX5_chooseNext_39 ⟨Nat.le_of_ble_eq_true rfl, Nat.le_of_ble_eq_true rfl⟩) hS (fun q _ h => hFc q h) hFc (fun r_3 u_3 t H1 locs ht hvm e_3 hB hz1 hk1 hS => ?_)
      try dsimp only at e_3
      have hP := zz_keep hP hk1
      clear hk1 hB ht hvm
      generalize H1 = H at hP hS ⊢
      refine lv_topi (fun rd erd => ?_)
      have hrd := e_3
      rw [← erd] at hrd
      have zq3 : 0 ≤ (q3 k).toInt ∧ (q3 k).toInt ≤ rd.toInt := zz_q3b htk hxr (by omega) hnt hrd.2 hrd.1.1
      refine lv_aload_n hx hb dX5_chooseNext_42 rfl (lv_at hl 1 rfl) ?_
      refine va_get (D := (dC, dI)) (ci := 5) (v := .ref (a 47)) (C := RX5) (T := TX5) (N := 12) hx hb hw zz_inX5 hown hK hP 0 rfl rfl 3 (by decide) (hw _ tw_149) (fun _ h9 => h9) rfl dX5_chooseNext_43 ?_
      refine lv_iload hx hb dX5_chooseNext_46 (lv_at hl 6 rfl) ?_
      refine va_iald hx hb hK hP 4 0 rfl rfl (vp_in_iff.mpr (by rw [zz_toInt k (by omega)]; constructor <;> omega)) dX5_chooseNext_48 ?_
      refine zz_seti (q3 k) (congrArg q3 (zz_cl (by omega))) ?_
      refine lv_isub hx hb dX5_chooseNext_49 ?_
      refine lv_istore (lv' := [(7, .int (rd - (q3 k))), (6, .int (nI (nb ||| 2 ^ k))), (0, .ref (a 43)), (1, .int (nI nb)), (2, .ref (a 23)), (3, .int yb), (4, .int ll), (5, .int (nI k))]) hx hb dX5_chooseNext_50 hl (by decide) rfl (fun ls hl => ?_)
      refine lv_aload_n hx hb dX5_chooseNext_52 rfl (lv_at hl 2 rfl) ?_
      refine va_get (D := (dC, dI)) (ci := 5) (v := .ref (a 48)) (C := RX5) (T := TX5) (N := 12) hx hb hw zz_inX5 hown hK hP 0 rfl rfl 4 (by decide) (hw _ tw_150) (fun _ h9 => h9) rfl dX5_chooseNext_53 ?_
      refine lv_iload hx hb dX5_chooseNext_56 (lv_at hl 7 rfl) ?_
      refine va_iald hx hb hK hP 5 0 rfl rfl (vp_in_iff.mpr (by rw [zz_toInt k (by omega)]; constructor <;> omega)) dX5_chooseNext_58 ?_
      refine zz_seti (q4 k) (congrArg q4 (zz_cl (by omega))) ?_
      refine lv_aload_n hx hb dX5_chooseNext_59 rfl (lv_at hl 2 rfl) ?_
      refine va_get (D := (dC, dI)) (ci := 5) (v := .ref (a 48)) (C := RX5) (T := TX5) (N := 12) hx hb hw zz_inX5 hown hK hP 0 rfl rfl 4 (by decide) (hw _ tw_150) (fun _ h9 => h9) rfl dX5_chooseNext_60 ?_
      refine lv_iload hx hb dX5_chooseNext_63 (lv_at hl 7 rfl) ?_
      refine va_iald hx hb hK hP 5 0 rfl rfl (vp_in_iff.mpr (by rw [zz_toInt k (by omega)]; constructor <;> omega)) dX5_chooseNext_65 ?_
      refine zz_seti (q4 k) (congrArg q4 (zz_cl (by omega))) ?_
      refine lv_iload hx hb dX5_chooseNext_66 (lv_at hl 0 rfl) ?_
      refine lv_aload_n hx hb dX5_chooseNext_68 rfl (lv_at hl 4 rfl) ?_
      obtain ⟨hPc, hDc⟩ := zz_sub2 (ws' := [(a 23, .inl (cI, 10, .inl fl))]) hP hD [8] (by decide) rfl
      have hKc := hK.sub (tys' := [(cI, .int)]) [0] rfl
      have hFc := zz_free0 hS hA
      refine va_calli (va_runSN (As := [.int (q4 k), .int (rd - (q3 k)), .ref (a 23)]) (rest := [.int (q4 k)]) ⟨hx, hb, hml, hown, hw⟩ (kx_proceedsOf l dC dI a cI fl (q4 k) (rd - (q3 k)) H.size (by rw [zz_subI (by omega) (by omega)]; omega)) ⟨va_cnB 3 hw (zz_good tw_41) rfl rfl rfl (hN.1 _ zz_n65) (hw _ tw_2) (by decide +kernel) ⟨Nat.le_of_ble_eq_true rfl, Nat.le_of_ble_eq_true rfl⟩, (hw _ tw_43), trivial⟩ ⟨zz_blind, zz_pre hPc hKc hDc hN⟩ rfl rfl hl.1 rfl (lv_room (Nat.le_of_ble_eq_true rfl)) dX5_chooseNext_69 ⟨Nat.le_of_ble_eq_true rfl, Nat.le_of_ble_eq_true rfl⟩) hS (fun q _ h => hFc q h) hFc (fun r_4 u_4 t H1 locs ht hvm e_4 hB hz1 hk1 hS => ?_)
      try dsimp only at e_4
      have hP := zz_keep hP hk1
      clear hk1 hB ht hvm
      generalize H1 = H at hP hS ⊢
      refine zz_seti (zz_pc fl (q4 k) (rd - (q3 k))) e_4 ?_
      refine lv_isub hx hb dX5_chooseNext_72 ?_
      refine lv_aload_n hx hb dX5_chooseNext_73 rfl (lv_at hl 2 rfl) ?_
      refine va_get (D := (dC, dI)) (ci := 5) (v := .ref (a 49)) (C := RX5) (T := TX5) (N := 12) hx hb hw zz_inX5 hown hK hP 0 rfl rfl 5 (by decide) (hw _ tw_156) (fun _ h9 => h9) rfl dX5_chooseNext_74 ?_
      refine lv_iload hx hb dX5_chooseNext_77 (lv_at hl 1 rfl) ?_
      refine va_iald hx hb hK hP 6 0 rfl rfl (vp_in_iff.mpr (by rw [zz_toInt (nb ||| 2 ^ k) (by omega)]; constructor <;> omega)) dX5_chooseNext_79 ?_
      refine zz_seti (q5 (nb ||| 2 ^ k)) (congrArg q5 (zz_cl (by omega))) ?_
      refine lv_iadd hx hb dX5_chooseNext_80 ?_
      refine lv_topi (fun lz elz => ?_)
      have hlz : lz.toInt = (zz_ck (zz_P q0) (zz_lsf fl xv xr) (zz_stf nt0 xr) (zz_ndf xn) hd.toInt.toNat nt0 np) nb k + (q5 (nb ||| 2 ^ k)).toInt := by rw [elz]; exact zz_lost_eq htk hlr hxv (by omega) hrd.1.1 hrd.2 ⟨hLL.1, by omega⟩
      refine lv_istore (lv' := [(8, .int lz), (7, .int (rd - (q3 k))), (6, .int (nI (nb ||| 2 ^ k))), (0, .ref (a 43)), (1, .int (nI nb)), (2, .ref (a 23)), (3, .int yb), (4, .int ll), (5, .int (nI k))]) hx hb dX5_chooseNext_81 hl (by decide) rfl (fun ls hl => ?_)
      refine lv_iload_n hx hb dX5_chooseNext_83 rfl (lv_at hl 6 rfl) ?_
      refine lv_iconst (v := (-1)) hx hb dX5_chooseNext_84 (by decide) ?_
      refine lv_icmp_eq (tgt := 118) hx hb dX5_chooseNext_85 (by decide) (fun c_5 => ?_) (fun c_5 => ?_)
      · have zc_5 := c_5
        rw [← Int32.toInt_inj] at zc_5
        try rw [show ((-1) : Int32).toInt = (-1) from by decide] at zc_5
        refine lv_iload hx hb dX5_chooseNext_118 (lv_at hl 8 rfl) ?_
        refine lv_istore_n (lv' := [(3, .int (nI k)), (8, .int lz), (7, .int (rd - (q3 k))), (6, .int (nI (nb ||| 2 ^ k))), (0, .ref (a 43)), (1, .int (nI nb)), (2, .ref (a 23)), (4, .int ll), (5, .int (nI k))]) hx hb dX5_chooseNext_120 rfl hl (by decide) rfl (fun ls hl => ?_)
        refine lv_iload hx hb dX5_chooseNext_121 (lv_at hl 1 rfl) ?_
        refine lv_istore (lv' := [(4, .int lz), (3, .int (nI k)), (8, .int lz), (7, .int (rd - (q3 k))), (6, .int (nI (nb ||| 2 ^ k))), (0, .ref (a 43)), (1, .int (nI nb)), (2, .ref (a 23)), (5, .int (nI k))]) hx hb dX5_chooseNext_123 hl (by decide) rfl (fun ls hl => ?_)
        refine lv_iinc (v := (nI (k + 1))) (lv' := [(5, .int (nI (k + 1))), (4, .int lz), (3, .int (nI k)), (8, .int lz), (7, .int (rd - (q3 k))), (6, .int (nI (nb ||| 2 ^ k))), (0, .ref (a 43)), (1, .int (nI nb)), (2, .ref (a 23))]) hx hb dX5_chooseNext_125 hl (k := 8) rfl (nI_1 _) (by decide) rfl (fun ls hl => ?_)
        refine lv_goto (tgt := 8) hx hb dX5_chooseNext_128 (by decide) ?_
        exact ih_8 ((k + 1), (nI k), lz) ⟨by omega, Or.inr ⟨k, by omega, rfl⟩, zz_ci_new ic hbk hlz (by omega) (Or.inl c_5)⟩ (show np - (k + 1) < np - k from by omega) _ _ _ (hP.sub [0, 1, 2, 3, 4, 5, 6, 7, 8] rfl) (hD.sub [0, 1, 2, 3, 4, 5, 6, 7, 8] (by decide) rfl) hS (lv_sub hl [6, 7, 8, 2, 1, 0] rfl)
      · have zc_5 := c_5
        rw [← Int32.toInt_inj] at zc_5
        try rw [show ((-1) : Int32).toInt = (-1) from by decide] at zc_5
        refine lv_iload hx hb dX5_chooseNext_88 (lv_at hl 0 rfl) ?_
        refine lv_iload hx hb dX5_chooseNext_90 (lv_at hl 7 rfl) ?_
        refine lv_icmp_lt (tgt := 118) hx hb dX5_chooseNext_92 (by decide) (fun c_6 => ?_) (fun c_6 => ?_)
        · have zc_6 := c_6
          rw [Int32.lt_iff_toInt_lt] at zc_6
          refine lv_iload hx hb dX5_chooseNext_118 (lv_at hl 8 rfl) ?_
          refine lv_istore_n (lv' := [(3, .int (nI k)), (8, .int lz), (7, .int (rd - (q3 k))), (6, .int (nI (nb ||| 2 ^ k))), (0, .ref (a 43)), (1, .int (nI nb)), (2, .ref (a 23)), (4, .int ll), (5, .int (nI k))]) hx hb dX5_chooseNext_120 rfl hl (by decide) rfl (fun ls hl => ?_)
          refine lv_iload hx hb dX5_chooseNext_121 (lv_at hl 1 rfl) ?_
          refine lv_istore (lv' := [(4, .int lz), (3, .int (nI k)), (8, .int lz), (7, .int (rd - (q3 k))), (6, .int (nI (nb ||| 2 ^ k))), (0, .ref (a 43)), (1, .int (nI nb)), (2, .ref (a 23)), (5, .int (nI k))]) hx hb dX5_chooseNext_123 hl (by decide) rfl (fun ls hl => ?_)
          refine lv_iinc (v := (nI (k + 1))) (lv' := [(5, .int (nI (k + 1))), (4, .int lz), (3, .int (nI k)), (8, .int lz), (7, .int (rd - (q3 k))), (6, .int (nI (nb ||| 2 ^ k))), (0, .ref (a 43)), (1, .int (nI nb)), (2, .ref (a 23))]) hx hb dX5_chooseNext_125 hl (k := 8) rfl (nI_1 _) (by decide) rfl (fun ls hl => ?_)
          refine lv_goto (tgt := 8) hx hb dX5_chooseNext_128 (by decide) ?_
          exact ih_8 ((k + 1), (nI k), lz) ⟨by omega, Or.inr ⟨k, by omega, rfl⟩, zz_ci_new ic hbk hlz (by omega) (Or.inr (Or.inl (by omega)))⟩ (show np - (k + 1) < np - k from by omega) _ _ _ (hP.sub [0, 1, 2, 3, 4, 5, 6, 7, 8] rfl) (hD.sub [0, 1, 2, 3, 4, 5, 6, 7, 8] (by decide) rfl) hS (lv_sub hl [6, 7, 8, 2, 1, 0] rfl)
        · have zc_6 := c_6
          rw [Int32.lt_iff_toInt_lt] at zc_6
          refine lv_iload hx hb dX5_chooseNext_95 (lv_at hl 0 rfl) ?_
          refine lv_iload hx hb dX5_chooseNext_97 (lv_at hl 7 rfl) ?_
          refine lv_icmp_ne (tgt := 125) hx hb dX5_chooseNext_99 (by decide) (fun c_7 => ?_) (fun c_7 => ?_)
          · have zc_7 := c_7
            rw [← Int32.toInt_inj] at zc_7
            refine lv_iinc (v := (nI (k + 1))) (lv' := [(5, .int (nI (k + 1))), (8, .int lz), (7, .int (rd - (q3 k))), (6, .int (nI (nb ||| 2 ^ k))), (0, .ref (a 43)), (1, .int (nI nb)), (2, .ref (a 23)), (3, .int yb), (4, .int ll)]) hx hb dX5_chooseNext_125 hl (k := 8) rfl (nI_1 _) (by decide) rfl (fun ls hl => ?_)
            refine lv_goto (tgt := 8) hx hb dX5_chooseNext_128 (by decide) ?_
            exact ih_8 ((k + 1), yb, ll) ⟨by omega, iy, zz_ci_old ic hbk hlz c_5 (Or.inl (by have h8 : ¬ ll.toInt = lz.toInt := fun h9 => c_7 (Int32.toInt_inj.mp h9).symm; omega))⟩ (show np - (k + 1) < np - k from by omega) _ _ _ (hP.sub [0, 1, 2, 3, 4, 5, 6, 7, 8] rfl) (hD.sub [0, 1, 2, 3, 4, 5, 6, 7, 8] (by decide) rfl) hS (lv_sub hl [4, 5, 6, 7, 8, 0] rfl)
          · have zc_7 := c_7
            rw [← Int32.toInt_inj] at zc_7
            refine lv_aload_n hx hb dX5_chooseNext_102 rfl (lv_at hl 3 rfl) ?_
            refine va_get (D := (dC, dI)) (ci := 5) (v := .ref (a 44)) (C := RX5) (T := TX5) (N := 12) hx hb hw zz_inX5 hown hK hP 0 rfl rfl 0 (by decide) (hw _ tw_146) (fun _ h9 => h9) rfl dX5_chooseNext_103 ?_
            refine lv_iload hx hb dX5_chooseNext_106 (lv_at hl 8 rfl) ?_
            refine va_iald hx hb hK hP 1 0 rfl rfl (vp_in_iff.mpr (by rw [zz_toInt k (by omega)]; constructor <;> omega)) dX5_chooseNext_108 ?_
            refine zz_seti (q0 k) (congrArg q0 (zz_cl (by omega))) ?_
            refine lv_aload_n hx hb dX5_chooseNext_109 rfl (lv_at hl 3 rfl) ?_
            refine va_get (D := (dC, dI)) (ci := 5) (v := .ref (a 44)) (C := RX5) (T := TX5) (N := 12) hx hb hw zz_inX5 hown hK hP 0 rfl rfl 0 (by decide) (hw _ tw_146) (fun _ h9 => h9) rfl dX5_chooseNext_110 ?_
            refine lv_iload_n hx hb dX5_chooseNext_113 rfl (lv_at hl 6 rfl) ?_
            refine va_iald hx hb hK hP 1 0 rfl rfl (zz_best iy c_5) dX5_chooseNext_114 ?_
            refine lv_icmp_ge (tgt := 125) hx hb dX5_chooseNext_115 (by decide) (fun c_8 => ?_) (fun c_8 => ?_)
            · have zc_8 := c_8
              rw [Int32.le_iff_toInt_le] at zc_8
              refine lv_iinc (v := (nI (k + 1))) (lv' := [(5, .int (nI (k + 1))), (8, .int lz), (7, .int (rd - (q3 k))), (6, .int (nI (nb ||| 2 ^ k))), (0, .ref (a 43)), (1, .int (nI nb)), (2, .ref (a 23)), (3, .int yb), (4, .int ll)]) hx hb dX5_chooseNext_125 hl (k := 8) rfl (nI_1 _) (by decide) rfl (fun ls hl => ?_)
              refine lv_goto (tgt := 8) hx hb dX5_chooseNext_128 (by decide) ?_
              exact ih_8 ((k + 1), yb, ll) ⟨by omega, iy, zz_ci_old ic hbk hlz c_5 (Or.inr ⟨(by rw [c_7]), fun z9 h8 h7 => zz_nmge (by omega) h8 (by omega)⟩)⟩ (show np - (k + 1) < np - k from by omega) _ _ _ (hP.sub [0, 1, 2, 3, 4, 5, 6, 7, 8] rfl) (hD.sub [0, 1, 2, 3, 4, 5, 6, 7, 8] (by decide) rfl) hS (lv_sub hl [4, 5, 6, 7, 8, 0] rfl)
            · have zc_8 := c_8
              rw [Int32.le_iff_toInt_le] at zc_8
              refine lv_iload hx hb dX5_chooseNext_118 (lv_at hl 8 rfl) ?_
              refine lv_istore_n (lv' := [(3, .int (nI k)), (8, .int lz), (7, .int (rd - (q3 k))), (6, .int (nI (nb ||| 2 ^ k))), (0, .ref (a 43)), (1, .int (nI nb)), (2, .ref (a 23)), (4, .int ll), (5, .int (nI k))]) hx hb dX5_chooseNext_120 rfl hl (by decide) rfl (fun ls hl => ?_)
              refine lv_iload hx hb dX5_chooseNext_121 (lv_at hl 1 rfl) ?_
              refine lv_istore (lv' := [(4, .int lz), (3, .int (nI k)), (8, .int lz), (7, .int (rd - (q3 k))), (6, .int (nI (nb ||| 2 ^ k))), (0, .ref (a 43)), (1, .int (nI nb)), (2, .ref (a 23)), (5, .int (nI k))]) hx hb dX5_chooseNext_123 hl (by decide) rfl (fun ls hl => ?_)
              refine lv_iinc (v := (nI (k + 1))) (lv' := [(5, .int (nI (k + 1))), (4, .int lz), (3, .int (nI k)), (8, .int lz), (7, .int (rd - (q3 k))), (6, .int (nI (nb ||| 2 ^ k))), (0, .ref (a 43)), (1, .int (nI nb)), (2, .ref (a 23))]) hx hb dX5_chooseNext_125 hl (k := 8) rfl (nI_1 _) (by decide) rfl (fun ls hl => ?_)
              refine lv_goto (tgt := 8) hx hb dX5_chooseNext_128 (by decide) ?_
              exact ih_8 ((k + 1), (nI k), lz) ⟨by omega, Or.inr ⟨k, by omega, rfl⟩, zz_ci_new ic hbk hlz (by omega) (Or.inr (Or.inr ⟨(by rw [c_7]), fun z9 h8 h7 => zz_nmle (by omega) h8 (by omega)⟩))⟩ (show np - (k + 1) < np - k from by omega) _ _ _ (hP.sub [0, 1, 2, 3, 4, 5, 6, 7, 8] rfl) (hD.sub [0, 1, 2, 3, 4, 5, 6, 7, 8] (by decide) rfl) hS (lv_sub hl [6, 7, 8, 2, 1, 0] rfl)
    · have zc_2 := c_2
      rw [← Int32.toInt_inj] at zc_2
      try rw [zz_toInt (nb ||| 2 ^ k) (by omega)] at zc_2
      try rw [zz_toInt nb (by omega)] at zc_2
      refine lv_goto (tgt := 125) hx hb dX5_chooseNext_31 (by decide) ?_
      refine lv_iinc (v := (nI (k + 1))) (lv' := [(5, .int (nI (k + 1))), (6, .int (nI (nb ||| 2 ^ k))), (0, .ref (a 43)), (1, .int (nI nb)), (2, .ref (a 23)), (3, .int yb), (4, .int ll)]) hx hb dX5_chooseNext_125 hl (k := 6) rfl (nI_1 _) (by decide) rfl (fun ls hl => ?_)
      refine lv_goto (tgt := 8) hx hb dX5_chooseNext_128 (by decide) ?_
      exact ih_8 ((k + 1), yb, ll) ⟨by omega, iy, zz_ci_no ic (zz_or_eq (by omega))⟩ (show np - (k + 1) < np - k from by omega) _ _ _ (hP.sub [0, 1, 2, 3, 4, 5, 6, 7, 8] rfl) (hD.sub [0, 1, 2, 3, 4, 5, 6, 7, 8] (by decide) rfl) hS (lv_sub hl [2, 3, 4, 5, 6, 0] rfl)
