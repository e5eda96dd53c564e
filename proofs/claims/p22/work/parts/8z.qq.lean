set_option maxHeartbeats 4000000 in
set_option maxRecDepth 100000 in
theorem kx_waiting (l : Launch) (dC : Nat → ClassId) (dI : Nat → Nat → Nat) (a : Nat → Nat) (nh : Nat) (nf : Nat) (nc : Nat) (hi : Int32) (cF : ClassId) (fF : Nat → Option Nat) (V : Nat → Nat → Int32) (vh0 : Nat → Int32) (vh1 : Nat → Int32) (vh2 : Nat → Int32) (vh3 : Nat → Int32) (vh4 : Nat → Int32) (vh5 : Nat → Int32) (vh6 : Nat → Int32) (vh7 : Nat → Int32) (vh8 : Nat → Int32) (vf0 : Nat → Int32) (vf1 : Nat → Int32) (vf2 : Nat → Int32) (vf3 : Nat → Int32) (vf4 : Nat → Int32) (vf5 : Nat → Int32) (vf6 : Nat → Int32) (L : List Nat) (K : Nat → Nat) (sz : Nat) (hc8 : nh ≤ 8) (hf12 : nf ≤ 12) (hfF : ∀ k, k < 12 → fF k = some (a (11 + k))) (hF : ∀ k, k < 12 → a (11 + k) ∈ L ∧ K (a (11 + k)) = 3) (hR : zz_RV a V vh0 vh1 vh2 vh3 vh4 vh5 vh6 vh7 vh8 vf0 vf1 vf2 vf3 vf4 vf5 vf6) : Met l yX7_waitingFields (zz_w yX7_waitingFields cX7_waitingFields 3 (some .int)) ({ frames := 0, cells := 0, slots := 0, locals := 0 }) (va_Pc [.ref (a 0)] (zz_B (dC, dI) sz (([(a 0, .inr (7, [.ref (a 1), .ref (a 10), .ref (a 23), .ref (a 24), .ref (a 26), .ref (a 29), .ref (a 34), .ref (a 43), .int (nI nh), .int (nI nf), .int (nI nc), .int hi])), (a 10, .inl (cF, 12, .inr (.inr (.inr (.inr fF)))))] : va_W) ++ va_pl L (zz_F K V)) [(cF, .object RX3)])) (va_Qi (fun (r : Int32) (_ : Unit) => r = nI (zz_ctp vf2 nf)) (fun _ _ => True) (va_A [] sz)) 0 0 (va_A [] sz) := by
  refine Met.ofW (cc := cX7_waitingFields) (maxL := 3) (ret := (some .int)) (by decide) rfl ?_
  intro p e s m args below meth c s₁ B hml hv
  obtain ⟨rfl, hsz, hP, hK, hD0, hN⟩ := hv
  have hx := B.exec
  have hb := B.bytes
  have hr := B.returns
  have hts := atoms_spec (ws := zz_w yX7_waitingFields cX7_waitingFields 3 (some .int)) B.pre
  have hw : ∀ w ∈ zz_all, w.before _ s = true := fun w h => hts w (List.mem_cons_of_mem _ h)
  have hown : s.vm.findClass RX7 = some m.cls := findClass_of_methodNamed B.named
  have hlocks := B.notSynchronized
  subst hsz
  have hD := hD0
  generalize hAe : va_A [] s.heap.size = A
  have hA : ∀ q : Nat, s.heap.size ≤ q → A q := fun q h => by rw [← hAe]; exact Or.inr h
  have hS : va_S A s.heap s.heap [] := va_S.rf
  have hP : va_P (dC, dI) vwCl (([(a 0, .inr (7, [.ref (a 1), .ref (a 10), .ref (a 23), .ref (a 24), .ref (a 26), .ref (a 29), .ref (a 34), .ref (a 43), .int (nI nh), .int (nI nf), .int (nI nc), .int hi])), (a 10, .inl (cF, 12, .inr (.inr (.inr (.inr fF)))))] : va_W) ++ va_pl L (zz_F K V)) s.heap := hP
  have hl := lv_entry ([.ref (a 0)]) (n := 3) (Nat.le_of_ble_eq_true rfl)
  rw [lg_entry_eq]
  generalize (lg_sl ([.ref (a 0)]) ++ List.replicate (3 - (lg_sl ([.ref (a 0)])).length) Slot.unset).toArray = ls at hl ⊢
  have hl : lv_has ls 3 [(0, .ref (a 0))] := hl
  refine lv_iconst (v := 0) hx hb dX7_waitingFields_0 (by decide) ?_
  refine lv_istore_n (lv' := [(1, .int 0), (0, .ref (a 0))]) hx hb dX7_waitingFields_1 rfl hl (by decide) rfl (fun ls hl => ?_)
  refine lv_iconst (v := 0) hx hb dX7_waitingFields_2 (by decide) ?_
  refine lv_istore_n (lv' := [(2, .int 0), (1, .int 0), (0, .ref (a 0))]) hx hb dX7_waitingFields_3 rfl hl (by decide) rfl (fun ls hl => ?_)
  refine zz_loopS (fun (u : (Nat) × (Nat)) => match u with | (k, y) => (([(a 0, .inr (7, [.ref (a 1), .ref (a 10), .ref (a 23), .ref (a 24), .ref (a 26), .ref (a 29), .ref (a 34), .ref (a 43), .int (nI nh), .int (nI nf), .int (nI nc), .int hi])), (a 10, .inl (cF, 12, .inr (.inr (.inr (.inr fF)))))] : va_W) ++ va_pl L (zz_F K V))) (fun (u : (Nat) × (Nat)) => match u with | (k, y) => [(0, .ref (a 0)), (1, .int (nI y)), (2, .int (nI k))]) (fun (u : (Nat) × (Nat)) => match u with | (k, y) => k ≤ nf ∧ y = zz_ctp vf2 k) (fun (u : (Nat) × (Nat)) => match u with | (k, y) => nf - k) (fun u hI H locs ls hP hD hS hl ih_4 => ?_) (0, 0) ⟨by omega, rfl⟩ _ _ _ (hP.part (cx := [(a 0, .inr (7, [.ref (a 1), .ref (a 10), .ref (a 23), .ref (a 24), .ref (a 26), .ref (a 29), .ref (a 34), .ref (a 43), .int (nI nh), .int (nI nf), .int (nI nc), .int hi])), (a 10, .inl (cF, 12, .inr (.inr (.inr (.inr fF)))))]) [0, 1] rfl) (hD.part (cx := [(a 0, .inr (7, [.ref (a 1), .ref (a 10), .ref (a 23), .ref (a 24), .ref (a 26), .ref (a 29), .ref (a 34), .ref (a 43), .int (nI nh), .int (nI nf), .int (nI nc), .int hi])), (a 10, .inl (cF, 12, .inr (.inr (.inr (.inr fF)))))]) [0, 1] (by decide) rfl) hS (lv_sub hl [2, 1, 0] rfl)
  obtain ⟨k, y⟩ := u
  obtain ⟨hP, hD⟩ := zz_ty (D := (dC, dI)) (cl := vwCl) (A := (fun _ => True)) (H := H) (([(a 0, .inr (7, [.ref (a 1), .ref (a 10), .ref (a 23), .ref (a 24), .ref (a 26), .ref (a 29), .ref (a 34), .ref (a 43), .int (nI nh), .int (nI nf), .int (nI nc), .int hi])), (a 10, .inl (cF, 12, .inr (.inr (.inr (.inr fF)))))] : va_W) ++ va_pl L (zz_F K V)) hP hD rfl
  have hl : lv_has ls 3 [(0, .ref (a 0)), (1, .int (nI y)), (2, .int (nI k))] := hl
  have hI : k ≤ nf ∧ y = zz_ctp vf2 k := hI
  obtain ⟨ik, iy⟩ := hI
  refine lv_iload_n hx hb dX7_waitingFields_4 rfl (lv_at hl 2 rfl) ?_
  refine lv_aload_n hx hb dX7_waitingFields_5 rfl (lv_at hl 0 rfl) ?_
  refine va_get (D := (dC, dI)) (ci := 7) (v := .int (nI nf)) (C := RX7) (T := TX7) (N := 12) hx hb hw zz_inX7 hown hK hP 0 rfl rfl 9 (by decide) (hw _ tw_6) (fun _ h9 => h9) rfl dX7_waitingFields_6 ?_
  refine lv_icmp_ge (tgt := 33) hx hb dX7_waitingFields_9 (by decide) (fun c_1 => ?_) (fun c_1 => ?_)
  · have zc_1 := c_1
    rw [Int32.le_iff_toInt_le] at zc_1
    try rw [zz_toInt k (by omega)] at zc_1
    try rw [zz_toInt nf (by omega)] at zc_1
    refine lv_iload_n hx hb dX7_waitingFields_33 rfl (lv_at hl 1 rfl) ?_
    exact W.iret (v := (nI y)) hx hb hr (fun t ht hW => ⟨⟨(nI y), (), rfl, (by rw [iy, show k = nf from by omega]), trivial⟩, hS.F ht⟩) hS.2.2 dX7_waitingFields_34
  · have zc_1 := c_1
    rw [Int32.le_iff_toInt_le] at zc_1
    try rw [zz_toInt k (by omega)] at zc_1
    try rw [zz_toInt nf (by omega)] at zc_1
    refine lv_aload_n hx hb dX7_waitingFields_12 rfl (lv_at hl 0 rfl) ?_
    refine va_get (D := (dC, dI)) (ci := 7) (v := .ref (a 10)) (C := RX7) (T := TX7) (N := 12) hx hb hw zz_inX7 hown hK hP 0 rfl rfl 1 (by decide) (hw _ tw_7) (fun _ h9 => h9) rfl dX7_waitingFields_13 ?_
    refine lv_iload_n hx hb dX7_waitingFields_16 rfl (lv_at hl 2 rfl) ?_
    refine va_aldq hx hb hK hP 1 0 rfl rfl (vp_in_iff.mpr (by rw [zz_toInt k (by omega)]; constructor <;> omega)) dX7_waitingFields_17 ?_
    refine zz_setv (.ref (a (11 + k))) (by rw [zz_cl (by omega)]; exact congrArg va_rf (hfF k (by omega))) ?_
    obtain ⟨kq_2, hq_2⟩ := zz_pg3 (X := [(a 0, .inr (7, [.ref (a 1), .ref (a 10), .ref (a 23), .ref (a 24), .ref (a 26), .ref (a 29), .ref (a 34), .ref (a 43), .int (nI nh), .int (nI nf), .int (nI nc), .int hi])), (a 10, .inl (cF, 12, .inr (.inr (.inr (.inr fF)))))]) (V := V) (hF k (by omega)).1 (hF k (by omega)).2
    have hDo := hD
    refine va_getN (D := (dC, dI)) (ci := 3) (v := .int (V (a (11 + k)) 2)) (C := RX3) (T := TX3) (N := 7) hx hb hw zz_inX3 hown hK hP kq_2 hq_2 rfl 2 (by decide) (hN.use zz_n13) (fun _ h9 => h9) rfl dX7_waitingFields_18 ?_
    refine zz_seti (vf2 k) (zz_RVg3_2 hR (by omega)) ?_
    refine lv_if_le (tgt := 27) hx hb dX7_waitingFields_21 (by decide) (fun c_3 => ?_) (fun c_3 => ?_)
    · have zc_3 := c_3
      rw [Int32.le_iff_toInt_le] at zc_3
      try rw [show (0 : Int32).toInt = 0 from by decide] at zc_3
      refine lv_iinc (v := (nI (k + 1))) (lv' := [(2, .int (nI (k + 1))), (0, .ref (a 0)), (1, .int (nI y))]) hx hb dX7_waitingFields_27 hl (k := 2) rfl (nI_1 _) (by decide) rfl (fun ls hl => ?_)
      refine lv_goto (tgt := 4) hx hb dX7_waitingFields_30 (by decide) ?_
      exact ih_4 ((k + 1), y) ⟨by omega, (by rw [zz_ctp, if_neg (by omega), ← iy, Nat.add_zero])⟩ (show nf - (k + 1) < nf - k from by omega) _ _ _ (hP.part (cx := [(a 0, .inr (7, [.ref (a 1), .ref (a 10), .ref (a 23), .ref (a 24), .ref (a 26), .ref (a 29), .ref (a 34), .ref (a 43), .int (nI nh), .int (nI nf), .int (nI nc), .int hi])), (a 10, .inl (cF, 12, .inr (.inr (.inr (.inr fF)))))]) [0, 1] rfl) (hD.part (cx := [(a 0, .inr (7, [.ref (a 1), .ref (a 10), .ref (a 23), .ref (a 24), .ref (a 26), .ref (a 29), .ref (a 34), .ref (a 43), .int (nI nh), .int (nI nf), .int (nI nc), .int hi])), (a 10, .inl (cF, 12, .inr (.inr (.inr (.inr fF)))))]) [0, 1] (by decide) rfl) hS (lv_sub hl [1, 2, 0] rfl)
    · have zc_3 := c_3
      rw [Int32.le_iff_toInt_le] at zc_3
      try rw [show (0 : Int32).toInt = 0 from by decide] at zc_3
      refine lv_iinc (v := (nI (y + 1))) (lv' := [(1, .int (nI (y + 1))), (0, .ref (a 0)), (2, .int (nI k))]) hx hb dX7_waitingFields_24 hl (k := 1) rfl (nI_1 _) (by decide) rfl (fun ls hl => ?_)
      refine lv_iinc (v := (nI (k + 1))) (lv' := [(2, .int (nI (k + 1))), (1, .int (nI (y + 1))), (0, .ref (a 0))]) hx hb dX7_waitingFields_27 hl (k := 2) rfl (nI_1 _) (by decide) rfl (fun ls hl => ?_)
      refine lv_goto (tgt := 4) hx hb dX7_waitingFields_30 (by decide) ?_
      exact ih_4 ((k + 1), (y + 1)) ⟨by omega, (by rw [zz_ctp, if_pos (by omega), ← iy])⟩ (show nf - (k + 1) < nf - k from by omega) _ _ _ (hP.part (cx := [(a 0, .inr (7, [.ref (a 1), .ref (a 10), .ref (a 23), .ref (a 24), .ref (a 26), .ref (a 29), .ref (a 34), .ref (a 43), .int (nI nh), .int (nI nf), .int (nI nc), .int hi])), (a 10, .inl (cF, 12, .inr (.inr (.inr (.inr fF)))))]) [0, 1] rfl) (hD.part (cx := [(a 0, .inr (7, [.ref (a 1), .ref (a 10), .ref (a 23), .ref (a 24), .ref (a 26), .ref (a 29), .ref (a 34), .ref (a 43), .int (nI nh), .int (nI nf), .int (nI nc), .int hi])), (a 10, .inl (cF, 12, .inr (.inr (.inr (.inr fF)))))]) [0, 1] (by decide) rfl) hS (lv_sub hl [2, 1, 0] rfl)
set_option maxHeartbeats 4000000 in
set_option maxRecDepth 100000 in
theorem kx_plan (l : Launch) (dC : Nat → ClassId) (dI : Nat → Nat → Nat) (a : Nat → Nat) (nh : Nat) (nf : Nat) (nc : Nat) (hi : Int32) (cF : ClassId) (fF : Nat → Option Nat) (V : Nat → Nat → Int32) (vh0 : Nat → Int32) (vh1 : Nat → Int32) (vh2 : Nat → Int32) (vh3 : Nat → Int32) (vh4 : Nat → Int32) (vh5 : Nat → Int32) (vh6 : Nat → Int32) (vh7 : Nat → Int32) (vh8 : Nat → Int32) (vf0 : Nat → Int32) (vf1 : Nat → Int32) (vf2 : Nat → Int32) (vf3 : Nat → Int32) (vf4 : Nat → Int32) (vf5 : Nat → Int32) (vf6 : Nat → Int32) (cI : ClassId) (fl : Nat → Int32) (np : Nat) (cc : Nat) (td : Int32) (hd : Int32) (q0 : Nat → Int32) (q1 : Nat → Int32) (q2 : Nat → Int32) (q3 : Nat → Int32) (q4 : Nat → Int32) (q5 : Nat → Int32) (q6 : Nat → Int32) (q7 : Nat → Int32) (p0 : Int32) (L : List Nat) (K : Nat → Nat) (sz : Nat) (hc8 : nh ≤ 8) (hf12 : nf ≤ 12) (hfF : ∀ k, k < 12 → fF k = some (a (11 + k))) (hF : ∀ k, k < 12 → a (11 + k) ∈ L ∧ K (a (11 + k)) = 3) (hR : zz_RV a V vh0 vh1 vh2 vh3 vh4 vh5 vh6 vh7 vh8 vf0 vf1 vf2 vf3 vf4 vf5 vf6) (hnp : np ≤ 7) (hcc : cc ≤ 7) (hbn : zz_bnx q6) (hnc : nc ≤ 400) (hrn : zz_rg vf2 nf 0 60) (hrr : zz_rg vf3 nf 0 400) (hrv : zz_rg vf4 nf 0 10000) (hlr : zz_rg fl 10 0 100) : Met l yX7_plan (zz_w yX7_plan cX7_plan 3 (some .int)) ({ frames := 4, cells := 0, slots := 0, locals := 92 }) (va_Pc [.ref (a 0), .int p0] (zz_B (dC, dI) sz (([(a 0, .inr (7, [.ref (a 1), .ref (a 10), .ref (a 23), .ref (a 24), .ref (a 26), .ref (a 29), .ref (a 34), .ref (a 43), .int (nI nh), .int (nI nf), .int (nI nc), .int hi])), (a 10, .inl (cF, 12, .inr (.inr (.inr (.inr fF))))), (a 23, .inl (cI, 10, .inl fl)), (a 43, .inr (5, [.ref (a 44), .ref (a 45), .ref (a 46), .ref (a 47), .ref (a 48), .ref (a 49), .ref (a 50), .ref (a 51), .int (nI cc), .int (nI np), .int td, .int hd])), (a 44, .inl (cI, 7, .inl q0)), (a 45, .inl (cI, 7, .inl q1)), (a 46, .inl (cI, 7, .inl q2)), (a 47, .inl (cI, 7, .inl q3)), (a 48, .inl (cI, 7, .inl q4)), (a 49, .inl (cI, 128, .inl q5)), (a 50, .inl (cI, 128, .inl q6)), (a 51, .inl (cI, 7, .inl q7))] : va_W) ++ va_pl L (zz_F K V)) [(cF, .object RX3), (cI, .int)])) (va_Qi (fun (r : Int32) (u : Nat × Nat × Int32 × Int32 × (Nat → Int32) × (Nat → Int32) × (Nat → Int32) × (Nat → Int32) × (Nat → Int32) × (Nat → Int32) × (Nat → Int32) × (Nat → Int32)) => match u with | (n2, c2, _, _, _, _, _, _, _, _, b2, o7) => n2 ≤ 7 ∧ zz_bnx b2 ∧ c2 ≤ 7 ∧ ((¬ ((1 ≤ p0.toInt ∧ p0.toInt ≤ 99) ∧ zz_ctp vf2 nf ≤ 7) ∧ r = -1 ∧ c2 = cc ∧ o7 = q7) ∨ (((1 ≤ p0.toInt ∧ p0.toInt ≤ 99) ∧ zz_ctp vf2 nf ≤ 7) ∧ zz_Bst fl vf4 vf3 vf2 nc p0.toInt.toNat (zz_ctp vf2 nf) (fun q => q < nf ∧ 1 ≤ (vf2 q).toInt) (fun _ => True) r o7 ∧ c2 = zz_ctp vf2 nf))) (fun (u : Nat × Nat × Int32 × Int32 × (Nat → Int32) × (Nat → Int32) × (Nat → Int32) × (Nat → Int32) × (Nat → Int32) × (Nat → Int32) × (Nat → Int32) × (Nat → Int32)) (t : State) => match u with | (u0, u1, u2, u3, u4, u5, u6, u7, u8, u9, u10, u11) => va_P (dC, dI) vwCl (([(a 0, .inr (7, [.ref (a 1), .ref (a 10), .ref (a 23), .ref (a 24), .ref (a 26), .ref (a 29), .ref (a 34), .ref (a 43), .int (nI nh), .int (nI nf), .int (nI nc), .int hi])), (a 10, .inl (cF, 12, .inr (.inr (.inr (.inr fF))))), (a 23, .inl (cI, 10, .inl fl)), (a 43, .inr (5, [.ref (a 44), .ref (a 45), .ref (a 46), .ref (a 47), .ref (a 48), .ref (a 49), .ref (a 50), .ref (a 51), .int (nI u1), .int (nI u0), .int u2, .int u3])), (a 44, .inl (cI, 7, .inl u4)), (a 45, .inl (cI, 7, .inl u5)), (a 46, .inl (cI, 7, .inl u6)), (a 47, .inl (cI, 7, .inl u7)), (a 48, .inl (cI, 7, .inl u8)), (a 49, .inl (cI, 128, .inl u9)), (a 50, .inl (cI, 128, .inl u10)), (a 51, .inl (cI, 7, .inl u11))] : va_W) ++ va_pl L (zz_F K V)) t.heap ∧ va_K (dC, dI) vwCl [(cF, .object RX3), (cI, .int)] t ∧ va_D (va_A (([(a 0, .inr (7, [.ref (a 1), .ref (a 10), .ref (a 23), .ref (a 24), .ref (a 26), .ref (a 29), .ref (a 34), .ref (a 43), .int (nI nh), .int (nI nf), .int (nI nc), .int hi])), (a 10, .inl (cF, 12, .inr (.inr (.inr (.inr fF))))), (a 23, .inl (cI, 10, .inl fl)), (a 43, .inr (5, [.ref (a 44), .ref (a 45), .ref (a 46), .ref (a 47), .ref (a 48), .ref (a 49), .ref (a 50), .ref (a 51), .int (nI cc), .int (nI np), .int td, .int hd])), (a 44, .inl (cI, 7, .inl q0)), (a 45, .inl (cI, 7, .inl q1)), (a 46, .inl (cI, 7, .inl q2)), (a 47, .inl (cI, 7, .inl q3)), (a 48, .inl (cI, 7, .inl q4)), (a 49, .inl (cI, 128, .inl q5)), (a 50, .inl (cI, 128, .inl q6)), (a 51, .inl (cI, 7, .inl q7))] : va_W) ++ va_pl L (zz_F K V)) sz) (([(a 0, .inr (7, [.ref (a 1), .ref (a 10), .ref (a 23), .ref (a 24), .ref (a 26), .ref (a 29), .ref (a 34), .ref (a 43), .int (nI nh), .int (nI nf), .int (nI nc), .int hi])), (a 10, .inl (cF, 12, .inr (.inr (.inr (.inr fF))))), (a 23, .inl (cI, 10, .inl fl)), (a 43, .inr (5, [.ref (a 44), .ref (a 45), .ref (a 46), .ref (a 47), .ref (a 48), .ref (a 49), .ref (a 50), .ref (a 51), .int (nI u1), .int (nI u0), .int u2, .int u3])), (a 44, .inl (cI, 7, .inl u4)), (a 45, .inl (cI, 7, .inl u5)), (a 46, .inl (cI, 7, .inl u6)), (a 47, .inl (cI, 7, .inl u7)), (a 48, .inl (cI, 7, .inl u8)), (a 49, .inl (cI, 128, .inl u9)), (a 50, .inl (cI, 128, .inl u10)), (a 51, .inl (cI, 7, .inl u11))] : va_W) ++ va_pl L (zz_F K V))) (va_A (([(a 0, .inr (7, [.ref (a 1), .ref (a 10), .ref (a 23), .ref (a 24), .ref (a 26), .ref (a 29), .ref (a 34), .ref (a 43), .int (nI nh), .int (nI nf), .int (nI nc), .int hi])), (a 10, .inl (cF, 12, .inr (.inr (.inr (.inr fF))))), (a 23, .inl (cI, 10, .inl fl)), (a 43, .inr (5, [.ref (a 44), .ref (a 45), .ref (a 46), .ref (a 47), .ref (a 48), .ref (a 49), .ref (a 50), .ref (a 51), .int (nI cc), .int (nI np), .int td, .int hd])), (a 44, .inl (cI, 7, .inl q0)), (a 45, .inl (cI, 7, .inl q1)), (a 46, .inl (cI, 7, .inl q2)), (a 47, .inl (cI, 7, .inl q3)), (a 48, .inl (cI, 7, .inl q4)), (a 49, .inl (cI, 128, .inl q5)), (a 50, .inl (cI, 128, .inl q6)), (a 51, .inl (cI, 7, .inl q7))] : va_W) ++ va_pl L (zz_F K V)) sz)) 0 0 (va_A (([(a 0, .inr (7, [.ref (a 1), .ref (a 10), .ref (a 23), .ref (a 24), .ref (a 26), .ref (a 29), .ref (a 34), .ref (a 43), .int (nI nh), .int (nI nf), .int (nI nc), .int hi])), (a 10, .inl (cF, 12, .inr (.inr (.inr (.inr fF))))), (a 23, .inl (cI, 10, .inl fl)), (a 43, .inr (5, [.ref (a 44), .ref (a 45), .ref (a 46), .ref (a 47), .ref (a 48), .ref (a 49), .ref (a 50), .ref (a 51), .int (nI cc), .int (nI np), .int td, .int hd])), (a 44, .inl (cI, 7, .inl q0)), (a 45, .inl (cI, 7, .inl q1)), (a 46, .inl (cI, 7, .inl q2)), (a 47, .inl (cI, 7, .inl q3)), (a 48, .inl (cI, 7, .inl q4)), (a 49, .inl (cI, 128, .inl q5)), (a 50, .inl (cI, 128, .inl q6)), (a 51, .inl (cI, 7, .inl q7))] : va_W) ++ va_pl L (zz_F K V)) sz) := by
  refine Met.ofW (cc := cX7_plan) (maxL := 3) (ret := (some .int)) (by decide) rfl ?_
  intro p e s m args below meth c s₁ B hml hv
  obtain ⟨rfl, hsz, hP, hK, hD0, hN⟩ := hv
  have hx := B.exec
  have hb := B.bytes
  have hr := B.returns
  have hts := atoms_spec (ws := zz_w yX7_plan cX7_plan 3 (some .int)) B.pre
  have hw : ∀ w ∈ zz_all, w.before _ s = true := fun w h => hts w (List.mem_cons_of_mem _ h)
  have hown : s.vm.findClass RX7 = some m.cls := findClass_of_methodNamed B.named
  have hlocks := B.notSynchronized
  subst hsz
  have hD := hD0.self (sz := s.heap.size)
  generalize hAe : va_A (([(a 0, .inr (7, [.ref (a 1), .ref (a 10), .ref (a 23), .ref (a 24), .ref (a 26), .ref (a 29), .ref (a 34), .ref (a 43), .int (nI nh), .int (nI nf), .int (nI nc), .int hi])), (a 10, .inl (cF, 12, .inr (.inr (.inr (.inr fF))))), (a 23, .inl (cI, 10, .inl fl)), (a 43, .inr (5, [.ref (a 44), .ref (a 45), .ref (a 46), .ref (a 47), .ref (a 48), .ref (a 49), .ref (a 50), .ref (a 51), .int (nI cc), .int (nI np), .int td, .int hd])), (a 44, .inl (cI, 7, .inl q0)), (a 45, .inl (cI, 7, .inl q1)), (a 46, .inl (cI, 7, .inl q2)), (a 47, .inl (cI, 7, .inl q3)), (a 48, .inl (cI, 7, .inl q4)), (a 49, .inl (cI, 128, .inl q5)), (a 50, .inl (cI, 128, .inl q6)), (a 51, .inl (cI, 7, .inl q7))] : va_W) ++ va_pl L (zz_F K V)) s.heap.size = A at hD ⊢
  have hA : ∀ q : Nat, s.heap.size ≤ q → A q := fun q h => by rw [← hAe]; exact Or.inr h
  have hS : va_S A s.heap s.heap [] := va_S.rf
  have hP : va_P (dC, dI) vwCl (([(a 0, .inr (7, [.ref (a 1), .ref (a 10), .ref (a 23), .ref (a 24), .ref (a 26), .ref (a 29), .ref (a 34), .ref (a 43), .int (nI nh), .int (nI nf), .int (nI nc), .int hi])), (a 10, .inl (cF, 12, .inr (.inr (.inr (.inr fF))))), (a 23, .inl (cI, 10, .inl fl)), (a 43, .inr (5, [.ref (a 44), .ref (a 45), .ref (a 46), .ref (a 47), .ref (a 48), .ref (a 49), .ref (a 50), .ref (a 51), .int (nI cc), .int (nI np), .int td, .int hd])), (a 44, .inl (cI, 7, .inl q0)), (a 45, .inl (cI, 7, .inl q1)), (a 46, .inl (cI, 7, .inl q2)), (a 47, .inl (cI, 7, .inl q3)), (a 48, .inl (cI, 7, .inl q4)), (a 49, .inl (cI, 128, .inl q5)), (a 50, .inl (cI, 128, .inl q6)), (a 51, .inl (cI, 7, .inl q7))] : va_W) ++ va_pl L (zz_F K V)) s.heap := hP
  have hl := lv_entry ([.ref (a 0), .int p0]) (n := 3) (Nat.le_of_ble_eq_true rfl)
  rw [lg_entry_eq]
  generalize (lg_sl ([.ref (a 0), .int p0]) ++ List.replicate (3 - (lg_sl ([.ref (a 0), .int p0])).length) Slot.unset).toArray = ls at hl ⊢
  have hl : lv_has ls 3 [(0, .ref (a 0)), (1, .int p0)] := hl
  refine lv_iload_n hx hb dX7_plan_0 rfl (lv_at hl 1 rfl) ?_
  refine lv_iconst (v := 1) hx hb dX7_plan_1 (by decide) ?_
  refine lv_bipush (v := 99) hx hb dX7_plan_2 (by decide) ?_
  obtain ⟨hPc, hDc⟩ := zz_sub2 (ws' := []) hP hD [] (by decide) rfl
  have hKc := hK.sub (tys' := []) [] rfl
  have hFc := zz_free0 hS hA
  refine va_calli (va_runS (As := [.int p0, .int 1, .int 99]) (rest := []) ⟨hx, hb, hml, hown, hw⟩ (k_within l dC dI p0 1 99 s.heap.size) ⟨callB_of 3 hw (zz_good tw_1) rfl rfl rfl (hw _ tw_2) (hw _ tw_3) (by decide +kernel) ⟨Nat.le_of_ble_eq_true rfl, Nat.le_of_ble_eq_true rfl⟩, (hw _ tw_4)⟩ ⟨zz_blind, zz_pre hPc hKc hDc hN⟩ rfl rfl hl.1 rfl (lv_room (Nat.le_of_ble_eq_true rfl)) dX7_plan_4 ⟨Nat.le_of_ble_eq_true rfl, Nat.le_of_ble_eq_true rfl⟩) hS (fun q _ h => hFc q h) hFc (fun r_1 u_1 t H1 locs ht hvm e_1 hB hz1 hk1 hS => ?_)
  try dsimp only at e_1
  have hP := zz_keep hP hk1
  clear hk1 hB ht hvm
  generalize H1 = H at hP hS ⊢
  refine lv_if_eq (tgt := 19) hx hb dX7_plan_7 (by decide) (fun c_2 => ?_) (fun c_2 => ?_)
  · have zc_2 := c_2
    rw [e_1, zz_in0, Int32.le_iff_toInt_le, Int32.le_iff_toInt_le] at zc_2
    try rw [show (1 : Int32).toInt = 1 from by decide] at zc_2
    try rw [show (99 : Int32).toInt = 99 from by decide] at zc_2
    refine lv_iconst (v := (-1)) hx hb dX7_plan_19 (by decide) ?_
    obtain ⟨hP9, hD9⟩ := zz_part2 (cx := [(a 0, .inr (7, [.ref (a 1), .ref (a 10), .ref (a 23), .ref (a 24), .ref (a 26), .ref (a 29), .ref (a 34), .ref (a 43), .int (nI nh), .int (nI nf), .int (nI nc), .int hi])), (a 10, .inl (cF, 12, .inr (.inr (.inr (.inr fF))))), (a 23, .inl (cI, 10, .inl fl)), (a 43, .inr (5, [.ref (a 44), .ref (a 45), .ref (a 46), .ref (a 47), .ref (a 48), .ref (a 49), .ref (a 50), .ref (a 51), .int (nI cc), .int (nI np), .int td, .int hd])), (a 44, .inl (cI, 7, .inl q0)), (a 45, .inl (cI, 7, .inl q1)), (a 46, .inl (cI, 7, .inl q2)), (a 47, .inl (cI, 7, .inl q3)), (a 48, .inl (cI, 7, .inl q4)), (a 49, .inl (cI, 128, .inl q5)), (a 50, .inl (cI, 128, .inl q6)), (a 51, .inl (cI, 7, .inl q7))]) hP hD [0, 1, 2, 3, 4, 5, 6, 7, 8, 9, 10, 11] (by decide) rfl
    have hK9 := hK.sub (tys' := [(cF, .object RX3), (cI, .int)]) [0, 1] rfl
    exact W.iret (v := (-1)) hx hb hr (fun t ht hW => ⟨⟨(-1), (np, cc, td, hd, q0, q1, q2, q3, q4, q5, q6, q7), rfl, ⟨hnp, hbn, hcc, Or.inl ⟨by omega, rfl, rfl, rfl⟩⟩, by rw [ht]; exact hP9, va_K.moved hW.alike hK9, hD9⟩, hS.F ht⟩) hS.2.2 dX7_plan_20
  · have zc_2 := c_2
    rw [e_1, zz_in0, Int32.le_iff_toInt_le, Int32.le_iff_toInt_le] at zc_2
    try rw [show (1 : Int32).toInt = 1 from by decide] at zc_2
    try rw [show (99 : Int32).toInt = 99 from by decide] at zc_2
    have hw12 := zz_ctp_b (f := vf2) nf
    refine lv_aload_n hx hb dX7_plan_10 rfl (lv_at hl 0 rfl) ?_
    obtain ⟨hPc, hDc⟩ := zz_part2 (cx := [(a 0, .inr (7, [.ref (a 1), .ref (a 10), .ref (a 23), .ref (a 24), .ref (a 26), .ref (a 29), .ref (a 34), .ref (a 43), .int (nI nh), .int (nI nf), .int (nI nc), .int hi])), (a 10, .inl (cF, 12, .inr (.inr (.inr (.inr fF)))))]) hP hD [0, 1] (by decide) rfl
    have hKc := hK.sub (tys' := [(cF, .object RX3)]) [0] rfl
    have hFc := zz_free0 hS hA
    refine va_calli (va_runV (As := []) (rest := []) ⟨hx, hb, hml, hown, hw⟩ (kx_waiting l dC dI a nh nf nc hi cF fF V vh0 vh1 vh2 vh3 vh4 vh5 vh6 vh7 vh8 vf0 vf1 vf2 vf3 vf4 vf5 vf6 L K H.size (by omega) (by omega) hfF hF hR) ⟨callB_of 0 hw (zz_good tw_168) rfl rfl rfl (hw _ tw_2) (hw _ tw_169) (by decide +kernel) ⟨Nat.le_of_ble_eq_true rfl, Nat.le_of_ble_eq_true rfl⟩, (hw _ tw_170), (hw _ tw_171)⟩ ⟨zz_blind, va_recv hKc hPc (ci := 7) (q0 := 0) rfl rfl, zz_pre hPc hKc hDc hN⟩ rfl rfl hl.1 rfl (lv_room (Nat.le_of_ble_eq_true rfl)) dX7_plan_11 ⟨Nat.le_of_ble_eq_true rfl, Nat.le_of_ble_eq_true rfl⟩) hS (fun q _ h => hFc q h) hFc (fun r_3 u_3 t H1 locs ht hvm e_3 hB hz1 hk1 hS => ?_)
    try dsimp only at e_3
    have hP := zz_keep hP hk1
    clear hk1 hB ht hvm
    generalize H1 = H at hP hS ⊢
    refine zz_seti (nI (zz_ctp vf2 nf)) e_3 ?_
    refine lv_bipush (v := 7) hx hb dX7_plan_14 (by decide) ?_
    refine lv_icmp_le (tgt := 21) hx hb dX7_plan_16 (by decide) (fun c_4 => ?_) (fun c_4 => ?_)
    · have zc_4 := c_4
      rw [Int32.le_iff_toInt_le] at zc_4
      try rw [zz_toInt (zz_ctp vf2 nf) (by omega)] at zc_4
      try rw [show (7 : Int32).toInt = 7 from by decide] at zc_4
      have hw7 : zz_ctp vf2 nf ≤ 7 := by omega
      refine lv_aload_n hx hb dX7_plan_21 rfl (lv_at hl 0 rfl) ?_
      refine va_get (D := (dC, dI)) (ci := 7) (v := .ref (a 43)) (C := RX7) (T := TX7) (N := 12) hx hb hw zz_inX7 hown hK hP 0 rfl rfl 7 (by decide) (hw _ tw_172) (fun _ h9 => h9) rfl dX7_plan_22 ?_
      refine lv_aload_n hx hb dX7_plan_25 rfl (lv_at hl 0 rfl) ?_
      refine va_get (D := (dC, dI)) (ci := 7) (v := .int (nI nc)) (C := RX7) (T := TX7) (N := 12) hx hb hw zz_inX7 hown hK hP 0 rfl rfl 10 (by decide) (hw _ tw_39) (fun _ h9 => h9) rfl dX7_plan_26 ?_
      refine lv_iload_n hx hb dX7_plan_29 rfl (lv_at hl 1 rfl) ?_
      obtain ⟨hPc, hDc⟩ := zz_sub2 (ws' := [(a 43, .inr (5, [.ref (a 44), .ref (a 45), .ref (a 46), .ref (a 47), .ref (a 48), .ref (a 49), .ref (a 50), .ref (a 51), .int (nI cc), .int (nI np), .int td, .int hd]))]) hP hD [3] (by decide) rfl
      have hKc := hK.sub (tys' := []) [] rfl
      have hFc := zz_free1 hDc hS hA
      refine va_callv (va_runVN (As := [.int (nI nc), .int p0]) (rest := []) ⟨hx, hb, hml, hown, hw⟩ (kx_begin l dC dI a np cc td hd nc p0 H.size (by omega)) ⟨va_cnB 2 hw (zz_good tw_173) rfl rfl rfl (hN.1 _ zz_n62) (hw _ tw_152) (by decide +kernel) ⟨Nat.le_of_ble_eq_true rfl, Nat.le_of_ble_eq_true rfl⟩, (hw _ tw_174), (hw _ tw_175)⟩ ⟨zz_blind, va_recv hKc hPc (ci := 5) (q0 := 0) rfl rfl, zz_pre hPc hKc hDc hN⟩ rfl rfl hl.1 rfl (lv_room (Nat.le_of_ble_eq_true rfl)) dX7_plan_30 ⟨Nat.le_of_ble_eq_true rfl, Nat.le_of_ble_eq_true rfl⟩) hS (fun q _ h => hFc q h) hFc (fun u_5 t H1 locs ht hvm e_5 hB hz1 hk1 hS => ?_)
      try dsimp only at e_5
      obtain ⟨hP1, hK1, hD1⟩ := hB
      rw [ht] at hP1
      have hK1 := va_K.moved hvm.symm hK1
      try dsimp only at e_5
      obtain ⟨hP, hD⟩ := va_joinQ (wr := [(a 0, .inr (7, [.ref (a 1), .ref (a 10), .ref (a 23), .ref (a 24), .ref (a 26), .ref (a 29), .ref (a 34), .ref (a 43), .int (nI nh), .int (nI nf), .int (nI nc), .int hi])), (a 10, .inl (cF, 12, .inr (.inr (.inr (.inr fF))))), (a 23, .inl (cI, 10, .inl fl)), (a 44, .inl (cI, 7, .inl q0)), (a 45, .inl (cI, 7, .inl q1)), (a 46, .inl (cI, 7, .inl q2)), (a 47, .inl (cI, 7, .inl q3)), (a 48, .inl (cI, 7, .inl q4)), (a 49, .inl (cI, 128, .inl q5)), (a 50, .inl (cI, 128, .inl q6)), (a 51, .inl (cI, 7, .inl q7))]) (w1 := [(a 43, .inr (5, [.ref (a 44), .ref (a 45), .ref (a 46), .ref (a 47), .ref (a 48), .ref (a 49), .ref (a 50), .ref (a 51), .int (nI cc), .int (nI 0), .int (nI nc), .int p0]))]) hP hD [3] [0, 1, 2, 4, 5, 6, 7, 8, 9, 10, 11] rfl rfl (by decide) (by decide) hk1 hFc hP1 hD1
      clear hk1 ht hvm
      generalize H1 = H at hP hS ⊢
      obtain ⟨hP, hD⟩ := zz_ty (D := (dC, dI)) (cl := vwCl) (A := A) (H := H) (([(a 0, .inr (7, [.ref (a 1), .ref (a 10), .ref (a 23), .ref (a 24), .ref (a 26), .ref (a 29), .ref (a 34), .ref (a 43), .int (nI nh), .int (nI nf), .int (nI nc), .int hi])), (a 10, .inl (cF, 12, .inr (.inr (.inr (.inr fF))))), (a 23, .inl (cI, 10, .inl fl)), (a 44, .inl (cI, 7, .inl q0)), (a 45, .inl (cI, 7, .inl q1)), (a 46, .inl (cI, 7, .inl q2)), (a 47, .inl (cI, 7, .inl q3)), (a 48, .inl (cI, 7, .inl q4)), (a 49, .inl (cI, 128, .inl q5)), (a 50, .inl (cI, 128, .inl q6)), (a 51, .inl (cI, 7, .inl q7)), (a 43, .inr (5, [.ref (a 44), .ref (a 45), .ref (a 46), .ref (a 47), .ref (a 48), .ref (a 49), .ref (a 50), .ref (a 51), .int (nI cc), .int (nI 0), .int (nI nc), .int p0]))] : va_W) ++ va_pl L (zz_F K V)) hP hD rfl
      refine lv_iconst (v := 0) hx hb dX7_plan_33 (by decide) ?_
      refine lv_istore_n (lv' := [(2, .int 0), (0, .ref (a 0)), (1, .int p0)]) hx hb dX7_plan_34 rfl hl (by decide) rfl (fun ls hl => ?_)
      refine zz_loopS (fun (u : (Nat) × (Nat) × (Nat → Int32) × (Nat → Int32) × (Nat → Int32) × (Nat → Int32) × (Nat → Int32)) => match u with | (i, mp, h0, h1, h2, h3, h4) => (([(a 0, .inr (7, [.ref (a 1), .ref (a 10), .ref (a 23), .ref (a 24), .ref (a 26), .ref (a 29), .ref (a 34), .ref (a 43), .int (nI nh), .int (nI nf), .int (nI nc), .int hi])), (a 10, .inl (cF, 12, .inr (.inr (.inr (.inr fF))))), (a 23, .inl (cI, 10, .inl fl)), (a 43, .inr (5, [.ref (a 44), .ref (a 45), .ref (a 46), .ref (a 47), .ref (a 48), .ref (a 49), .ref (a 50), .ref (a 51), .int (nI cc), .int (nI mp), .int (nI nc), .int p0])), (a 44, .inl (cI, 7, .inl h0)), (a 45, .inl (cI, 7, .inl h1)), (a 46, .inl (cI, 7, .inl h2)), (a 47, .inl (cI, 7, .inl h3)), (a 48, .inl (cI, 7, .inl h4)), (a 49, .inl (cI, 128, .inl q5)), (a 50, .inl (cI, 128, .inl q6)), (a 51, .inl (cI, 7, .inl q7))] : va_W) ++ va_pl L (zz_F K V))) (fun (u : (Nat) × (Nat) × (Nat → Int32) × (Nat → Int32) × (Nat → Int32) × (Nat → Int32) × (Nat → Int32)) => match u with | (i, mp, h0, h1, h2, h3, h4) => [(0, .ref (a 0)), (1, .int p0), (2, .int (nI i))]) (fun (u : (Nat) × (Nat) × (Nat → Int32) × (Nat → Int32) × (Nat → Int32) × (Nat → Int32) × (Nat → Int32)) => match u with | (i, mp, h0, h1, h2, h3, h4) => i ≤ nf ∧ mp = zz_ctp vf2 i ∧ mp ≤ 7 ∧ zz_tk7 h0 h1 h2 h3 h4 vf2 vf3 vf4 nc mp (fun q => q < i ∧ 1 ≤ (vf2 q).toInt)) (fun (u : (Nat) × (Nat) × (Nat → Int32) × (Nat → Int32) × (Nat → Int32) × (Nat → Int32) × (Nat → Int32)) => match u with | (i, mp, h0, h1, h2, h3, h4) => nf - i) (fun u hI H locs ls hP hD hS hl ih_35 => ?_) (0, 0, q0, q1, q2, q3, q4) ⟨by omega, rfl, by omega, zz_tk_0⟩ _ _ _ (hP.part (cx := [(a 0, .inr (7, [.ref (a 1), .ref (a 10), .ref (a 23), .ref (a 24), .ref (a 26), .ref (a 29), .ref (a 34), .ref (a 43), .int (nI nh), .int (nI nf), .int (nI nc), .int hi])), (a 10, .inl (cF, 12, .inr (.inr (.inr (.inr fF))))), (a 23, .inl (cI, 10, .inl fl)), (a 43, .inr (5, [.ref (a 44), .ref (a 45), .ref (a 46), .ref (a 47), .ref (a 48), .ref (a 49), .ref (a 50), .ref (a 51), .int (nI cc), .int (nI 0), .int (nI nc), .int p0])), (a 44, .inl (cI, 7, .inl q0)), (a 45, .inl (cI, 7, .inl q1)), (a 46, .inl (cI, 7, .inl q2)), (a 47, .inl (cI, 7, .inl q3)), (a 48, .inl (cI, 7, .inl q4)), (a 49, .inl (cI, 128, .inl q5)), (a 50, .inl (cI, 128, .inl q6)), (a 51, .inl (cI, 7, .inl q7))]) [0, 1, 2, 11, 3, 4, 5, 6, 7, 8, 9, 10] rfl) (hD.part (cx := [(a 0, .inr (7, [.ref (a 1), .ref (a 10), .ref (a 23), .ref (a 24), .ref (a 26), .ref (a 29), .ref (a 34), .ref (a 43), .int (nI nh), .int (nI nf), .int (nI nc), .int hi])), (a 10, .inl (cF, 12, .inr (.inr (.inr (.inr fF))))), (a 23, .inl (cI, 10, .inl fl)), (a 43, .inr (5, [.ref (a 44), .ref (a 45), .ref (a 46), .ref (a 47), .ref (a 48), .ref (a 49), .ref (a 50), .ref (a 51), .int (nI cc), .int (nI 0), .int (nI nc), .int p0])), (a 44, .inl (cI, 7, .inl q0)), (a 45, .inl (cI, 7, .inl q1)), (a 46, .inl (cI, 7, .inl q2)), (a 47, .inl (cI, 7, .inl q3)), (a 48, .inl (cI, 7, .inl q4)), (a 49, .inl (cI, 128, .inl q5)), (a 50, .inl (cI, 128, .inl q6)), (a 51, .inl (cI, 7, .inl q7))]) [0, 1, 2, 11, 3, 4, 5, 6, 7, 8, 9, 10] (by decide) rfl) hS (lv_sub hl [1, 2, 0] rfl)
      obtain ⟨i, mp, h0, h1, h2, h3, h4⟩ := u
      obtain ⟨hP, hD⟩ := zz_ty (D := (dC, dI)) (cl := vwCl) (A := A) (H := H) (([(a 0, .inr (7, [.ref (a 1), .ref (a 10), .ref (a 23), .ref (a 24), .ref (a 26), .ref (a 29), .ref (a 34), .ref (a 43), .int (nI nh), .int (nI nf), .int (nI nc), .int hi])), (a 10, .inl (cF, 12, .inr (.inr (.inr (.inr fF))))), (a 23, .inl (cI, 10, .inl fl)), (a 43, .inr (5, [.ref (a 44), .ref (a 45), .ref (a 46), .ref (a 47), .ref (a 48), .ref (a 49), .ref (a 50), .ref (a 51), .int (nI cc), .int (nI mp), .int (nI nc), .int p0])), (a 44, .inl (cI, 7, .inl h0)), (a 45, .inl (cI, 7, .inl h1)), (a 46, .inl (cI, 7, .inl h2)), (a 47, .inl (cI, 7, .inl h3)), (a 48, .inl (cI, 7, .inl h4)), (a 49, .inl (cI, 128, .inl q5)), (a 50, .inl (cI, 128, .inl q6)), (a 51, .inl (cI, 7, .inl q7))] : va_W) ++ va_pl L (zz_F K V)) hP hD rfl
      have hl : lv_has ls 3 [(0, .ref (a 0)), (1, .int p0), (2, .int (nI i))] := hl
      have hI : i ≤ nf ∧ mp = zz_ctp vf2 i ∧ mp ≤ 7 ∧ zz_tk7 h0 h1 h2 h3 h4 vf2 vf3 vf4 nc mp (fun q => q < i ∧ 1 ≤ (vf2 q).toInt) := hI
      obtain ⟨ii, im, im7, it⟩ := hI
      refine lv_iload_n hx hb dX7_plan_35 rfl (lv_at hl 2 rfl) ?_
      refine lv_aload_n hx hb dX7_plan_36 rfl (lv_at hl 0 rfl) ?_
      refine va_get (D := (dC, dI)) (ci := 7) (v := .int (nI nf)) (C := RX7) (T := TX7) (N := 12) hx hb hw zz_inX7 hown hK hP 0 rfl rfl 9 (by decide) (hw _ tw_6) (fun _ h9 => h9) rfl dX7_plan_37 ?_
      refine lv_icmp_ge (tgt := 75) hx hb dX7_plan_40 (by decide) (fun c_6 => ?_) (fun c_6 => ?_)
      · have zc_6 := c_6
        rw [Int32.le_iff_toInt_le] at zc_6
        try rw [zz_toInt i (by omega)] at zc_6
        try rw [zz_toInt nf (by omega)] at zc_6
        refine lv_aload_n hx hb dX7_plan_75 rfl (lv_at hl 0 rfl) ?_
        refine va_get (D := (dC, dI)) (ci := 7) (v := .ref (a 43)) (C := RX7) (T := TX7) (N := 12) hx hb hw zz_inX7 hown hK hP 0 rfl rfl 7 (by decide) (hw _ tw_172) (fun _ h9 => h9) rfl dX7_plan_76 ?_
        refine lv_aload_n hx hb dX7_plan_79 rfl (lv_at hl 0 rfl) ?_
        refine va_get (D := (dC, dI)) (ci := 7) (v := .ref (a 23)) (C := RX7) (T := TX7) (N := 12) hx hb hw zz_inX7 hown hK hP 0 rfl rfl 2 (by decide) (hw _ tw_40) (fun _ h9 => h9) rfl dX7_plan_80 ?_
        obtain ⟨hPc, hDc⟩ := zz_sub2 (ws' := [(a 43, .inr (5, [.ref (a 44), .ref (a 45), .ref (a 46), .ref (a 47), .ref (a 48), .ref (a 49), .ref (a 50), .ref (a 51), .int (nI cc), .int (nI mp), .int (nI nc), .int p0])), (a 44, .inl (cI, 7, .inl h0)), (a 45, .inl (cI, 7, .inl h1)), (a 46, .inl (cI, 7, .inl h2)), (a 47, .inl (cI, 7, .inl h3)), (a 48, .inl (cI, 7, .inl h4)), (a 49, .inl (cI, 128, .inl q5)), (a 50, .inl (cI, 128, .inl q6)), (a 51, .inl (cI, 7, .inl q7)), (a 23, .inl (cI, 10, .inl fl))]) hP hD [3, 4, 5, 6, 7, 8, 9, 10, 11, 2] (by decide) rfl
        have hKc := hK.sub (tys' := [(cI, .int)]) [1] rfl
        have hFc := zz_free1 hDc hS hA
        refine va_calli (va_runVN (As := [.ref (a 23)]) (rest := []) ⟨hx, hb, hml, hown, hw⟩ (kx_choose l dC dI a cI mp cc nc p0 h0 h1 h2 h3 h4 q5 q6 q7 fl vf2 vf3 vf4 (fun q => q < nf ∧ 1 ≤ (vf2 q).toInt) H.size (by omega) hbn hnc (by omega) (by have h9 : i = nf := (by omega); rw [h9] at it; exact it) (fun q9 h9 => ⟨h9.2, (hrn q9 h9.1).2⟩) (fun q9 h9 => hrr q9 h9.1) (fun q9 h9 => hrv q9 h9.1) hlr) ⟨va_cnB 1 hw (zz_good tw_176) rfl rfl rfl (hN.1 _ zz_n64) (hw _ tw_152) (by decide +kernel) ⟨Nat.le_of_ble_eq_true rfl, Nat.le_of_ble_eq_true rfl⟩, (hw _ tw_177), (hw _ tw_178)⟩ ⟨zz_blind, va_recv hKc hPc (ci := 5) (q0 := 0) rfl rfl, zz_pre hPc hKc hDc hN⟩ rfl rfl hl.1 rfl (lv_room (Nat.le_of_ble_eq_true rfl)) dX7_plan_83 ⟨Nat.le_of_ble_eq_true rfl, Nat.le_of_ble_eq_true rfl⟩) hS (fun q _ h => hFc q h) hFc (fun r_7 u_7 t H1 locs ht hvm e_7 hB hz1 hk1 hS => ?_)
        try dsimp only at e_7
        obtain ⟨v_7_0, v_7_1, v_7_2, v_7_3⟩ := u_7
        obtain ⟨hP1, hK1, hD1⟩ := hB
        rw [ht] at hP1
        have hK1 := va_K.moved hvm.symm hK1
        try dsimp only at e_7
        obtain ⟨hP, hD⟩ := va_joinQ (wr := [(a 0, .inr (7, [.ref (a 1), .ref (a 10), .ref (a 23), .ref (a 24), .ref (a 26), .ref (a 29), .ref (a 34), .ref (a 43), .int (nI nh), .int (nI nf), .int (nI nc), .int hi])), (a 10, .inl (cF, 12, .inr (.inr (.inr (.inr fF)))))]) (w1 := [(a 43, .inr (5, [.ref (a 44), .ref (a 45), .ref (a 46), .ref (a 47), .ref (a 48), .ref (a 49), .ref (a 50), .ref (a 51), .int (nI v_7_0), .int (nI mp), .int (nI nc), .int p0])), (a 44, .inl (cI, 7, .inl h0)), (a 45, .inl (cI, 7, .inl h1)), (a 46, .inl (cI, 7, .inl h2)), (a 47, .inl (cI, 7, .inl h3)), (a 48, .inl (cI, 7, .inl h4)), (a 49, .inl (cI, 128, .inl v_7_1)), (a 50, .inl (cI, 128, .inl v_7_2)), (a 51, .inl (cI, 7, .inl v_7_3)), (a 23, .inl (cI, 10, .inl fl))]) hP hD [3, 4, 5, 6, 7, 8, 9, 10, 11, 2] [0, 1] rfl rfl (by decide) (by decide) hk1 hFc hP1 hD1
        clear hk1 ht hvm
        generalize H1 = H at hP hS ⊢
        obtain ⟨hP, hD⟩ := zz_ty (D := (dC, dI)) (cl := vwCl) (A := A) (H := H) (([(a 0, .inr (7, [.ref (a 1), .ref (a 10), .ref (a 23), .ref (a 24), .ref (a 26), .ref (a 29), .ref (a 34), .ref (a 43), .int (nI nh), .int (nI nf), .int (nI nc), .int hi])), (a 10, .inl (cF, 12, .inr (.inr (.inr (.inr fF))))), (a 43, .inr (5, [.ref (a 44), .ref (a 45), .ref (a 46), .ref (a 47), .ref (a 48), .ref (a 49), .ref (a 50), .ref (a 51), .int (nI v_7_0), .int (nI mp), .int (nI nc), .int p0])), (a 44, .inl (cI, 7, .inl h0)), (a 45, .inl (cI, 7, .inl h1)), (a 46, .inl (cI, 7, .inl h2)), (a 47, .inl (cI, 7, .inl h3)), (a 48, .inl (cI, 7, .inl h4)), (a 49, .inl (cI, 128, .inl v_7_1)), (a 50, .inl (cI, 128, .inl v_7_2)), (a 51, .inl (cI, 7, .inl v_7_3)), (a 23, .inl (cI, 10, .inl fl))] : va_W) ++ va_pl L (zz_F K V)) hP hD rfl
        obtain ⟨hP9, hD9⟩ := zz_part2 (cx := [(a 0, .inr (7, [.ref (a 1), .ref (a 10), .ref (a 23), .ref (a 24), .ref (a 26), .ref (a 29), .ref (a 34), .ref (a 43), .int (nI nh), .int (nI nf), .int (nI nc), .int hi])), (a 10, .inl (cF, 12, .inr (.inr (.inr (.inr fF))))), (a 23, .inl (cI, 10, .inl fl)), (a 43, .inr (5, [.ref (a 44), .ref (a 45), .ref (a 46), .ref (a 47), .ref (a 48), .ref (a 49), .ref (a 50), .ref (a 51), .int (nI v_7_0), .int (nI mp), .int (nI nc), .int p0])), (a 44, .inl (cI, 7, .inl h0)), (a 45, .inl (cI, 7, .inl h1)), (a 46, .inl (cI, 7, .inl h2)), (a 47, .inl (cI, 7, .inl h3)), (a 48, .inl (cI, 7, .inl h4)), (a 49, .inl (cI, 128, .inl v_7_1)), (a 50, .inl (cI, 128, .inl v_7_2)), (a 51, .inl (cI, 7, .inl v_7_3))]) hP hD [0, 1, 11, 2, 3, 4, 5, 6, 7, 8, 9, 10] (by decide) rfl
        have hK9 := hK.sub (tys' := [(cF, .object RX3), (cI, .int)]) [0, 1] rfl
        exact W.iret (v := r_7) hx hb hr (fun t ht hW => ⟨⟨r_7, (mp, v_7_0, (nI nc), p0, h0, h1, h2, h3, h4, v_7_1, v_7_2, v_7_3), rfl, ⟨by omega, e_7.2.1, (by rw [e_7.1]; omega), Or.inr ⟨by omega, (by rw [show zz_ctp vf2 nf = mp from by rw [im, show i = nf from by omega]]; exact e_7.2.2), (by rw [e_7.1, im, show i = nf from by omega])⟩⟩, by rw [ht]; exact hP9, va_K.moved hW.alike hK9, hD9⟩, hS.F ht⟩) hS.2.2 dX7_plan_86
      · have zc_6 := c_6
        rw [Int32.le_iff_toInt_le] at zc_6
        try rw [zz_toInt i (by omega)] at zc_6
        try rw [zz_toInt nf (by omega)] at zc_6
        refine lv_aload_n hx hb dX7_plan_43 rfl (lv_at hl 0 rfl) ?_
        refine va_get (D := (dC, dI)) (ci := 7) (v := .ref (a 10)) (C := RX7) (T := TX7) (N := 12) hx hb hw zz_inX7 hown hK hP 0 rfl rfl 1 (by decide) (hw _ tw_7) (fun _ h9 => h9) rfl dX7_plan_44 ?_
        refine lv_iload_n hx hb dX7_plan_47 rfl (lv_at hl 2 rfl) ?_
        refine va_aldq hx hb hK hP 1 0 rfl rfl (vp_in_iff.mpr (by rw [zz_toInt i (by omega)]; constructor <;> omega)) dX7_plan_48 ?_
        refine zz_setv (.ref (a (11 + i))) (by rw [zz_cl (by omega)]; exact congrArg va_rf (hfF i (by omega))) ?_
        obtain ⟨kq_8, hq_8⟩ := zz_pg3 (X := [(a 0, .inr (7, [.ref (a 1), .ref (a 10), .ref (a 23), .ref (a 24), .ref (a 26), .ref (a 29), .ref (a 34), .ref (a 43), .int (nI nh), .int (nI nf), .int (nI nc), .int hi])), (a 10, .inl (cF, 12, .inr (.inr (.inr (.inr fF))))), (a 23, .inl (cI, 10, .inl fl)), (a 43, .inr (5, [.ref (a 44), .ref (a 45), .ref (a 46), .ref (a 47), .ref (a 48), .ref (a 49), .ref (a 50), .ref (a 51), .int (nI cc), .int (nI mp), .int (nI nc), .int p0])), (a 44, .inl (cI, 7, .inl h0)), (a 45, .inl (cI, 7, .inl h1)), (a 46, .inl (cI, 7, .inl h2)), (a 47, .inl (cI, 7, .inl h3)), (a 48, .inl (cI, 7, .inl h4)), (a 49, .inl (cI, 128, .inl q5)), (a 50, .inl (cI, 128, .inl q6)), (a 51, .inl (cI, 7, .inl q7))]) (V := V) (hF i (by omega)).1 (hF i (by omega)).2
        have hDo := hD
        refine va_getN (D := (dC, dI)) (ci := 3) (v := .int (V (a (11 + i)) 2)) (C := RX3) (T := TX3) (N := 7) hx hb hw zz_inX3 hown hK hP kq_8 hq_8 rfl 2 (by decide) (hN.use zz_n13) (fun _ h9 => h9) rfl dX7_plan_49 ?_
        refine zz_seti (vf2 i) (zz_RVg3_2 hR (by omega)) ?_
        refine lv_if_le (tgt := 69) hx hb dX7_plan_52 (by decide) (fun c_9 => ?_) (fun c_9 => ?_)
        · have zc_9 := c_9
          rw [Int32.le_iff_toInt_le] at zc_9
          try rw [show (0 : Int32).toInt = 0 from by decide] at zc_9
          refine lv_iinc (v := (nI (i + 1))) (lv' := [(2, .int (nI (i + 1))), (0, .ref (a 0)), (1, .int p0)]) hx hb dX7_plan_69 hl (k := 2) rfl (nI_1 _) (by decide) rfl (fun ls hl => ?_)
          refine lv_goto (tgt := 35) hx hb dX7_plan_72 (by decide) ?_
          exact ih_35 ((i + 1), mp, h0, h1, h2, h3, h4) ⟨by omega, (by rw [zz_ctp, if_neg (by omega), Nat.add_zero, ← im]), by omega, zz_tk_no it (by omega)⟩ (show nf - (i + 1) < nf - i from by omega) _ _ _ (hP.part (cx := [(a 0, .inr (7, [.ref (a 1), .ref (a 10), .ref (a 23), .ref (a 24), .ref (a 26), .ref (a 29), .ref (a 34), .ref (a 43), .int (nI nh), .int (nI nf), .int (nI nc), .int hi])), (a 10, .inl (cF, 12, .inr (.inr (.inr (.inr fF))))), (a 23, .inl (cI, 10, .inl fl)), (a 43, .inr (5, [.ref (a 44), .ref (a 45), .ref (a 46), .ref (a 47), .ref (a 48), .ref (a 49), .ref (a 50), .ref (a 51), .int (nI cc), .int (nI mp), .int (nI nc), .int p0])), (a 44, .inl (cI, 7, .inl h0)), (a 45, .inl (cI, 7, .inl h1)), (a 46, .inl (cI, 7, .inl h2)), (a 47, .inl (cI, 7, .inl h3)), (a 48, .inl (cI, 7, .inl h4)), (a 49, .inl (cI, 128, .inl q5)), (a 50, .inl (cI, 128, .inl q6)), (a 51, .inl (cI, 7, .inl q7))]) [0, 1, 2, 3, 4, 5, 6, 7, 8, 9, 10, 11] rfl) (hD.part (cx := [(a 0, .inr (7, [.ref (a 1), .ref (a 10), .ref (a 23), .ref (a 24), .ref (a 26), .ref (a 29), .ref (a 34), .ref (a 43), .int (nI nh), .int (nI nf), .int (nI nc), .int hi])), (a 10, .inl (cF, 12, .inr (.inr (.inr (.inr fF))))), (a 23, .inl (cI, 10, .inl fl)), (a 43, .inr (5, [.ref (a 44), .ref (a 45), .ref (a 46), .ref (a 47), .ref (a 48), .ref (a 49), .ref (a 50), .ref (a 51), .int (nI cc), .int (nI mp), .int (nI nc), .int p0])), (a 44, .inl (cI, 7, .inl h0)), (a 45, .inl (cI, 7, .inl h1)), (a 46, .inl (cI, 7, .inl h2)), (a 47, .inl (cI, 7, .inl h3)), (a 48, .inl (cI, 7, .inl h4)), (a 49, .inl (cI, 128, .inl q5)), (a 50, .inl (cI, 128, .inl q6)), (a 51, .inl (cI, 7, .inl q7))]) [0, 1, 2, 3, 4, 5, 6, 7, 8, 9, 10, 11] (by decide) rfl) hS (lv_sub hl [1, 2, 0] rfl)
        · have zc_9 := c_9
          rw [Int32.le_iff_toInt_le] at zc_9
          try rw [show (0 : Int32).toInt = 0 from by decide] at zc_9
          have hc7 : mp < 7 := by rw [im]; exact zz_ctp_lt (show 1 ≤ (vf2 i).toInt by omega) (by omega) hw7
          refine lv_aload_n hx hb dX7_plan_55 rfl (lv_at hl 0 rfl) ?_
          refine va_get (D := (dC, dI)) (ci := 7) (v := .ref (a 43)) (C := RX7) (T := TX7) (N := 12) hx hb hw zz_inX7 hown hK hP 0 rfl rfl 7 (by decide) (hw _ tw_172) (fun _ h9 => h9) rfl dX7_plan_56 ?_
          refine lv_iload_n hx hb dX7_plan_59 rfl (lv_at hl 2 rfl) ?_
          refine lv_aload_n hx hb dX7_plan_60 rfl (lv_at hl 0 rfl) ?_
          refine va_get (D := (dC, dI)) (ci := 7) (v := .ref (a 10)) (C := RX7) (T := TX7) (N := 12) hx hb hw zz_inX7 hown hK hP 0 rfl rfl 1 (by decide) (hw _ tw_7) (fun _ h9 => h9) rfl dX7_plan_61 ?_
          refine lv_iload_n hx hb dX7_plan_64 rfl (lv_at hl 2 rfl) ?_
          refine va_aldq hx hb hK hP 1 0 rfl rfl (vp_in_iff.mpr (by rw [zz_toInt i (by omega)]; constructor <;> omega)) dX7_plan_65 ?_
          refine zz_setv (.ref (a (11 + i))) (by rw [zz_cl (by omega)]; exact congrArg va_rf (hfF i (by omega))) ?_
          obtain ⟨hPc, hDc⟩ := zz_part2 (cx := [(a 43, .inr (5, [.ref (a 44), .ref (a 45), .ref (a 46), .ref (a 47), .ref (a 48), .ref (a 49), .ref (a 50), .ref (a 51), .int (nI cc), .int (nI mp), .int (nI nc), .int p0])), (a 44, .inl (cI, 7, .inl h0)), (a 45, .inl (cI, 7, .inl h1)), (a 46, .inl (cI, 7, .inl h2)), (a 47, .inl (cI, 7, .inl h3)), (a 48, .inl (cI, 7, .inl h4))]) hP hD [3, 4, 5, 6, 7, 8] (by decide) rfl
          have hKc := hK.sub (tys' := [(cI, .int)]) [1] rfl
          have hFc := zz_free1 hDc hS hA
          refine va_callv (va_runVN (As := [.int (nI i), .ref (a (11 + i))]) (rest := []) ⟨hx, hb, hml, hown, hw⟩ (kx_take l dC dI a cI mp cc nc p0 h0 h1 h2 h3 h4 V vh0 vh1 vh2 vh3 vh4 vh5 vh6 vh7 vh8 vf0 vf1 vf2 vf3 vf4 vf5 vf6 i L K H.size (by omega) hF (by omega) hR hnc (hrr i (by omega))) ⟨va_cnB 2 hw (zz_good tw_179) rfl rfl rfl (hN.1 _ zz_n63) (hw _ tw_152) (by decide +kernel) ⟨Nat.le_of_ble_eq_true rfl, Nat.le_of_ble_eq_true rfl⟩, (hw _ tw_180), (hw _ tw_181)⟩ ⟨zz_blind, va_recv hKc hPc (ci := 5) (q0 := 0) rfl rfl, zz_pre hPc hKc hDc hN⟩ rfl rfl hl.1 rfl (lv_room (Nat.le_of_ble_eq_true rfl)) dX7_plan_66 ⟨Nat.le_of_ble_eq_true rfl, Nat.le_of_ble_eq_true rfl⟩) hS (fun q _ h => hFc q h) hFc (fun u_10 t H1 locs ht hvm e_10 hB hz1 hk1 hS => ?_)
          try dsimp only at e_10
          obtain ⟨t0x, t1x, t2x, t3x, t4x⟩ := u_10
          obtain ⟨hP1, hK1, hD1⟩ := hB
          rw [ht] at hP1
          have hK1 := va_K.moved hvm.symm hK1
          try dsimp only at e_10
          obtain ⟨hP, hD⟩ := va_joinP (cx := [(a 43, .inr (5, [.ref (a 44), .ref (a 45), .ref (a 46), .ref (a 47), .ref (a 48), .ref (a 49), .ref (a 50), .ref (a 51), .int (nI cc), .int (nI mp), .int (nI nc), .int p0])), (a 44, .inl (cI, 7, .inl h0)), (a 45, .inl (cI, 7, .inl h1)), (a 46, .inl (cI, 7, .inl h2)), (a 47, .inl (cI, 7, .inl h3)), (a 48, .inl (cI, 7, .inl h4))]) (wr := [(a 0, .inr (7, [.ref (a 1), .ref (a 10), .ref (a 23), .ref (a 24), .ref (a 26), .ref (a 29), .ref (a 34), .ref (a 43), .int (nI nh), .int (nI nf), .int (nI nc), .int hi])), (a 10, .inl (cF, 12, .inr (.inr (.inr (.inr fF))))), (a 23, .inl (cI, 10, .inl fl)), (a 49, .inl (cI, 128, .inl q5)), (a 50, .inl (cI, 128, .inl q6)), (a 51, .inl (cI, 7, .inl q7))]) (rx := [(a 43, .inr (5, [.ref (a 44), .ref (a 45), .ref (a 46), .ref (a 47), .ref (a 48), .ref (a 49), .ref (a 50), .ref (a 51), .int (nI cc), .int (nI (mp + 1)), .int (nI nc), .int p0])), (a 44, .inl (cI, 7, .inl t0x)), (a 45, .inl (cI, 7, .inl t1x)), (a 46, .inl (cI, 7, .inl t2x)), (a 47, .inl (cI, 7, .inl t3x)), (a 48, .inl (cI, 7, .inl t4x))]) hP hD [3, 4, 5, 6, 7, 8] [0, 1, 2, 9, 10, 11] rfl rfl (by decide) (by decide) hk1 hFc hP1 hD1
          clear hk1 ht hvm
          generalize H1 = H at hP hS ⊢
          obtain ⟨hP, hD⟩ := zz_ty (D := (dC, dI)) (cl := vwCl) (A := A) (H := H) (([(a 0, .inr (7, [.ref (a 1), .ref (a 10), .ref (a 23), .ref (a 24), .ref (a 26), .ref (a 29), .ref (a 34), .ref (a 43), .int (nI nh), .int (nI nf), .int (nI nc), .int hi])), (a 10, .inl (cF, 12, .inr (.inr (.inr (.inr fF))))), (a 23, .inl (cI, 10, .inl fl)), (a 49, .inl (cI, 128, .inl q5)), (a 50, .inl (cI, 128, .inl q6)), (a 51, .inl (cI, 7, .inl q7)), (a 43, .inr (5, [.ref (a 44), .ref (a 45), .ref (a 46), .ref (a 47), .ref (a 48), .ref (a 49), .ref (a 50), .ref (a 51), .int (nI cc), .int (nI (mp + 1)), .int (nI nc), .int p0])), (a 44, .inl (cI, 7, .inl t0x)), (a 45, .inl (cI, 7, .inl t1x)), (a 46, .inl (cI, 7, .inl t2x)), (a 47, .inl (cI, 7, .inl t3x)), (a 48, .inl (cI, 7, .inl t4x))] : va_W) ++ va_pl L (zz_F K V)) hP hD rfl
          obtain ⟨kx, sx, xs0, xs1, xe0, xe1, xe2, xe3, xe4, xs2, xs3⟩ := e_10
          refine lv_iinc (v := (nI (i + 1))) (lv' := [(2, .int (nI (i + 1))), (0, .ref (a 0)), (1, .int p0)]) hx hb dX7_plan_69 hl (k := 2) rfl (nI_1 _) (by decide) rfl (fun ls hl => ?_)
          refine lv_goto (tgt := 35) hx hb dX7_plan_72 (by decide) ?_
          exact ih_35 ((i + 1), (mp + 1), t0x, t1x, t2x, t3x, t4x) ⟨by omega, (by rw [zz_ctp, if_pos (by omega), ← im]), by omega, zz_tk_yes it (by omega) (by omega) xs1 xe0 xe1 xe2 xe3 xe4 xs0 xs2 xs3⟩ (show nf - (i + 1) < nf - i from by omega) _ _ _ (hP.part (cx := [(a 0, .inr (7, [.ref (a 1), .ref (a 10), .ref (a 23), .ref (a 24), .ref (a 26), .ref (a 29), .ref (a 34), .ref (a 43), .int (nI nh), .int (nI nf), .int (nI nc), .int hi])), (a 10, .inl (cF, 12, .inr (.inr (.inr (.inr fF))))), (a 23, .inl (cI, 10, .inl fl)), (a 43, .inr (5, [.ref (a 44), .ref (a 45), .ref (a 46), .ref (a 47), .ref (a 48), .ref (a 49), .ref (a 50), .ref (a 51), .int (nI cc), .int (nI (mp + 1)), .int (nI nc), .int p0])), (a 44, .inl (cI, 7, .inl t0x)), (a 45, .inl (cI, 7, .inl t1x)), (a 46, .inl (cI, 7, .inl t2x)), (a 47, .inl (cI, 7, .inl t3x)), (a 48, .inl (cI, 7, .inl t4x)), (a 49, .inl (cI, 128, .inl q5)), (a 50, .inl (cI, 128, .inl q6)), (a 51, .inl (cI, 7, .inl q7))]) [0, 1, 2, 6, 7, 8, 9, 10, 11, 3, 4, 5] rfl) (hD.part (cx := [(a 0, .inr (7, [.ref (a 1), .ref (a 10), .ref (a 23), .ref (a 24), .ref (a 26), .ref (a 29), .ref (a 34), .ref (a 43), .int (nI nh), .int (nI nf), .int (nI nc), .int hi])), (a 10, .inl (cF, 12, .inr (.inr (.inr (.inr fF))))), (a 23, .inl (cI, 10, .inl fl)), (a 43, .inr (5, [.ref (a 44), .ref (a 45), .ref (a 46), .ref (a 47), .ref (a 48), .ref (a 49), .ref (a 50), .ref (a 51), .int (nI cc), .int (nI (mp + 1)), .int (nI nc), .int p0])), (a 44, .inl (cI, 7, .inl t0x)), (a 45, .inl (cI, 7, .inl t1x)), (a 46, .inl (cI, 7, .inl t2x)), (a 47, .inl (cI, 7, .inl t3x)), (a 48, .inl (cI, 7, .inl t4x)), (a 49, .inl (cI, 128, .inl q5)), (a 50, .inl (cI, 128, .inl q6)), (a 51, .inl (cI, 7, .inl q7))]) [0, 1, 2, 6, 7, 8, 9, 10, 11, 3, 4, 5] (by decide) rfl) hS (lv_sub hl [1, 2, 0] rfl)
    · have zc_4 := c_4
      rw [Int32.le_iff_toInt_le] at zc_4
      try rw [zz_toInt (zz_ctp vf2 nf) (by omega)] at zc_4
      try rw [show (7 : Int32).toInt = 7 from by decide] at zc_4
      refine lv_iconst (v := (-1)) hx hb dX7_plan_19 (by decide) ?_
      obtain ⟨hP9, hD9⟩ := zz_part2 (cx := [(a 0, .inr (7, [.ref (a 1), .ref (a 10), .ref (a 23), .ref (a 24), .ref (a 26), .ref (a 29), .ref (a 34), .ref (a 43), .int (nI nh), .int (nI nf), .int (nI nc), .int hi])), (a 10, .inl (cF, 12, .inr (.inr (.inr (.inr fF))))), (a 23, .inl (cI, 10, .inl fl)), (a 43, .inr (5, [.ref (a 44), .ref (a 45), .ref (a 46), .ref (a 47), .ref (a 48), .ref (a 49), .ref (a 50), .ref (a 51), .int (nI cc), .int (nI np), .int td, .int hd])), (a 44, .inl (cI, 7, .inl q0)), (a 45, .inl (cI, 7, .inl q1)), (a 46, .inl (cI, 7, .inl q2)), (a 47, .inl (cI, 7, .inl q3)), (a 48, .inl (cI, 7, .inl q4)), (a 49, .inl (cI, 128, .inl q5)), (a 50, .inl (cI, 128, .inl q6)), (a 51, .inl (cI, 7, .inl q7))]) hP hD [0, 1, 2, 3, 4, 5, 6, 7, 8, 9, 10, 11] (by decide) rfl
      have hK9 := hK.sub (tys' := [(cF, .object RX3), (cI, .int)]) [0, 1] rfl
      exact W.iret (v := (-1)) hx hb hr (fun t ht hW => ⟨⟨(-1), (np, cc, td, hd, q0, q1, q2, q3, q4, q5, q6, q7), rfl, ⟨hnp, hbn, hcc, Or.inl ⟨by omega, rfl, rfl, rfl⟩⟩, by rw [ht]; exact hP9, va_K.moved hW.alike hK9, hD9⟩, hS.F ht⟩) hS.2.2 dX7_plan_20
set_option maxHeartbeats 4000000 in
set_option maxRecDepth 100000 in
theorem kx_planned (l : Launch) (dC : Nat → ClassId) (dI : Nat → Nat → Nat) (a : Nat → Nat) (nh : Nat) (nf : Nat) (clk : Int32) (hi : Int32) (cI : ClassId) (np : Nat) (cc : Nat) (td : Int32) (hd : Int32) (q7 : Nat → Int32) (p0 : Int32) (sz : Nat) (hcc : cc ≤ 7) : Met l yX7_planned (zz_w yX7_planned cX7_planned 2 (some .int)) ({ frames := 1, cells := 0, slots := 0, locals := 22 }) (va_Pc [.ref (a 0), .int p0] (zz_B (dC, dI) sz [(a 0, .inr (7, [.ref (a 1), .ref (a 10), .ref (a 23), .ref (a 24), .ref (a 26), .ref (a 29), .ref (a 34), .ref (a 43), .int (nI nh), .int (nI nf), .int clk, .int hi])), (a 43, .inr (5, [.ref (a 44), .ref (a 45), .ref (a 46), .ref (a 47), .ref (a 48), .ref (a 49), .ref (a 50), .ref (a 51), .int (nI cc), .int (nI np), .int td, .int hd])), (a 51, .inl (cI, 7, .inl q7))] [(cI, .int)])) (va_Qi (fun (r : Int32) (_ : Unit) => r = (if 0 ≤ p0.toInt ∧ p0.toInt < (cc : Int) then q7 (Int32.toNatClampNeg p0) else -1)) (fun _ _ => True) (va_A [] sz)) 0 0 (va_A [] sz) := by
  refine Met.ofW (cc := cX7_planned) (maxL := 2) (ret := (some .int)) (by decide) rfl ?_
  intro p e s m args below meth c s₁ B hml hv
  obtain ⟨rfl, hsz, hP, hK, hD0, hN⟩ := hv
  have hx := B.exec
  have hb := B.bytes
  have hr := B.returns
  have hts := atoms_spec (ws := zz_w yX7_planned cX7_planned 2 (some .int)) B.pre
  have hw : ∀ w ∈ zz_all, w.before _ s = true := fun w h => hts w (List.mem_cons_of_mem _ h)
  have hown : s.vm.findClass RX7 = some m.cls := findClass_of_methodNamed B.named
  have hlocks := B.notSynchronized
  subst hsz
  have hD := hD0
  generalize hAe : va_A [] s.heap.size = A
  have hA : ∀ q : Nat, s.heap.size ≤ q → A q := fun q h => by rw [← hAe]; exact Or.inr h
  have hS : va_S A s.heap s.heap [] := va_S.rf
  have hP : va_P (dC, dI) vwCl [(a 0, .inr (7, [.ref (a 1), .ref (a 10), .ref (a 23), .ref (a 24), .ref (a 26), .ref (a 29), .ref (a 34), .ref (a 43), .int (nI nh), .int (nI nf), .int clk, .int hi])), (a 43, .inr (5, [.ref (a 44), .ref (a 45), .ref (a 46), .ref (a 47), .ref (a 48), .ref (a 49), .ref (a 50), .ref (a 51), .int (nI cc), .int (nI np), .int td, .int hd])), (a 51, .inl (cI, 7, .inl q7))] s.heap := hP
  have hl := lv_entry ([.ref (a 0), .int p0]) (n := 2) (Nat.le_of_ble_eq_true rfl)
  rw [lg_entry_eq]
  generalize (lg_sl ([.ref (a 0), .int p0]) ++ List.replicate (2 - (lg_sl ([.ref (a 0), .int p0])).length) Slot.unset).toArray = ls at hl ⊢
  have hl : lv_has ls 2 [(0, .ref (a 0)), (1, .int p0)] := hl
  refine lv_iload_n hx hb dX7_planned_0 rfl (lv_at hl 1 rfl) ?_
  refine lv_iconst (v := 0) hx hb dX7_planned_1 (by decide) ?_
  refine lv_aload_n hx hb dX7_planned_2 rfl (lv_at hl 0 rfl) ?_
  refine va_get (D := (dC, dI)) (ci := 7) (v := .ref (a 43)) (C := RX7) (T := TX7) (N := 12) hx hb hw zz_inX7 hown hK hP 0 rfl rfl 7 (by decide) (hw _ tw_172) (fun _ h9 => h9) rfl dX7_planned_3 ?_
  refine va_getN (D := (dC, dI)) (ci := 5) (v := .int (nI cc)) (C := RX5) (T := TX5) (N := 12) hx hb hw zz_inX5 hown hK hP 1 rfl rfl 8 (by decide) (hN.use zz_n45) (fun _ h9 => h9) rfl dX7_planned_6 ?_
  refine lv_iconst (v := 1) hx hb dX7_planned_9 (by decide) ?_
  refine lv_isub hx hb dX7_planned_10 ?_
  obtain ⟨hPc, hDc⟩ := zz_sub2 (ws' := []) hP hD [] (by decide) rfl
  have hKc := hK.sub (tys' := []) [] rfl
  have hFc := zz_free0 hS hA
  refine va_calli (va_runS (As := [.int p0, .int 0, .int ((nI cc) - 1)]) (rest := []) ⟨hx, hb, hml, hown, hw⟩ (k_within l dC dI p0 0 ((nI cc) - 1) s.heap.size) ⟨callB_of 3 hw (zz_good tw_1) rfl rfl rfl (hw _ tw_2) (hw _ tw_3) (by decide +kernel) ⟨Nat.le_of_ble_eq_true rfl, Nat.le_of_ble_eq_true rfl⟩, (hw _ tw_4)⟩ ⟨zz_blind, zz_pre hPc hKc hDc hN⟩ rfl rfl hl.1 rfl (lv_room (Nat.le_of_ble_eq_true rfl)) dX7_planned_11 ⟨Nat.le_of_ble_eq_true rfl, Nat.le_of_ble_eq_true rfl⟩) hS (fun q _ h => hFc q h) hFc (fun r_1 u_1 t H1 locs ht hvm e_1 hB hz1 hk1 hS => ?_)
  try dsimp only at e_1
  have hP := zz_keep hP hk1
  clear hk1 hB ht hvm
  generalize H1 = H at hP hS ⊢
  refine lv_if_eq (tgt := 29) hx hb dX7_planned_14 (by decide) (fun c_2 => ?_) (fun c_2 => ?_)
  · have zc_2 := c_2
    rw [e_1, zz_in0, Int32.le_iff_toInt_le, Int32.le_iff_toInt_le] at zc_2
    try rw [show (0 : Int32).toInt = 0 from by decide] at zc_2
    try rw [zz_pred (c := cc) (by omega)] at zc_2
    refine lv_iconst (v := (-1)) hx hb dX7_planned_29 (by decide) ?_
    exact W.iret (v := (-1)) hx hb hr (fun t ht hW => ⟨⟨(-1), (), rfl, (by first | exact (if_pos (by omega)).symm | exact (if_neg (by omega)).symm), trivial⟩, hS.F ht⟩) hS.2.2 dX7_planned_30
  · have zc_2 := c_2
    rw [e_1, zz_in0, Int32.le_iff_toInt_le, Int32.le_iff_toInt_le] at zc_2
    try rw [show (0 : Int32).toInt = 0 from by decide] at zc_2
    try rw [zz_pred (c := cc) (by omega)] at zc_2
    refine lv_aload_n hx hb dX7_planned_17 rfl (lv_at hl 0 rfl) ?_
    refine va_get (D := (dC, dI)) (ci := 7) (v := .ref (a 43)) (C := RX7) (T := TX7) (N := 12) hx hb hw zz_inX7 hown hK hP 0 rfl rfl 7 (by decide) (hw _ tw_172) (fun _ h9 => h9) rfl dX7_planned_18 ?_
    refine va_getN (D := (dC, dI)) (ci := 5) (v := .ref (a 51)) (C := RX5) (T := TX5) (N := 12) hx hb hw zz_inX5 hown hK hP 1 rfl rfl 7 (by decide) (hN.use zz_n44) (fun _ h9 => h9) rfl dX7_planned_21 ?_
    refine lv_iload_n hx hb dX7_planned_24 rfl (lv_at hl 1 rfl) ?_
    refine va_iald hx hb hK hP 2 0 rfl rfl (vp_in_iff.mpr (by constructor <;> omega)) dX7_planned_25 ?_
    refine lv_goto (tgt := 30) hx hb dX7_planned_26 (by decide) ?_
    exact W.iret (v := (q7 (Int32.toNatClampNeg p0))) hx hb hr (fun t ht hW => ⟨⟨(q7 (Int32.toNatClampNeg p0)), (), rfl, (by first | exact (if_pos (by omega)).symm | exact (if_neg (by omega)).symm), trivial⟩, hS.F ht⟩) hS.2.2 dX7_planned_30
